/-! WORDS of the tables, by their places -/
noncomputable section
set_option maxRecDepth 100000 in
def zg_tb : List Jvm.Cond := lw_tbl.filter goodWord
set_option maxRecDepth 100000 in
theorem zg_tb_all : zg_all zg_tb := fun w h => (List.mem_filter.mp h).2
set_option maxRecDepth 100000 in
theorem zg_tb_lw : ∀ w ∈ zg_tb, w ∈ lw_tbl := fun w h => (List.mem_filter.mp h).1
set_option maxRecDepth 100000 in
theorem zg_m0 {w : Jvm.Cond} (h : w ∈ tables_1) (g : goodWord w = true) : w ∈ zg_tb := List.mem_filter.mpr ⟨List.mem_append_right _ h, g⟩
set_option maxRecDepth 100000 in
theorem zg_mp {y : MethodName} {n : Nat} (h : (y, n) ∈ lw_privs) (g : goodWord (.selects y.cls y y) = true) : Jvm.Cond.selects y.cls y y ∈ zg_tb := List.mem_filter.mpr ⟨List.mem_append_left _ (List.mem_map.mpr ⟨(y, n), h, rfl⟩), g⟩
set_option maxRecDepth 100000 in
theorem zg_mc {ws : List Jvm.Cond} (ps : List Nat) (hp : ws = ps.filterMap (fun i => tables_1[i]?)) (h : ws.all goodWord = true) : ∀ w ∈ ws, w ∈ zg_tb := fun w hw => by
  have h1 := List.all_eq_true.mp h w hw
  rw [hp] at hw
  obtain ⟨i, -, hi⟩ := List.mem_filterMap.mp hw
  exact zg_m0 (List.mem_of_getElem? hi) h1
set_option maxRecDepth 100000 in
theorem zg_m1 {w : Jvm.Cond} {i : Nat} (h : tables_1_1[i]? = some w) (g : goodWord w = true) : w ∈ zg_tb := by
  have h := List.mem_of_getElem? h
  exact zg_m0 (List.mem_append_left _ h) g
set_option maxRecDepth 100000 in
theorem zg_m2 {w : Jvm.Cond} {i : Nat} (h : tables_1_2[i]? = some w) (g : goodWord w = true) : w ∈ zg_tb := by
  have h := List.mem_of_getElem? h
  exact zg_m0 (List.mem_append_right _ (List.mem_append_left _ h)) g
set_option maxRecDepth 100000 in
theorem zg_m3 {w : Jvm.Cond} {i : Nat} (h : tables_1_3[i]? = some w) (g : goodWord w = true) : w ∈ zg_tb := by
  have h := List.mem_of_getElem? h
  exact zg_m0 (List.mem_append_right _ (List.mem_append_right _ (List.mem_append_left _ h))) g
set_option maxRecDepth 100000 in
theorem zg_m4 {w : Jvm.Cond} {i : Nat} (h : tables_1_4[i]? = some w) (g : goodWord w = true) : w ∈ zg_tb := by
  have h := List.mem_of_getElem? h
  exact zg_m0 (List.mem_append_right _ (List.mem_append_right _ (List.mem_append_right _ (List.mem_append_left _ h)))) g
set_option maxRecDepth 100000 in
theorem zg_m5 {w : Jvm.Cond} {i : Nat} (h : tables_1_5[i]? = some w) (g : goodWord w = true) : w ∈ zg_tb := by
  have h := List.mem_of_getElem? h
  exact zg_m0 (List.mem_append_right _ (List.mem_append_right _ (List.mem_append_right _ (List.mem_append_right _ (List.mem_append_left _ h))))) g
set_option maxRecDepth 100000 in
theorem zg_m6 {w : Jvm.Cond} {i : Nat} (h : tables_1_6[i]? = some w) (g : goodWord w = true) : w ∈ zg_tb := by
  have h := List.mem_of_getElem? h
  exact zg_m0 (List.mem_append_right _ (List.mem_append_right _ (List.mem_append_right _ (List.mem_append_right _ (List.mem_append_right _ (List.mem_append_left _ h)))))) g
set_option maxRecDepth 100000 in
theorem zg_m7 {w : Jvm.Cond} {i : Nat} (h : tables_1_7[i]? = some w) (g : goodWord w = true) : w ∈ zg_tb := by
  have h := List.mem_of_getElem? h
  exact zg_m0 (List.mem_append_right _ (List.mem_append_right _ (List.mem_append_right _ (List.mem_append_right _ (List.mem_append_right _ (List.mem_append_right _ (List.mem_append_left _ h))))))) g
set_option maxRecDepth 100000 in
theorem zg_m8 {w : Jvm.Cond} {i : Nat} (h : tables_1_8[i]? = some w) (g : goodWord w = true) : w ∈ zg_tb := by
  have h := List.mem_of_getElem? h
  exact zg_m0 (List.mem_append_right _ (List.mem_append_right _ (List.mem_append_right _ (List.mem_append_right _ (List.mem_append_right _ (List.mem_append_right _ (List.mem_append_right _ (h)))))))) g
set_option maxRecDepth 100000 in
theorem zw_privs_1 {q : MethodName × Nat} (h : q ∈ lw_privs_1) : q ∈ lw_privs := List.mem_append_left _ h
set_option maxRecDepth 100000 in
theorem zw_privs_2 {q : MethodName × Nat} (h : q ∈ lw_privs_2) : q ∈ lw_privs := List.mem_append_right _ (List.mem_append_left _ h)
set_option maxRecDepth 100000 in
theorem zw_privs_3 {q : MethodName × Nat} (h : q ∈ lw_privs_3) : q ∈ lw_privs := List.mem_append_right _ (List.mem_append_right _ (List.mem_append_left _ h))
set_option maxRecDepth 100000 in
theorem zw_privs_4 {q : MethodName × Nat} (h : q ∈ lw_privs_4) : q ∈ lw_privs := List.mem_append_right _ (List.mem_append_right _ (List.mem_append_right _ (List.mem_append_left _ h)))
set_option maxRecDepth 100000 in
theorem zw_privs_5 {q : MethodName × Nat} (h : q ∈ lw_privs_5) : q ∈ lw_privs := List.mem_append_right _ (List.mem_append_right _ (List.mem_append_right _ (List.mem_append_right _ (List.mem_append_left _ h))))
set_option maxRecDepth 100000 in
theorem zw_privs_6 {q : MethodName × Nat} (h : q ∈ lw_privs_6) : q ∈ lw_privs := List.mem_append_right _ (List.mem_append_right _ (List.mem_append_right _ (List.mem_append_right _ (List.mem_append_right _ (h)))))
set_option maxRecDepth 100000 in
theorem zc0 : ∀ w ∈ u_ws RX0 TX0 7, w ∈ zg_tb := zg_mc [155, 157, 159, 161, 163, 165, 167] (by decide +kernel) (by decide +kernel)
set_option maxRecDepth 100000 in
theorem zc1 : ∀ w ∈ u_ws RX1 TX1 17, w ∈ zg_tb := zg_mc [727, 729, 731, 733, 735, 737, 739, 741, 743, 745, 747, 749, 751, 753, 755, 757, 759] (by decide +kernel) (by decide +kernel)
set_option maxRecDepth 100000 in
theorem zc2 : ∀ w ∈ u_ws RX2 TX2 4, w ∈ zg_tb := zg_mc [100, 102, 104, 106] (by decide +kernel) (by decide +kernel)
set_option maxRecDepth 100000 in
theorem zc3 : ∀ w ∈ u_ws RX3 TX3 5, w ∈ zg_tb := zg_mc [255, 257, 259, 261, 263] (by decide +kernel) (by decide +kernel)
set_option maxRecDepth 100000 in
theorem zc4 : ∀ w ∈ u_ws RX4 TX4 8, w ∈ zg_tb := zg_mc [52, 54, 56, 58, 60, 62, 64, 66] (by decide +kernel) (by decide +kernel)
set_option maxRecDepth 100000 in
theorem zc5 : ∀ w ∈ u_ws RX5 TX5 10, w ∈ zg_tb := zg_mc [190, 192, 194, 196, 198, 200, 202, 204, 206, 208] (by decide +kernel) (by decide +kernel)
set_option maxRecDepth 100000 in
theorem zc6 : ∀ w ∈ u_ws RX6 TX6 4, w ∈ zg_tb := zg_mc [120, 122, 124, 126] (by decide +kernel) (by decide +kernel)
set_option maxRecDepth 100000 in
theorem zc7 : ∀ w ∈ u_ws RX7 TX7 6, w ∈ zg_tb := zg_mc [280, 282, 284, 286, 288, 290] (by decide +kernel) (by decide +kernel)
set_option maxRecDepth 100000 in
theorem zc8 : ∀ w ∈ u_ws RX8 TX8 2, w ∈ zg_tb := zg_mc [82, 84] (by decide +kernel) (by decide +kernel)
set_option maxRecDepth 100000 in
theorem zc9 : ∀ w ∈ u_ws RX9 TX9 6, w ∈ zg_tb := zg_mc [841, 843, 845, 847, 849, 851] (by decide +kernel) (by decide +kernel)
set_option maxRecDepth 100000 in
theorem zc10 : ∀ w ∈ u_ws RX10 TX10 6, w ∈ zg_tb := zg_mc [227, 229, 231, 233, 235, 237] (by decide +kernel) (by decide +kernel)
set_option maxRecDepth 100000 in
theorem zc11 : ∀ w ∈ u_ws RX11 TX11 17, w ∈ zg_tb := zg_mc [310, 312, 314, 316, 318, 320, 322, 324, 326, 328, 330, 332, 334, 336, 338, 340, 342] (by decide +kernel) (by decide +kernel)
set_option maxRecDepth 100000 in
theorem zc12 : ∀ w ∈ u_ws RX12 TX12 71, w ∈ zg_tb := zg_mc [1190, 1192, 1194, 1196, 1198, 1200, 1202, 1204, 1206, 1208, 1210, 1212, 1214, 1216, 1218, 1220, 1222, 1224, 1226, 1228, 1230, 1232, 1234, 1236, 1238, 1240, 1242, 1244, 1246, 1248, 1250, 1252, 1254, 1256, 1258, 1260, 1262, 1264, 1266, 1268, 1270, 1272, 1274, 1276, 1278, 1280, 1282, 1284, 1286, 1288, 1290, 1292, 1294, 1296, 1298, 1300, 1302, 1304, 1306, 1308, 1310, 1312, 1314, 1316, 1318, 1320, 1322, 1324, 1326, 1328, 1330] (by decide +kernel) (by decide +kernel)
set_option maxRecDepth 100000 in
theorem zw4_73 : Jvm.Cond.code yJ3_checkIndex_8e157 prog_24_method_11_code 3 (some .int) ∈ zg_tb := zg_m4 (i := 73) rfl rfl
set_option maxRecDepth 100000 in
theorem zw1_17 : Jvm.Cond.initialized RJ3 ∈ zg_tb := zg_m1 (i := 17) rfl rfl
set_option maxRecDepth 100000 in
theorem zw4_72 : Jvm.Cond.static yJ3_checkIndex_8e157 ∈ zg_tb := zg_m4 (i := 72) rfl rfl
set_option maxRecDepth 100000 in
theorem zy_yJ3_checkIndex_8e157_S : (Jvm.Cond.static yJ3_checkIndex_8e157 ∈ zg_tb ∧ Jvm.Cond.initialized yJ3_checkIndex_8e157.cls ∈ zg_tb ∧ Jvm.Cond.code yJ3_checkIndex_8e157 prog_24_method_11_code 3 (some .int) ∈ zg_tb) ∧ zg_dm yJ3_checkIndex_8e157 3 := ⟨⟨zw4_72, zw1_17, zw4_73⟩, by decide +kernel, by decide +kernel, by decide +kernel⟩
set_option maxRecDepth 100000 in
theorem zw4_71 : Jvm.Cond.methodLink RJ0 1059 yJ3_checkIndex_8e157 ∈ zg_tb := zg_m4 (i := 71) rfl rfl
set_option maxRecDepth 100000 in
theorem zw2_234 : Jvm.Cond.fieldLink RJ0 1053 "jdk/internal/util/Preconditions" "SIOOBE_FORMATTER" "Ljava/util/function/BiFunction;" ∈ zg_tb := zg_m2 (i := 234) rfl rfl
set_option maxRecDepth 100000 in
theorem zw1_36 : Jvm.Cond.methodLink RX4 3 objectInit ∈ zg_tb := zg_m1 (i := 36) rfl rfl
set_option maxRecDepth 100000 in
theorem zw1_29 : Jvm.Cond.instanceMethod objectInit ∈ zg_tb := zg_m1 (i := 29) rfl rfl
set_option maxRecDepth 100000 in
theorem zw1_30 : Jvm.Cond.code objectInit ⟨#[0xb1]⟩ 1 none ∈ zg_tb := zg_m1 (i := 30) rfl rfl
set_option maxRecDepth 100000 in
theorem zw1_69 : Jvm.Cond.arrayClass .boolean ∈ zg_tb := zg_m1 (i := 69) rfl rfl
set_option maxRecDepth 100000 in
theorem zw1_37 : Jvm.Cond.fieldLink RX4 11 RX4 "isUp" "[Z" ∈ zg_tb := zg_m1 (i := 37) rfl rfl
set_option maxRecDepth 100000 in
theorem zt4_0 : TX4 0 = (RX4, "isUp", "[Z", true) ∧ parseFieldDescriptor "[Z" = some (FieldType.array FieldType.boolean) := ⟨rfl, by decide +kernel⟩
set_option maxRecDepth 100000 in
theorem zw1_70 : Jvm.Cond.arrayClass .int ∈ zg_tb := zg_m1 (i := 70) rfl rfl
set_option maxRecDepth 100000 in
theorem zw1_39 : Jvm.Cond.fieldLink RX4 15 RX4 "roads" "[I" ∈ zg_tb := zg_m1 (i := 39) rfl rfl
set_option maxRecDepth 100000 in
theorem zt4_1 : TX4 1 = (RX4, "roads", "[I", true) ∧ parseFieldDescriptor "[I" = some (FieldType.array FieldType.int) := ⟨rfl, by decide +kernel⟩
set_option maxRecDepth 100000 in
theorem zw1_40 : Jvm.Cond.fieldLink RX4 19 RX4 "home" "[I" ∈ zg_tb := zg_m1 (i := 40) rfl rfl
set_option maxRecDepth 100000 in
theorem zt4_2 : TX4 2 = (RX4, "home", "[I", true) ∧ parseFieldDescriptor "[I" = some (FieldType.array FieldType.int) := ⟨rfl, by decide +kernel⟩
set_option maxRecDepth 100000 in
theorem zw1_42 : Jvm.Cond.fieldLink RX4 22 RX4 "trap" "[Z" ∈ zg_tb := zg_m1 (i := 42) rfl rfl
set_option maxRecDepth 100000 in
theorem zt4_3 : TX4 3 = (RX4, "trap", "[Z", true) ∧ parseFieldDescriptor "[Z" = some (FieldType.array FieldType.boolean) := ⟨rfl, by decide +kernel⟩
set_option maxRecDepth 100000 in
theorem zw1_44 : Jvm.Cond.fieldLink RX4 25 RX4 "shops" "[I" ∈ zg_tb := zg_m1 (i := 44) rfl rfl
set_option maxRecDepth 100000 in
theorem zt4_4 : TX4 4 = (RX4, "shops", "[I", true) ∧ parseFieldDescriptor "[I" = some (FieldType.array FieldType.int) := ⟨rfl, by decide +kernel⟩
set_option maxRecDepth 100000 in
theorem zw1_46 : Jvm.Cond.fieldLink RX4 28 RX4 "reached" "[Z" ∈ zg_tb := zg_m1 (i := 46) rfl rfl
set_option maxRecDepth 100000 in
theorem zt4_5 : TX4 5 = (RX4, "reached", "[Z", true) ∧ parseFieldDescriptor "[Z" = some (FieldType.array FieldType.boolean) := ⟨rfl, by decide +kernel⟩
set_option maxRecDepth 100000 in
theorem zw1_76 : Jvm.Cond.methodLink RX8 3 objectInit ∈ zg_tb := zg_m1 (i := 76) rfl rfl
set_option maxRecDepth 100000 in
theorem zw1_87 : Jvm.Cond.arrayClass .char ∈ zg_tb := zg_m1 (i := 87) rfl rfl
set_option maxRecDepth 100000 in
theorem zw1_77 : Jvm.Cond.fieldLink RX8 11 RX8 "bytes" "[C" ∈ zg_tb := zg_m1 (i := 77) rfl rfl
set_option maxRecDepth 100000 in
theorem zt8_0 : TX8 0 = (RX8, "bytes", "[C", true) ∧ parseFieldDescriptor "[C" = some (FieldType.array FieldType.char) := ⟨rfl, by decide +kernel⟩
set_option maxRecDepth 100000 in
theorem zw1_93 : Jvm.Cond.methodLink RX2 3 objectInit ∈ zg_tb := zg_m1 (i := 93) rfl rfl
set_option maxRecDepth 100000 in
theorem zw1_109 : Jvm.Cond.arrayClass .long ∈ zg_tb := zg_m1 (i := 109) rfl rfl
set_option maxRecDepth 100000 in
theorem zw1_94 : Jvm.Cond.fieldLink RX2 11 RX2 "row" "[J" ∈ zg_tb := zg_m1 (i := 94) rfl rfl
set_option maxRecDepth 100000 in
theorem zt2_0 : TX2 0 = (RX2, "row", "[J", true) ∧ parseFieldDescriptor "[J" = some (FieldType.array FieldType.long) := ⟨rfl, by decide +kernel⟩
set_option maxRecDepth 100000 in
theorem zw1_115 : Jvm.Cond.methodLink RX6 3 objectInit ∈ zg_tb := zg_m1 (i := 115) rfl rfl
set_option maxRecDepth 100000 in
theorem zw1_116 : Jvm.Cond.fieldLink RX6 11 RX6 "code" "[I" ∈ zg_tb := zg_m1 (i := 116) rfl rfl
set_option maxRecDepth 100000 in
theorem zt6_0 : TX6 0 = (RX6, "code", "[I", true) ∧ parseFieldDescriptor "[I" = some (FieldType.array FieldType.int) := ⟨rfl, by decide +kernel⟩
set_option maxRecDepth 100000 in
theorem zw1_144 : Jvm.Cond.fieldLink RJ0 38 "java/lang/String" "COMPACT_STRINGS" "Z" ∈ zg_tb := zg_m1 (i := 144) rfl rfl
set_option maxRecDepth 100000 in
theorem zw8_58 : Jvm.Cond.fieldLink RJ0 15 RJ0 "coder" "B" ∈ zg_tb := zg_m8 (i := 58) rfl rfl
set_option maxRecDepth 100000 in
theorem zw8_57 : Jvm.Cond.fieldLink RJ0 9 RJ0 "value" "[B" ∈ zg_tb := zg_m8 (i := 57) rfl rfl
set_option maxRecDepth 100000 in
theorem zw1_140 : Jvm.Cond.methodLink RJ0 335 yJ0_coder_7d493 ∈ zg_tb := zg_m1 (i := 140) rfl rfl
set_option maxRecDepth 100000 in
theorem zw1_143 : Jvm.Cond.code yJ0_coder_7d493 prog_19_method_152_code 1 (some .byte) ∈ zg_tb := zg_m1 (i := 143) rfl rfl
set_option maxRecDepth 100000 in
theorem zw1_7 : Jvm.Cond.initialized RJ0 ∈ zg_tb := zg_m1 (i := 7) rfl rfl
set_option maxRecDepth 100000 in
theorem zw1_141 : Jvm.Cond.instanceMethod yJ0_coder_7d493 ∈ zg_tb := zg_m1 (i := 141) rfl rfl
set_option maxRecDepth 100000 in
theorem zw1_142 : Jvm.Cond.selects RJ0 yJ0_coder_7d493 yJ0_coder_7d493 ∈ zg_tb := zg_m1 (i := 142) rfl rfl
set_option maxRecDepth 100000 in
theorem zy_yJ0_coder_7d493_V : (Jvm.Cond.instanceMethod yJ0_coder_7d493 ∈ zg_tb ∧ Jvm.Cond.selects yJ0_coder_7d493.cls yJ0_coder_7d493 yJ0_coder_7d493 ∈ zg_tb ∧ Jvm.Cond.initialized yJ0_coder_7d493.cls ∈ zg_tb ∧ Jvm.Cond.code yJ0_coder_7d493 prog_19_method_152_code 1 (some .byte) ∈ zg_tb) ∧ zg_dm yJ0_coder_7d493 0 := ⟨⟨zw1_141, zw1_142, zw1_7, zw1_143⟩, by decide +kernel, by decide +kernel, by decide +kernel⟩
set_option maxRecDepth 100000 in
theorem zw1_134 : Jvm.Cond.methodLink RX0 3 objectInit ∈ zg_tb := zg_m1 (i := 134) rfl rfl
set_option maxRecDepth 100000 in
theorem zw1_136 : Jvm.Cond.methodLink RX0 13 yJ0_length_8abf5 ∈ zg_tb := zg_m1 (i := 136) rfl rfl
set_option maxRecDepth 100000 in
theorem zw1_139 : Jvm.Cond.code yJ0_length_8abf5 prog_19_method_54_code 1 (some .int) ∈ zg_tb := zg_m1 (i := 139) rfl rfl
set_option maxRecDepth 100000 in
theorem zw1_137 : Jvm.Cond.instanceMethod yJ0_length_8abf5 ∈ zg_tb := zg_m1 (i := 137) rfl rfl
set_option maxRecDepth 100000 in
theorem zw1_138 : Jvm.Cond.selects RJ0 yJ0_length_8abf5 yJ0_length_8abf5 ∈ zg_tb := zg_m1 (i := 138) rfl rfl
set_option maxRecDepth 100000 in
theorem zy_yJ0_length_8abf5_V : (Jvm.Cond.instanceMethod yJ0_length_8abf5 ∈ zg_tb ∧ Jvm.Cond.selects yJ0_length_8abf5.cls yJ0_length_8abf5 yJ0_length_8abf5 ∈ zg_tb ∧ Jvm.Cond.initialized yJ0_length_8abf5.cls ∈ zg_tb ∧ Jvm.Cond.code yJ0_length_8abf5 prog_19_method_54_code 1 (some .int) ∈ zg_tb) ∧ zg_dm yJ0_length_8abf5 0 := ⟨⟨zw1_137, zw1_138, zw1_7, zw1_139⟩, by decide +kernel, by decide +kernel, by decide +kernel⟩
set_option maxRecDepth 100000 in
theorem zw1_146 : Jvm.Cond.fieldLink RX0 19 RX0 "values" "[I" ∈ zg_tb := zg_m1 (i := 146) rfl rfl
set_option maxRecDepth 100000 in
theorem zt0_0 : TX0 0 = (RX0, "values", "[I", true) ∧ parseFieldDescriptor "[I" = some (FieldType.array FieldType.int) := ⟨rfl, by decide +kernel⟩
set_option maxRecDepth 100000 in
theorem zw1_147 : Jvm.Cond.fieldLink RX0 25 RX0 "stack" "[I" ∈ zg_tb := zg_m1 (i := 147) rfl rfl
set_option maxRecDepth 100000 in
theorem zt0_1 : TX0 1 = (RX0, "stack", "[I", true) ∧ parseFieldDescriptor "[I" = some (FieldType.array FieldType.int) := ⟨rfl, by decide +kernel⟩
set_option maxRecDepth 100000 in
theorem zw1_176 : Jvm.Cond.methodLink RX5 3 objectInit ∈ zg_tb := zg_m1 (i := 176) rfl rfl
set_option maxRecDepth 100000 in
theorem zw1_179 : Jvm.Cond.fieldLink RX5 11 RX5 "ruler" "[I" ∈ zg_tb := zg_m1 (i := 179) rfl rfl
set_option maxRecDepth 100000 in
theorem zt5_0 : TX5 0 = (RX5, "ruler", "[I", true) ∧ parseFieldDescriptor "[I" = some (FieldType.array FieldType.int) := ⟨rfl, by decide +kernel⟩
set_option maxRecDepth 100000 in
theorem zw1_180 : Jvm.Cond.fieldLink RX5 15 RX5 "isOfList" "[Z" ∈ zg_tb := zg_m1 (i := 180) rfl rfl
set_option maxRecDepth 100000 in
theorem zt5_1 : TX5 1 = (RX5, "isOfList", "[Z", true) ∧ parseFieldDescriptor "[Z" = some (FieldType.array FieldType.boolean) := ⟨rfl, by decide +kernel⟩
set_option maxRecDepth 100000 in
theorem zw1_181 : Jvm.Cond.fieldLink RX5 19 RX5 "toldIn" "[I" ∈ zg_tb := zg_m1 (i := 181) rfl rfl
set_option maxRecDepth 100000 in
theorem zt5_2 : TX5 2 = (RX5, "toldIn", "[I", true) ∧ parseFieldDescriptor "[I" = some (FieldType.array FieldType.int) := ⟨rfl, by decide +kernel⟩
set_option maxRecDepth 100000 in
theorem zw1_182 : Jvm.Cond.fieldLink RX5 22 RX5 "from" "[I" ∈ zg_tb := zg_m1 (i := 182) rfl rfl
set_option maxRecDepth 100000 in
theorem zt5_3 : TX5 3 = (RX5, "from", "[I", true) ∧ parseFieldDescriptor "[I" = some (FieldType.array FieldType.int) := ⟨rfl, by decide +kernel⟩
set_option maxRecDepth 100000 in
theorem zw1_177 : Jvm.Cond.classLink RX5 25 "[I" ∈ zg_tb := zg_m1 (i := 177) rfl rfl
set_option maxRecDepth 100000 in
theorem zw1_183 : Jvm.Cond.fieldLink RX5 26 RX5 "codes" "[[I" ∈ zg_tb := zg_m1 (i := 183) rfl rfl
set_option maxRecDepth 100000 in
theorem zt5_4 : TX5 4 = (RX5, "codes", "[[I", true) ∧ parseFieldDescriptor "[[I" = some (FieldType.array (FieldType.array FieldType.int)) := ⟨rfl, by decide +kernel⟩
set_option maxRecDepth 100000 in
theorem zw1_186 : Jvm.Cond.fieldLink RX5 30 RX5 "askedList" "[I" ∈ zg_tb := zg_m1 (i := 186) rfl rfl
set_option maxRecDepth 100000 in
theorem zt5_6 : TX5 6 = (RX5, "askedList", "[I", true) ∧ parseFieldDescriptor "[I" = some (FieldType.array FieldType.int) := ⟨rfl, by decide +kernel⟩
set_option maxRecDepth 100000 in
theorem zw1_187 : Jvm.Cond.fieldLink RX5 33 RX5 "askedHouse" "[I" ∈ zg_tb := zg_m1 (i := 187) rfl rfl
set_option maxRecDepth 100000 in
theorem zt5_7 : TX5 7 = (RX5, "askedHouse", "[I", true) ∧ parseFieldDescriptor "[I" = some (FieldType.array FieldType.int) := ⟨rfl, by decide +kernel⟩
set_option maxRecDepth 100000 in
theorem zw1_188 : Jvm.Cond.fieldLink RX5 36 RX5 "askedIn" "[I" ∈ zg_tb := zg_m1 (i := 188) rfl rfl
set_option maxRecDepth 100000 in
theorem zt5_8 : TX5 8 = (RX5, "askedIn", "[I", true) ∧ parseFieldDescriptor "[I" = some (FieldType.array FieldType.int) := ⟨rfl, by decide +kernel⟩
set_option maxRecDepth 100000 in
theorem zw1_216 : Jvm.Cond.methodLink RX10 3 objectInit ∈ zg_tb := zg_m1 (i := 216) rfl rfl
set_option maxRecDepth 100000 in
theorem zw1_217 : Jvm.Cond.classLink RX10 11 "UnaskedLetters$Word" ∈ zg_tb := zg_m1 (i := 217) rfl rfl
set_option maxRecDepth 100000 in
theorem zw1_219 : Jvm.Cond.fieldLink RX10 13 RX10 "chains" "[LUnaskedLetters$Word;" ∈ zg_tb := zg_m1 (i := 219) rfl rfl
set_option maxRecDepth 100000 in
theorem zt10_0 : TX10 0 = (RX10, "chains", "[LUnaskedLetters$Word;", true) ∧ parseFieldDescriptor "[LUnaskedLetters$Word;" = some (FieldType.array (FieldType.object "UnaskedLetters$Word")) := ⟨rfl, by decide +kernel⟩
set_option maxRecDepth 100000 in
theorem zw1_220 : Jvm.Cond.fieldLink RX10 17 RX10 "first" "[LUnaskedLetters$Word;" ∈ zg_tb := zg_m1 (i := 220) rfl rfl
set_option maxRecDepth 100000 in
theorem zt10_1 : TX10 1 = (RX10, "first", "[LUnaskedLetters$Word;", true) ∧ parseFieldDescriptor "[LUnaskedLetters$Word;" = some (FieldType.array (FieldType.object "UnaskedLetters$Word")) := ⟨rfl, by decide +kernel⟩
set_option maxRecDepth 100000 in
theorem zw1_221 : Jvm.Cond.fieldLink RX10 20 RX10 "second" "[LUnaskedLetters$Word;" ∈ zg_tb := zg_m1 (i := 221) rfl rfl
set_option maxRecDepth 100000 in
theorem zt10_2 : TX10 2 = (RX10, "second", "[LUnaskedLetters$Word;", true) ∧ parseFieldDescriptor "[LUnaskedLetters$Word;" = some (FieldType.array (FieldType.object "UnaskedLetters$Word")) := ⟨rfl, by decide +kernel⟩
set_option maxRecDepth 100000 in
theorem zw1_222 : Jvm.Cond.fieldLink RX10 25 RX10 "changed" "[LUnaskedLetters$Word;" ∈ zg_tb := zg_m1 (i := 222) rfl rfl
set_option maxRecDepth 100000 in
theorem zt10_3 : TX10 3 = (RX10, "changed", "[LUnaskedLetters$Word;", true) ∧ parseFieldDescriptor "[LUnaskedLetters$Word;" = some (FieldType.array (FieldType.object "UnaskedLetters$Word")) := ⟨rfl, by decide +kernel⟩
set_option maxRecDepth 100000 in
theorem zw2_7 : Jvm.Cond.methodLink RX3 3 objectInit ∈ zg_tb := zg_m2 (i := 7) rfl rfl
set_option maxRecDepth 100000 in
theorem zw2_8 : Jvm.Cond.fieldLink RX3 11 RX3 "letter" "[I" ∈ zg_tb := zg_m2 (i := 8) rfl rfl
set_option maxRecDepth 100000 in
theorem zt3_0 : TX3 0 = (RX3, "letter", "[I", true) ∧ parseFieldDescriptor "[I" = some (FieldType.array FieldType.int) := ⟨rfl, by decide +kernel⟩
set_option maxRecDepth 100000 in
theorem zw2_9 : Jvm.Cond.fieldLink RX3 15 RX3 "minute" "[I" ∈ zg_tb := zg_m2 (i := 9) rfl rfl
set_option maxRecDepth 100000 in
theorem zt3_1 : TX3 1 = (RX3, "minute", "[I", true) ∧ parseFieldDescriptor "[I" = some (FieldType.array FieldType.int) := ⟨rfl, by decide +kernel⟩
set_option maxRecDepth 100000 in
theorem zw2_10 : Jvm.Cond.fieldLink RX3 18 RX3 "as" "[I" ∈ zg_tb := zg_m2 (i := 10) rfl rfl
set_option maxRecDepth 100000 in
theorem zt3_2 : TX3 2 = (RX3, "as", "[I", true) ∧ parseFieldDescriptor "[I" = some (FieldType.array FieldType.int) := ⟨rfl, by decide +kernel⟩
set_option maxRecDepth 100000 in
theorem zw2_11 : Jvm.Cond.fieldLink RX3 21 RX3 "known" "[I" ∈ zg_tb := zg_m2 (i := 11) rfl rfl
set_option maxRecDepth 100000 in
theorem zt3_3 : TX3 3 = (RX3, "known", "[I", true) ∧ parseFieldDescriptor "[I" = some (FieldType.array FieldType.int) := ⟨rfl, by decide +kernel⟩
set_option maxRecDepth 100000 in
theorem zw2_31 : Jvm.Cond.methodLink RX7 1 objectInit ∈ zg_tb := zg_m2 (i := 31) rfl rfl
set_option maxRecDepth 100000 in
theorem zw2_32 : Jvm.Cond.fieldLink RX7 9 RX7 "pickWorth" "[I" ∈ zg_tb := zg_m2 (i := 32) rfl rfl
set_option maxRecDepth 100000 in
theorem zt7_0 : TX7 0 = (RX7, "pickWorth", "[I", true) ∧ parseFieldDescriptor "[I" = some (FieldType.array FieldType.int) := ⟨rfl, by decide +kernel⟩
set_option maxRecDepth 100000 in
theorem zw2_33 : Jvm.Cond.fieldLink RX7 13 RX7 "pickAt" "[I" ∈ zg_tb := zg_m2 (i := 33) rfl rfl
set_option maxRecDepth 100000 in
theorem zt7_1 : TX7 1 = (RX7, "pickAt", "[I", true) ∧ parseFieldDescriptor "[I" = some (FieldType.array FieldType.int) := ⟨rfl, by decide +kernel⟩
set_option maxRecDepth 100000 in
theorem zw1_28 : Jvm.Cond.methodLink RX11 1 objectInit ∈ zg_tb := zg_m1 (i := 28) rfl rfl
set_option maxRecDepth 100000 in
theorem zw1_31 : Jvm.Cond.classLink RX11 7 RX4 ∈ zg_tb := zg_m1 (i := 31) rfl rfl
set_option maxRecDepth 100000 in
theorem zw1_32 : Jvm.Cond.instantiable RX4 8 ∈ zg_tb := zg_m1 (i := 32) rfl rfl
set_option maxRecDepth 100000 in
theorem zw1_2 : Jvm.Cond.initialized RX4 ∈ zg_tb := zg_m1 (i := 2) rfl rfl
set_option maxRecDepth 100000 in
theorem zw1_35 : Jvm.Cond.code yX4_init prog_6_method_1_code 1 none ∈ zg_tb := zg_m1 (i := 35) rfl rfl
set_option maxRecDepth 100000 in
theorem zw1_34 : Jvm.Cond.instanceMethod yX4_init ∈ zg_tb := zg_m1 (i := 34) rfl rfl
set_option maxRecDepth 100000 in
theorem zy_yX4_init_I : (Jvm.Cond.instanceMethod yX4_init ∈ zg_tb ∧ Jvm.Cond.initialized yX4_init.cls ∈ zg_tb ∧ Jvm.Cond.code yX4_init prog_6_method_1_code 1 none ∈ zg_tb) ∧ zg_dm yX4_init 0 := ⟨⟨zw1_34, zw1_2, zw1_35⟩, by decide +kernel, by decide +kernel, by decide +kernel⟩
set_option maxRecDepth 100000 in
theorem zw2_53 : Jvm.Cond.fieldLink RX11 10 RX11 "net" "LUnaskedLetters$Net;" ∈ zg_tb := zg_m2 (i := 53) rfl rfl
set_option maxRecDepth 100000 in
theorem zt11_0 : TX11 0 = (RX11, "net", "LUnaskedLetters$Net;", true) ∧ parseFieldDescriptor "LUnaskedLetters$Net;" = some (FieldType.object "UnaskedLetters$Net") := ⟨rfl, by decide +kernel⟩
set_option maxRecDepth 100000 in
theorem zw1_71 : Jvm.Cond.classLink RX11 16 RX8 ∈ zg_tb := zg_m1 (i := 71) rfl rfl
set_option maxRecDepth 100000 in
theorem zw1_72 : Jvm.Cond.instantiable RX8 2 ∈ zg_tb := zg_m1 (i := 72) rfl rfl
set_option maxRecDepth 100000 in
theorem zw1_3 : Jvm.Cond.initialized RX8 ∈ zg_tb := zg_m1 (i := 3) rfl rfl
set_option maxRecDepth 100000 in
theorem zw1_75 : Jvm.Cond.code yX8_init prog_10_method_1_code 1 none ∈ zg_tb := zg_m1 (i := 75) rfl rfl
set_option maxRecDepth 100000 in
theorem zw1_74 : Jvm.Cond.instanceMethod yX8_init ∈ zg_tb := zg_m1 (i := 74) rfl rfl
set_option maxRecDepth 100000 in
theorem zy_yX8_init_I : (Jvm.Cond.instanceMethod yX8_init ∈ zg_tb ∧ Jvm.Cond.initialized yX8_init.cls ∈ zg_tb ∧ Jvm.Cond.code yX8_init prog_10_method_1_code 1 none ∈ zg_tb) ∧ zg_dm yX8_init 0 := ⟨⟨zw1_74, zw1_3, zw1_75⟩, by decide +kernel, by decide +kernel, by decide +kernel⟩
set_option maxRecDepth 100000 in
theorem zw2_54 : Jvm.Cond.fieldLink RX11 19 RX11 "tape" "LUnaskedLetters$Tape;" ∈ zg_tb := zg_m2 (i := 54) rfl rfl
set_option maxRecDepth 100000 in
theorem zt11_1 : TX11 1 = (RX11, "tape", "LUnaskedLetters$Tape;", true) ∧ parseFieldDescriptor "LUnaskedLetters$Tape;" = some (FieldType.object "UnaskedLetters$Tape") := ⟨rfl, by decide +kernel⟩
set_option maxRecDepth 100000 in
theorem zw1_88 : Jvm.Cond.classLink RX11 23 RX2 ∈ zg_tb := zg_m1 (i := 88) rfl rfl
set_option maxRecDepth 100000 in
theorem zw1_89 : Jvm.Cond.instantiable RX2 4 ∈ zg_tb := zg_m1 (i := 89) rfl rfl
set_option maxRecDepth 100000 in
theorem zw1_4 : Jvm.Cond.initialized RX2 ∈ zg_tb := zg_m1 (i := 4) rfl rfl
set_option maxRecDepth 100000 in
theorem zw1_92 : Jvm.Cond.code yX2_init prog_4_method_1_code 1 none ∈ zg_tb := zg_m1 (i := 92) rfl rfl
set_option maxRecDepth 100000 in
theorem zw1_91 : Jvm.Cond.instanceMethod yX2_init ∈ zg_tb := zg_m1 (i := 91) rfl rfl
set_option maxRecDepth 100000 in
theorem zy_yX2_init_I : (Jvm.Cond.instanceMethod yX2_init ∈ zg_tb ∧ Jvm.Cond.initialized yX2_init.cls ∈ zg_tb ∧ Jvm.Cond.code yX2_init prog_4_method_1_code 1 none ∈ zg_tb) ∧ zg_dm yX2_init 0 := ⟨⟨zw1_91, zw1_4, zw1_92⟩, by decide +kernel, by decide +kernel, by decide +kernel⟩
set_option maxRecDepth 100000 in
theorem zw2_55 : Jvm.Cond.fieldLink RX11 26 RX11 "letterReader" "LUnaskedLetters$LetterReader;" ∈ zg_tb := zg_m2 (i := 55) rfl rfl
set_option maxRecDepth 100000 in
theorem zt11_2 : TX11 2 = (RX11, "letterReader", "LUnaskedLetters$LetterReader;", true) ∧ parseFieldDescriptor "LUnaskedLetters$LetterReader;" = some (FieldType.object "UnaskedLetters$LetterReader") := ⟨rfl, by decide +kernel⟩
set_option maxRecDepth 100000 in
theorem zw1_110 : Jvm.Cond.classLink RX11 30 RX6 ∈ zg_tb := zg_m1 (i := 110) rfl rfl
set_option maxRecDepth 100000 in
theorem zw1_111 : Jvm.Cond.instantiable RX6 4 ∈ zg_tb := zg_m1 (i := 111) rfl rfl
set_option maxRecDepth 100000 in
theorem zw1_5 : Jvm.Cond.initialized RX6 ∈ zg_tb := zg_m1 (i := 5) rfl rfl
set_option maxRecDepth 100000 in
theorem zw1_114 : Jvm.Cond.code yX6_init prog_8_method_1_code 1 none ∈ zg_tb := zg_m1 (i := 114) rfl rfl
set_option maxRecDepth 100000 in
theorem zw1_113 : Jvm.Cond.instanceMethod yX6_init ∈ zg_tb := zg_m1 (i := 113) rfl rfl
set_option maxRecDepth 100000 in
theorem zy_yX6_init_I : (Jvm.Cond.instanceMethod yX6_init ∈ zg_tb ∧ Jvm.Cond.initialized yX6_init.cls ∈ zg_tb ∧ Jvm.Cond.code yX6_init prog_8_method_1_code 1 none ∈ zg_tb) ∧ zg_dm yX6_init 0 := ⟨⟨zw1_113, zw1_5, zw1_114⟩, by decide +kernel, by decide +kernel, by decide +kernel⟩
set_option maxRecDepth 100000 in
theorem zw2_56 : Jvm.Cond.fieldLink RX11 33 RX11 "ruleReader" "LUnaskedLetters$RuleReader;" ∈ zg_tb := zg_m2 (i := 56) rfl rfl
set_option maxRecDepth 100000 in
theorem zt11_3 : TX11 3 = (RX11, "ruleReader", "LUnaskedLetters$RuleReader;", true) ∧ parseFieldDescriptor "LUnaskedLetters$RuleReader;" = some (FieldType.object "UnaskedLetters$RuleReader") := ⟨rfl, by decide +kernel⟩
set_option maxRecDepth 100000 in
theorem zw1_129 : Jvm.Cond.classLink RX11 37 RX0 ∈ zg_tb := zg_m1 (i := 129) rfl rfl
set_option maxRecDepth 100000 in
theorem zw1_130 : Jvm.Cond.instantiable RX0 7 ∈ zg_tb := zg_m1 (i := 130) rfl rfl
set_option maxRecDepth 100000 in
theorem zw1_6 : Jvm.Cond.initialized RX0 ∈ zg_tb := zg_m1 (i := 6) rfl rfl
set_option maxRecDepth 100000 in
theorem zw1_133 : Jvm.Cond.code yX0_init prog_2_method_1_code 1 none ∈ zg_tb := zg_m1 (i := 133) rfl rfl
set_option maxRecDepth 100000 in
theorem zw1_132 : Jvm.Cond.instanceMethod yX0_init ∈ zg_tb := zg_m1 (i := 132) rfl rfl
set_option maxRecDepth 100000 in
theorem zy_yX0_init_I : (Jvm.Cond.instanceMethod yX0_init ∈ zg_tb ∧ Jvm.Cond.initialized yX0_init.cls ∈ zg_tb ∧ Jvm.Cond.code yX0_init prog_2_method_1_code 1 none ∈ zg_tb) ∧ zg_dm yX0_init 0 := ⟨⟨zw1_132, zw1_6, zw1_133⟩, by decide +kernel, by decide +kernel, by decide +kernel⟩
set_option maxRecDepth 100000 in
theorem zw2_57 : Jvm.Cond.fieldLink RX11 40 RX11 "judge" "LUnaskedLetters$Judge;" ∈ zg_tb := zg_m2 (i := 57) rfl rfl
set_option maxRecDepth 100000 in
theorem zt11_4 : TX11 4 = (RX11, "judge", "LUnaskedLetters$Judge;", true) ∧ parseFieldDescriptor "LUnaskedLetters$Judge;" = some (FieldType.object "UnaskedLetters$Judge") := ⟨rfl, by decide +kernel⟩
set_option maxRecDepth 100000 in
theorem zw1_171 : Jvm.Cond.classLink RX11 44 RX5 ∈ zg_tb := zg_m1 (i := 171) rfl rfl
set_option maxRecDepth 100000 in
theorem zw1_172 : Jvm.Cond.instantiable RX5 10 ∈ zg_tb := zg_m1 (i := 172) rfl rfl
set_option maxRecDepth 100000 in
theorem zw1_8 : Jvm.Cond.initialized RX5 ∈ zg_tb := zg_m1 (i := 8) rfl rfl
set_option maxRecDepth 100000 in
theorem zw1_175 : Jvm.Cond.code yX5_init prog_7_method_1_code 1 none ∈ zg_tb := zg_m1 (i := 175) rfl rfl
set_option maxRecDepth 100000 in
theorem zw1_174 : Jvm.Cond.instanceMethod yX5_init ∈ zg_tb := zg_m1 (i := 174) rfl rfl
set_option maxRecDepth 100000 in
theorem zy_yX5_init_I : (Jvm.Cond.instanceMethod yX5_init ∈ zg_tb ∧ Jvm.Cond.initialized yX5_init.cls ∈ zg_tb ∧ Jvm.Cond.code yX5_init prog_7_method_1_code 1 none ∈ zg_tb) ∧ zg_dm yX5_init 0 := ⟨⟨zw1_174, zw1_8, zw1_175⟩, by decide +kernel, by decide +kernel, by decide +kernel⟩
set_option maxRecDepth 100000 in
theorem zw2_58 : Jvm.Cond.fieldLink RX11 47 RX11 "ruleBook" "LUnaskedLetters$RuleBook;" ∈ zg_tb := zg_m2 (i := 58) rfl rfl
set_option maxRecDepth 100000 in
theorem zt11_5 : TX11 5 = (RX11, "ruleBook", "LUnaskedLetters$RuleBook;", true) ∧ parseFieldDescriptor "LUnaskedLetters$RuleBook;" = some (FieldType.object "UnaskedLetters$RuleBook") := ⟨rfl, by decide +kernel⟩
set_option maxRecDepth 100000 in
theorem zw1_211 : Jvm.Cond.classLink RX11 51 RX10 ∈ zg_tb := zg_m1 (i := 211) rfl rfl
set_option maxRecDepth 100000 in
theorem zw1_212 : Jvm.Cond.instantiable RX10 6 ∈ zg_tb := zg_m1 (i := 212) rfl rfl
set_option maxRecDepth 100000 in
theorem zw1_9 : Jvm.Cond.initialized RX10 ∈ zg_tb := zg_m1 (i := 9) rfl rfl
set_option maxRecDepth 100000 in
theorem zw1_215 : Jvm.Cond.code yX10_init prog_12_method_1_code 1 none ∈ zg_tb := zg_m1 (i := 215) rfl rfl
set_option maxRecDepth 100000 in
theorem zw1_214 : Jvm.Cond.instanceMethod yX10_init ∈ zg_tb := zg_m1 (i := 214) rfl rfl
set_option maxRecDepth 100000 in
theorem zy_yX10_init_I : (Jvm.Cond.instanceMethod yX10_init ∈ zg_tb ∧ Jvm.Cond.initialized yX10_init.cls ∈ zg_tb ∧ Jvm.Cond.code yX10_init prog_12_method_1_code 1 none ∈ zg_tb) ∧ zg_dm yX10_init 0 := ⟨⟨zw1_214, zw1_9, zw1_215⟩, by decide +kernel, by decide +kernel, by decide +kernel⟩
set_option maxRecDepth 100000 in
theorem zw2_59 : Jvm.Cond.fieldLink RX11 54 RX11 "wordBook" "LUnaskedLetters$WordBook;" ∈ zg_tb := zg_m2 (i := 59) rfl rfl
set_option maxRecDepth 100000 in
theorem zt11_6 : TX11 6 = (RX11, "wordBook", "LUnaskedLetters$WordBook;", true) ∧ parseFieldDescriptor "LUnaskedLetters$WordBook;" = some (FieldType.object "UnaskedLetters$WordBook") := ⟨rfl, by decide +kernel⟩
set_option maxRecDepth 100000 in
theorem zw2_0 : Jvm.Cond.classLink RX11 58 "UnaskedLetters$Letter" ∈ zg_tb := zg_m2 (i := 0) rfl rfl
set_option maxRecDepth 100000 in
theorem zw2_60 : Jvm.Cond.fieldLink RX11 60 RX11 "post" "[LUnaskedLetters$Letter;" ∈ zg_tb := zg_m2 (i := 60) rfl rfl
set_option maxRecDepth 100000 in
theorem zt11_7 : TX11 7 = (RX11, "post", "[LUnaskedLetters$Letter;", true) ∧ parseFieldDescriptor "[LUnaskedLetters$Letter;" = some (FieldType.array (FieldType.object "UnaskedLetters$Letter")) := ⟨rfl, by decide +kernel⟩
set_option maxRecDepth 100000 in
theorem zw2_2 : Jvm.Cond.classLink RX11 64 RX3 ∈ zg_tb := zg_m2 (i := 2) rfl rfl
set_option maxRecDepth 100000 in
theorem zw2_3 : Jvm.Cond.instantiable RX3 5 ∈ zg_tb := zg_m2 (i := 3) rfl rfl
set_option maxRecDepth 100000 in
theorem zw1_10 : Jvm.Cond.initialized RX3 ∈ zg_tb := zg_m1 (i := 10) rfl rfl
set_option maxRecDepth 100000 in
theorem zw2_6 : Jvm.Cond.code yX3_init prog_5_method_1_code 1 none ∈ zg_tb := zg_m2 (i := 6) rfl rfl
set_option maxRecDepth 100000 in
theorem zw2_5 : Jvm.Cond.instanceMethod yX3_init ∈ zg_tb := zg_m2 (i := 5) rfl rfl
set_option maxRecDepth 100000 in
theorem zy_yX3_init_I : (Jvm.Cond.instanceMethod yX3_init ∈ zg_tb ∧ Jvm.Cond.initialized yX3_init.cls ∈ zg_tb ∧ Jvm.Cond.code yX3_init prog_5_method_1_code 1 none ∈ zg_tb) ∧ zg_dm yX3_init 0 := ⟨⟨zw2_5, zw1_10, zw2_6⟩, by decide +kernel, by decide +kernel, by decide +kernel⟩
set_option maxRecDepth 100000 in
theorem zw2_61 : Jvm.Cond.fieldLink RX11 67 RX11 "marks" "LUnaskedLetters$Marks;" ∈ zg_tb := zg_m2 (i := 61) rfl rfl
set_option maxRecDepth 100000 in
theorem zt11_8 : TX11 8 = (RX11, "marks", "LUnaskedLetters$Marks;", true) ∧ parseFieldDescriptor "LUnaskedLetters$Marks;" = some (FieldType.object "UnaskedLetters$Marks") := ⟨rfl, by decide +kernel⟩
set_option maxRecDepth 100000 in
theorem zw2_26 : Jvm.Cond.classLink RX11 71 RX7 ∈ zg_tb := zg_m2 (i := 26) rfl rfl
set_option maxRecDepth 100000 in
theorem zw2_27 : Jvm.Cond.instantiable RX7 6 ∈ zg_tb := zg_m2 (i := 27) rfl rfl
set_option maxRecDepth 100000 in
theorem zw1_11 : Jvm.Cond.initialized RX7 ∈ zg_tb := zg_m1 (i := 11) rfl rfl
set_option maxRecDepth 100000 in
theorem zw2_30 : Jvm.Cond.code yX7_init prog_9_method_1_code 1 none ∈ zg_tb := zg_m2 (i := 30) rfl rfl
set_option maxRecDepth 100000 in
theorem zw2_29 : Jvm.Cond.instanceMethod yX7_init ∈ zg_tb := zg_m2 (i := 29) rfl rfl
set_option maxRecDepth 100000 in
theorem zy_yX7_init_I : (Jvm.Cond.instanceMethod yX7_init ∈ zg_tb ∧ Jvm.Cond.initialized yX7_init.cls ∈ zg_tb ∧ Jvm.Cond.code yX7_init prog_9_method_1_code 1 none ∈ zg_tb) ∧ zg_dm yX7_init 0 := ⟨⟨zw2_29, zw1_11, zw2_30⟩, by decide +kernel, by decide +kernel, by decide +kernel⟩
set_option maxRecDepth 100000 in
theorem zw2_62 : Jvm.Cond.fieldLink RX11 74 RX11 "scales" "LUnaskedLetters$Scales;" ∈ zg_tb := zg_m2 (i := 62) rfl rfl
set_option maxRecDepth 100000 in
theorem zt11_9 : TX11 9 = (RX11, "scales", "LUnaskedLetters$Scales;", true) ∧ parseFieldDescriptor "LUnaskedLetters$Scales;" = some (FieldType.object "UnaskedLetters$Scales") := ⟨rfl, by decide +kernel⟩
set_option maxRecDepth 100000 in
theorem zw2_63 : Jvm.Cond.fieldLink RX11 78 RX11 "measures" "[I" ∈ zg_tb := zg_m2 (i := 63) rfl rfl
set_option maxRecDepth 100000 in
theorem zt11_10 : TX11 10 = (RX11, "measures", "[I", true) ∧ parseFieldDescriptor "[I" = some (FieldType.array FieldType.int) := ⟨rfl, by decide +kernel⟩
set_option maxRecDepth 100000 in
theorem zw2_64 : Jvm.Cond.fieldLink RX11 82 RX11 "weights" "[I" ∈ zg_tb := zg_m2 (i := 64) rfl rfl
set_option maxRecDepth 100000 in
theorem zt11_11 : TX11 11 = (RX11, "weights", "[I", true) ∧ parseFieldDescriptor "[I" = some (FieldType.array FieldType.int) := ⟨rfl, by decide +kernel⟩
set_option maxRecDepth 100000 in
theorem zw2_65 : Jvm.Cond.fieldLink RX11 85 RX11 "hand" "[I" ∈ zg_tb := zg_m2 (i := 65) rfl rfl
set_option maxRecDepth 100000 in
theorem zt11_12 : TX11 12 = (RX11, "hand", "[I", true) ∧ parseFieldDescriptor "[I" = some (FieldType.array FieldType.int) := ⟨rfl, by decide +kernel⟩
set_option maxRecDepth 100000 in
theorem zw2_66 : Jvm.Cond.fieldLink RX11 88 RX11 "now" "I" ∈ zg_tb := zg_m2 (i := 66) rfl rfl
set_option maxRecDepth 100000 in
theorem zt11_13 : TX11 13 = (RX11, "now", "I", false) ∧ parseFieldDescriptor "I" = some FieldType.int := ⟨rfl, by decide +kernel⟩
set_option maxRecDepth 100000 in
theorem zw5_158 : Jvm.Cond.methodLink RX12 1 objectInit ∈ zg_tb := zg_m5 (i := 158) rfl rfl
set_option maxRecDepth 100000 in
theorem zw5_160 : Jvm.Cond.fieldLink RX12 9 RX12 "isDown" "[Z" ∈ zg_tb := zg_m5 (i := 160) rfl rfl
set_option maxRecDepth 100000 in
theorem zt12_1 : TX12 1 = (RX12, "isDown", "[Z", true) ∧ parseFieldDescriptor "[Z" = some (FieldType.array FieldType.boolean) := ⟨rfl, by decide +kernel⟩
set_option maxRecDepth 100000 in
theorem zw5_161 : Jvm.Cond.fieldLink RX12 13 RX12 "roads" "[Z" ∈ zg_tb := zg_m5 (i := 161) rfl rfl
set_option maxRecDepth 100000 in
theorem zt12_2 : TX12 2 = (RX12, "roads", "[Z", true) ∧ parseFieldDescriptor "[Z" = some (FieldType.array FieldType.boolean) := ⟨rfl, by decide +kernel⟩
set_option maxRecDepth 100000 in
theorem zw5_162 : Jvm.Cond.fieldLink RX12 16 RX12 "houseOf" "[I" ∈ zg_tb := zg_m5 (i := 162) rfl rfl
set_option maxRecDepth 100000 in
theorem zt12_3 : TX12 3 = (RX12, "houseOf", "[I", true) ∧ parseFieldDescriptor "[I" = some (FieldType.array FieldType.int) := ⟨rfl, by decide +kernel⟩
set_option maxRecDepth 100000 in
theorem zw5_163 : Jvm.Cond.fieldLink RX12 20 RX12 "isTrap" "[Z" ∈ zg_tb := zg_m5 (i := 163) rfl rfl
set_option maxRecDepth 100000 in
theorem zt12_4 : TX12 4 = (RX12, "isTrap", "[Z", true) ∧ parseFieldDescriptor "[Z" = some (FieldType.array FieldType.boolean) := ⟨rfl, by decide +kernel⟩
set_option maxRecDepth 100000 in
theorem zw5_164 : Jvm.Cond.fieldLink RX12 23 RX12 "shopsOf" "[I" ∈ zg_tb := zg_m5 (i := 164) rfl rfl
set_option maxRecDepth 100000 in
theorem zt12_5 : TX12 5 = (RX12, "shopsOf", "[I", true) ∧ parseFieldDescriptor "[I" = some (FieldType.array FieldType.int) := ⟨rfl, by decide +kernel⟩
set_option maxRecDepth 100000 in
theorem zw5_167 : Jvm.Cond.fieldLink RX12 26 RX12 "tape" "[I" ∈ zg_tb := zg_m5 (i := 167) rfl rfl
set_option maxRecDepth 100000 in
theorem zt12_8 : TX12 8 = (RX12, "tape", "[I", true) ∧ parseFieldDescriptor "[I" = some (FieldType.array FieldType.int) := ⟨rfl, by decide +kernel⟩
set_option maxRecDepth 100000 in
theorem zw5_172 : Jvm.Cond.fieldLink RX12 29 RX12 "seenPlain" "[I" ∈ zg_tb := zg_m5 (i := 172) rfl rfl
set_option maxRecDepth 100000 in
theorem zt12_13 : TX12 13 = (RX12, "seenPlain", "[I", true) ∧ parseFieldDescriptor "[I" = some (FieldType.array FieldType.int) := ⟨rfl, by decide +kernel⟩
set_option maxRecDepth 100000 in
theorem zw5_173 : Jvm.Cond.fieldLink RX12 32 RX12 "seenFull" "[I" ∈ zg_tb := zg_m5 (i := 173) rfl rfl
set_option maxRecDepth 100000 in
theorem zt12_14 : TX12 14 = (RX12, "seenFull", "[I", true) ∧ parseFieldDescriptor "[I" = some (FieldType.array FieldType.int) := ⟨rfl, by decide +kernel⟩
set_option maxRecDepth 100000 in
theorem zw5_177 : Jvm.Cond.fieldLink RX12 35 RX12 "saying" "[I" ∈ zg_tb := zg_m5 (i := 177) rfl rfl
set_option maxRecDepth 100000 in
theorem zt12_18 : TX12 18 = (RX12, "saying", "[I", true) ∧ parseFieldDescriptor "[I" = some (FieldType.array FieldType.int) := ⟨rfl, by decide +kernel⟩
set_option maxRecDepth 100000 in
theorem zw5_178 : Jvm.Cond.fieldLink RX12 38 RX12 "codes" "[I" ∈ zg_tb := zg_m5 (i := 178) rfl rfl
set_option maxRecDepth 100000 in
theorem zt12_19 : TX12 19 = (RX12, "codes", "[I", true) ∧ parseFieldDescriptor "[I" = some (FieldType.array FieldType.int) := ⟨rfl, by decide +kernel⟩
set_option maxRecDepth 100000 in
theorem zw5_179 : Jvm.Cond.fieldLink RX12 41 RX12 "textSize" "[I" ∈ zg_tb := zg_m5 (i := 179) rfl rfl
set_option maxRecDepth 100000 in
theorem zt12_20 : TX12 20 = (RX12, "textSize", "[I", true) ∧ parseFieldDescriptor "[I" = some (FieldType.array FieldType.int) := ⟨rfl, by decide +kernel⟩
set_option maxRecDepth 100000 in
theorem zw5_180 : Jvm.Cond.fieldLink RX12 44 RX12 "ruleOf" "[I" ∈ zg_tb := zg_m5 (i := 180) rfl rfl
set_option maxRecDepth 100000 in
theorem zt12_21 : TX12 21 = (RX12, "ruleOf", "[I", true) ∧ parseFieldDescriptor "[I" = some (FieldType.array FieldType.int) := ⟨rfl, by decide +kernel⟩
set_option maxRecDepth 100000 in
theorem zw5_181 : Jvm.Cond.fieldLink RX12 47 RX12 "ruleList" "[Z" ∈ zg_tb := zg_m5 (i := 181) rfl rfl
set_option maxRecDepth 100000 in
theorem zt12_22 : TX12 22 = (RX12, "ruleList", "[Z", true) ∧ parseFieldDescriptor "[Z" = some (FieldType.array FieldType.boolean) := ⟨rfl, by decide +kernel⟩
set_option maxRecDepth 100000 in
theorem zw5_182 : Jvm.Cond.fieldLink RX12 50 RX12 "ruleFrom" "[I" ∈ zg_tb := zg_m5 (i := 182) rfl rfl
set_option maxRecDepth 100000 in
theorem zt12_23 : TX12 23 = (RX12, "ruleFrom", "[I", true) ∧ parseFieldDescriptor "[I" = some (FieldType.array FieldType.int) := ⟨rfl, by decide +kernel⟩
set_option maxRecDepth 100000 in
theorem zw5_183 : Jvm.Cond.fieldLink RX12 53 RX12 "ruleTold" "[I" ∈ zg_tb := zg_m5 (i := 183) rfl rfl
set_option maxRecDepth 100000 in
theorem zt12_24 : TX12 24 = (RX12, "ruleTold", "[I", true) ∧ parseFieldDescriptor "[I" = some (FieldType.array FieldType.int) := ⟨rfl, by decide +kernel⟩
set_option maxRecDepth 100000 in
theorem zw5_186 : Jvm.Cond.fieldLink RX12 56 RX12 "letters" "[I" ∈ zg_tb := zg_m5 (i := 186) rfl rfl
set_option maxRecDepth 100000 in
theorem zt12_27 : TX12 27 = (RX12, "letters", "[I", true) ∧ parseFieldDescriptor "[I" = some (FieldType.array FieldType.int) := ⟨rfl, by decide +kernel⟩
set_option maxRecDepth 100000 in
theorem zw5_187 : Jvm.Cond.fieldLink RX12 59 RX12 "pile" "[I" ∈ zg_tb := zg_m5 (i := 187) rfl rfl
set_option maxRecDepth 100000 in
theorem zt12_28 : TX12 28 = (RX12, "pile", "[I", true) ∧ parseFieldDescriptor "[I" = some (FieldType.array FieldType.int) := ⟨rfl, by decide +kernel⟩
set_option maxRecDepth 100000 in
theorem zw5_190 : Jvm.Cond.fieldLink RX12 62 RX12 "plainRow" "[J" ∈ zg_tb := zg_m5 (i := 190) rfl rfl
set_option maxRecDepth 100000 in
theorem zt12_31 : TX12 31 = (RX12, "plainRow", "[J", true) ∧ parseFieldDescriptor "[J" = some (FieldType.array FieldType.long) := ⟨rfl, by decide +kernel⟩
set_option maxRecDepth 100000 in
theorem zw5_191 : Jvm.Cond.fieldLink RX12 66 RX12 "fullRow" "[J" ∈ zg_tb := zg_m5 (i := 191) rfl rfl
set_option maxRecDepth 100000 in
theorem zt12_32 : TX12 32 = (RX12, "fullRow", "[J", true) ∧ parseFieldDescriptor "[J" = some (FieldType.array FieldType.long) := ⟨rfl, by decide +kernel⟩
set_option maxRecDepth 100000 in
theorem zw5_192 : Jvm.Cond.fieldLink RX12 69 RX12 "plainWords" "[I" ∈ zg_tb := zg_m5 (i := 192) rfl rfl
set_option maxRecDepth 100000 in
theorem zt12_33 : TX12 33 = (RX12, "plainWords", "[I", true) ∧ parseFieldDescriptor "[I" = some (FieldType.array FieldType.int) := ⟨rfl, by decide +kernel⟩
set_option maxRecDepth 100000 in
theorem zw5_193 : Jvm.Cond.fieldLink RX12 72 RX12 "fullWords" "[I" ∈ zg_tb := zg_m5 (i := 193) rfl rfl
set_option maxRecDepth 100000 in
theorem zt12_34 : TX12 34 = (RX12, "fullWords", "[I", true) ∧ parseFieldDescriptor "[I" = some (FieldType.array FieldType.int) := ⟨rfl, by decide +kernel⟩
set_option maxRecDepth 100000 in
theorem zw5_194 : Jvm.Cond.fieldLink RX12 75 RX12 "from" "[I" ∈ zg_tb := zg_m5 (i := 194) rfl rfl
set_option maxRecDepth 100000 in
theorem zt12_35 : TX12 35 = (RX12, "from", "[I", true) ∧ parseFieldDescriptor "[I" = some (FieldType.array FieldType.int) := ⟨rfl, by decide +kernel⟩
set_option maxRecDepth 100000 in
theorem zw5_195 : Jvm.Cond.fieldLink RX12 78 RX12 "to" "[I" ∈ zg_tb := zg_m5 (i := 195) rfl rfl
set_option maxRecDepth 100000 in
theorem zt12_36 : TX12 36 = (RX12, "to", "[I", true) ∧ parseFieldDescriptor "[I" = some (FieldType.array FieldType.int) := ⟨rfl, by decide +kernel⟩
set_option maxRecDepth 100000 in
theorem zw5_196 : Jvm.Cond.fieldLink RX12 81 RX12 "isSigned" "[Z" ∈ zg_tb := zg_m5 (i := 196) rfl rfl
set_option maxRecDepth 100000 in
theorem zt12_37 : TX12 37 = (RX12, "isSigned", "[Z", true) ∧ parseFieldDescriptor "[Z" = some (FieldType.array FieldType.boolean) := ⟨rfl, by decide +kernel⟩
set_option maxRecDepth 100000 in
theorem zw5_197 : Jvm.Cond.fieldLink RX12 84 RX12 "stamp" "[I" ∈ zg_tb := zg_m5 (i := 197) rfl rfl
set_option maxRecDepth 100000 in
theorem zt12_38 : TX12 38 = (RX12, "stamp", "[I", true) ∧ parseFieldDescriptor "[I" = some (FieldType.array FieldType.int) := ⟨rfl, by decide +kernel⟩
set_option maxRecDepth 100000 in
theorem zw5_198 : Jvm.Cond.fieldLink RX12 87 RX12 "written" "[I" ∈ zg_tb := zg_m5 (i := 198) rfl rfl
set_option maxRecDepth 100000 in
theorem zt12_39 : TX12 39 = (RX12, "written", "[I", true) ∧ parseFieldDescriptor "[I" = some (FieldType.array FieldType.int) := ⟨rfl, by decide +kernel⟩
set_option maxRecDepth 100000 in
theorem zw5_199 : Jvm.Cond.fieldLink RX12 90 RX12 "state" "[I" ∈ zg_tb := zg_m5 (i := 199) rfl rfl
set_option maxRecDepth 100000 in
theorem zt12_40 : TX12 40 = (RX12, "state", "[I", true) ∧ parseFieldDescriptor "[I" = some (FieldType.array FieldType.int) := ⟨rfl, by decide +kernel⟩
set_option maxRecDepth 100000 in
theorem zw5_200 : Jvm.Cond.fieldLink RX12 93 RX12 "tries" "[I" ∈ zg_tb := zg_m5 (i := 200) rfl rfl
set_option maxRecDepth 100000 in
theorem zt12_41 : TX12 41 = (RX12, "tries", "[I", true) ∧ parseFieldDescriptor "[I" = some (FieldType.array FieldType.int) := ⟨rfl, by decide +kernel⟩
set_option maxRecDepth 100000 in
theorem zw5_201 : Jvm.Cond.fieldLink RX12 96 RX12 "due" "[I" ∈ zg_tb := zg_m5 (i := 201) rfl rfl
set_option maxRecDepth 100000 in
theorem zt12_42 : TX12 42 = (RX12, "due", "[I", true) ∧ parseFieldDescriptor "[I" = some (FieldType.array FieldType.int) := ⟨rfl, by decide +kernel⟩
set_option maxRecDepth 100000 in
theorem zw5_202 : Jvm.Cond.fieldLink RX12 99 RX12 "why" "[I" ∈ zg_tb := zg_m5 (i := 202) rfl rfl
set_option maxRecDepth 100000 in
theorem zt12_43 : TX12 43 = (RX12, "why", "[I", true) ∧ parseFieldDescriptor "[I" = some (FieldType.array FieldType.int) := ⟨rfl, by decide +kernel⟩
set_option maxRecDepth 100000 in
theorem zw5_204 : Jvm.Cond.fieldLink RX12 102 RX12 "markLetter" "[I" ∈ zg_tb := zg_m5 (i := 204) rfl rfl
set_option maxRecDepth 100000 in
theorem zt12_45 : TX12 45 = (RX12, "markLetter", "[I", true) ∧ parseFieldDescriptor "[I" = some (FieldType.array FieldType.int) := ⟨rfl, by decide +kernel⟩
set_option maxRecDepth 100000 in
theorem zw5_205 : Jvm.Cond.fieldLink RX12 105 RX12 "markOf" "[I" ∈ zg_tb := zg_m5 (i := 205) rfl rfl
set_option maxRecDepth 100000 in
theorem zt12_46 : TX12 46 = (RX12, "markOf", "[I", true) ∧ parseFieldDescriptor "[I" = some (FieldType.array FieldType.int) := ⟨rfl, by decide +kernel⟩
set_option maxRecDepth 100000 in
theorem zw5_206 : Jvm.Cond.fieldLink RX12 108 RX12 "markTold" "[I" ∈ zg_tb := zg_m5 (i := 206) rfl rfl
set_option maxRecDepth 100000 in
theorem zt12_47 : TX12 47 = (RX12, "markTold", "[I", true) ∧ parseFieldDescriptor "[I" = some (FieldType.array FieldType.int) := ⟨rfl, by decide +kernel⟩
set_option maxRecDepth 100000 in
theorem zw5_207 : Jvm.Cond.fieldLink RX12 111 RX12 "marks" "[I" ∈ zg_tb := zg_m5 (i := 207) rfl rfl
set_option maxRecDepth 100000 in
theorem zt12_48 : TX12 48 = (RX12, "marks", "[I", true) ∧ parseFieldDescriptor "[I" = some (FieldType.array FieldType.int) := ⟨rfl, by decide +kernel⟩
set_option maxRecDepth 100000 in
theorem zw5_209 : Jvm.Cond.fieldLink RX12 114 RX12 "fivePlace" "[I" ∈ zg_tb := zg_m5 (i := 209) rfl rfl
set_option maxRecDepth 100000 in
theorem zt12_50 : TX12 50 = (RX12, "fivePlace", "[I", true) ∧ parseFieldDescriptor "[I" = some (FieldType.array FieldType.int) := ⟨rfl, by decide +kernel⟩
set_option maxRecDepth 100000 in
theorem zw5_210 : Jvm.Cond.fieldLink RX12 117 RX12 "fiveOf" "[I" ∈ zg_tb := zg_m5 (i := 210) rfl rfl
set_option maxRecDepth 100000 in
theorem zt12_51 : TX12 51 = (RX12, "fiveOf", "[I", true) ∧ parseFieldDescriptor "[I" = some (FieldType.array FieldType.int) := ⟨rfl, by decide +kernel⟩
set_option maxRecDepth 100000 in
theorem zw5_212 : Jvm.Cond.fieldLink RX12 120 RX12 "weights" "[I" ∈ zg_tb := zg_m5 (i := 212) rfl rfl
set_option maxRecDepth 100000 in
theorem zt12_53 : TX12 53 = (RX12, "weights", "[I", true) ∧ parseFieldDescriptor "[I" = some (FieldType.array FieldType.int) := ⟨rfl, by decide +kernel⟩
set_option maxRecDepth 100000 in
theorem zw5_213 : Jvm.Cond.fieldLink RX12 123 RX12 "offList" "[I" ∈ zg_tb := zg_m5 (i := 213) rfl rfl
set_option maxRecDepth 100000 in
theorem zt12_54 : TX12 54 = (RX12, "offList", "[I", true) ∧ parseFieldDescriptor "[I" = some (FieldType.array FieldType.int) := ⟨rfl, by decide +kernel⟩
set_option maxRecDepth 100000 in
theorem zw5_214 : Jvm.Cond.fieldLink RX12 126 RX12 "offHouse" "[I" ∈ zg_tb := zg_m5 (i := 214) rfl rfl
set_option maxRecDepth 100000 in
theorem zt12_55 : TX12 55 = (RX12, "offHouse", "[I", true) ∧ parseFieldDescriptor "[I" = some (FieldType.array FieldType.int) := ⟨rfl, by decide +kernel⟩
set_option maxRecDepth 100000 in
theorem zw5_215 : Jvm.Cond.fieldLink RX12 129 RX12 "offTold" "[I" ∈ zg_tb := zg_m5 (i := 215) rfl rfl
set_option maxRecDepth 100000 in
theorem zt12_56 : TX12 56 = (RX12, "offTold", "[I", true) ∧ parseFieldDescriptor "[I" = some (FieldType.array FieldType.int) := ⟨rfl, by decide +kernel⟩
set_option maxRecDepth 100000 in
theorem zw5_218 : Jvm.Cond.fieldLink RX12 132 RX12 "pathHouse" "[I" ∈ zg_tb := zg_m5 (i := 218) rfl rfl
set_option maxRecDepth 100000 in
theorem zt12_59 : TX12 59 = (RX12, "pathHouse", "[I", true) ∧ parseFieldDescriptor "[I" = some (FieldType.array FieldType.int) := ⟨rfl, by decide +kernel⟩
set_option maxRecDepth 100000 in
theorem zw5_219 : Jvm.Cond.fieldLink RX12 135 RX12 "pathMinute" "[I" ∈ zg_tb := zg_m5 (i := 219) rfl rfl
set_option maxRecDepth 100000 in
theorem zt12_60 : TX12 60 = (RX12, "pathMinute", "[I", true) ∧ parseFieldDescriptor "[I" = some (FieldType.array FieldType.int) := ⟨rfl, by decide +kernel⟩
set_option maxRecDepth 100000 in
theorem zw5_220 : Jvm.Cond.fieldLink RX12 138 RX12 "pathMany" "[I" ∈ zg_tb := zg_m5 (i := 220) rfl rfl
set_option maxRecDepth 100000 in
theorem zt12_61 : TX12 61 = (RX12, "pathMany", "[I", true) ∧ parseFieldDescriptor "[I" = some (FieldType.array FieldType.int) := ⟨rfl, by decide +kernel⟩
set_option maxRecDepth 100000 in
theorem zw5_221 : Jvm.Cond.fieldLink RX12 141 RX12 "swapFrom" "[J" ∈ zg_tb := zg_m5 (i := 221) rfl rfl
set_option maxRecDepth 100000 in
theorem zt12_62 : TX12 62 = (RX12, "swapFrom", "[J", true) ∧ parseFieldDescriptor "[J" = some (FieldType.array FieldType.long) := ⟨rfl, by decide +kernel⟩
set_option maxRecDepth 100000 in
theorem zw5_222 : Jvm.Cond.fieldLink RX12 144 RX12 "swapTo" "[J" ∈ zg_tb := zg_m5 (i := 222) rfl rfl
set_option maxRecDepth 100000 in
theorem zt12_63 : TX12 63 = (RX12, "swapTo", "[J", true) ∧ parseFieldDescriptor "[J" = some (FieldType.array FieldType.long) := ⟨rfl, by decide +kernel⟩
set_option maxRecDepth 100000 in
theorem zw5_223 : Jvm.Cond.fieldLink RX12 147 RX12 "swapped" "[J" ∈ zg_tb := zg_m5 (i := 223) rfl rfl
set_option maxRecDepth 100000 in
theorem zt12_64 : TX12 64 = (RX12, "swapped", "[J", true) ∧ parseFieldDescriptor "[J" = some (FieldType.array FieldType.long) := ⟨rfl, by decide +kernel⟩
set_option maxRecDepth 100000 in
theorem zw5_227 : Jvm.Cond.fieldLink RX12 150 RX12 "handOf" "[I" ∈ zg_tb := zg_m5 (i := 227) rfl rfl
set_option maxRecDepth 100000 in
theorem zt12_68 : TX12 68 = (RX12, "handOf", "[I", true) ∧ parseFieldDescriptor "[I" = some (FieldType.array FieldType.int) := ⟨rfl, by decide +kernel⟩
set_option maxRecDepth 100000 in
theorem zw5_228 : Jvm.Cond.fieldLink RX12 153 RX12 "stops" "[I" ∈ zg_tb := zg_m5 (i := 228) rfl rfl
set_option maxRecDepth 100000 in
theorem zt12_69 : TX12 69 = (RX12, "stops", "[I", true) ∧ parseFieldDescriptor "[I" = some (FieldType.array FieldType.int) := ⟨rfl, by decide +kernel⟩
set_option maxRecDepth 100000 in
theorem zw1_48 : Jvm.Cond.fieldLink RX4 31 RX4 "houses" "I" ∈ zg_tb := zg_m1 (i := 48) rfl rfl
set_option maxRecDepth 100000 in
theorem zt4_6 : TX4 6 = (RX4, "houses", "I", false) ∧ parseFieldDescriptor "I" = some FieldType.int := ⟨rfl, by decide +kernel⟩
set_option maxRecDepth 100000 in
theorem zw2_109 : Jvm.Cond.methodLink RX11 92 yX4_addHouse ∈ zg_tb := zg_m2 (i := 109) rfl rfl
set_option maxRecDepth 100000 in
theorem zw2_112 : Jvm.Cond.code yX4_addHouse prog_6_method_4_code 1 (some .int) ∈ zg_tb := zg_m2 (i := 112) rfl rfl
set_option maxRecDepth 100000 in
theorem zw2_110 : Jvm.Cond.instanceMethod yX4_addHouse ∈ zg_tb := zg_m2 (i := 110) rfl rfl
set_option maxRecDepth 100000 in
theorem zw2_111 : Jvm.Cond.selects RX4 yX4_addHouse yX4_addHouse ∈ zg_tb := zg_m2 (i := 111) rfl rfl
set_option maxRecDepth 100000 in
theorem zy_yX4_addHouse_V : (Jvm.Cond.instanceMethod yX4_addHouse ∈ zg_tb ∧ Jvm.Cond.selects yX4_addHouse.cls yX4_addHouse yX4_addHouse ∈ zg_tb ∧ Jvm.Cond.initialized yX4_addHouse.cls ∈ zg_tb ∧ Jvm.Cond.code yX4_addHouse prog_6_method_4_code 1 (some .int) ∈ zg_tb) ∧ zg_dm yX4_addHouse 0 := ⟨⟨zw2_110, zw2_111, zw1_2, zw2_112⟩, by decide +kernel, by decide +kernel, by decide +kernel⟩
set_option maxRecDepth 100000 in
theorem zw5_165 : Jvm.Cond.fieldLink RX12 164 RX12 "houses" "I" ∈ zg_tb := zg_m5 (i := 165) rfl rfl
set_option maxRecDepth 100000 in
theorem zt12_6 : TX12 6 = (RX12, "houses", "I", false) ∧ parseFieldDescriptor "I" = some FieldType.int := ⟨rfl, by decide +kernel⟩
set_option maxRecDepth 100000 in
theorem zw2_117 : Jvm.Cond.methodLink RX11 96 yX4_hasHouse ∈ zg_tb := zg_m2 (i := 117) rfl rfl
set_option maxRecDepth 100000 in
theorem zw2_120 : Jvm.Cond.code yX4_hasHouse prog_6_method_2_code 2 (some .boolean) ∈ zg_tb := zg_m2 (i := 120) rfl rfl
set_option maxRecDepth 100000 in
theorem zw2_118 : Jvm.Cond.instanceMethod yX4_hasHouse ∈ zg_tb := zg_m2 (i := 118) rfl rfl
set_option maxRecDepth 100000 in
theorem zw2_119 : Jvm.Cond.selects RX4 yX4_hasHouse yX4_hasHouse ∈ zg_tb := zg_m2 (i := 119) rfl rfl
set_option maxRecDepth 100000 in
theorem zy_yX4_hasHouse_V : (Jvm.Cond.instanceMethod yX4_hasHouse ∈ zg_tb ∧ Jvm.Cond.selects yX4_hasHouse.cls yX4_hasHouse yX4_hasHouse ∈ zg_tb ∧ Jvm.Cond.initialized yX4_hasHouse.cls ∈ zg_tb ∧ Jvm.Cond.code yX4_hasHouse prog_6_method_2_code 2 (some .boolean) ∈ zg_tb) ∧ zg_dm yX4_hasHouse 1 := ⟨⟨zw2_118, zw2_119, zw1_2, zw2_120⟩, by decide +kernel, by decide +kernel, by decide +kernel⟩
set_option maxRecDepth 100000 in
theorem zw2_125 : Jvm.Cond.methodLink RX11 104 yX4_joined ∈ zg_tb := zg_m2 (i := 125) rfl rfl
set_option maxRecDepth 100000 in
theorem zw2_128 : Jvm.Cond.code yX4_joined prog_6_method_6_code 3 (some .boolean) ∈ zg_tb := zg_m2 (i := 128) rfl rfl
set_option maxRecDepth 100000 in
theorem zw2_126 : Jvm.Cond.instanceMethod yX4_joined ∈ zg_tb := zg_m2 (i := 126) rfl rfl
set_option maxRecDepth 100000 in
theorem zw2_127 : Jvm.Cond.selects RX4 yX4_joined yX4_joined ∈ zg_tb := zg_m2 (i := 127) rfl rfl
set_option maxRecDepth 100000 in
theorem zy_yX4_joined_V : (Jvm.Cond.instanceMethod yX4_joined ∈ zg_tb ∧ Jvm.Cond.selects yX4_joined.cls yX4_joined yX4_joined ∈ zg_tb ∧ Jvm.Cond.initialized yX4_joined.cls ∈ zg_tb ∧ Jvm.Cond.code yX4_joined prog_6_method_6_code 3 (some .boolean) ∈ zg_tb) ∧ zg_dm yX4_joined 2 := ⟨⟨zw2_126, zw2_127, zw1_2, zw2_128⟩, by decide +kernel, by decide +kernel, by decide +kernel⟩
set_option maxRecDepth 100000 in
theorem zw2_129 : Jvm.Cond.methodLink RX11 108 yX4_join ∈ zg_tb := zg_m2 (i := 129) rfl rfl
set_option maxRecDepth 100000 in
theorem zw2_132 : Jvm.Cond.code yX4_join prog_6_method_7_code 3 none ∈ zg_tb := zg_m2 (i := 132) rfl rfl
set_option maxRecDepth 100000 in
theorem zw2_130 : Jvm.Cond.instanceMethod yX4_join ∈ zg_tb := zg_m2 (i := 130) rfl rfl
set_option maxRecDepth 100000 in
theorem zw2_131 : Jvm.Cond.selects RX4 yX4_join yX4_join ∈ zg_tb := zg_m2 (i := 131) rfl rfl
set_option maxRecDepth 100000 in
theorem zy_yX4_join_V : (Jvm.Cond.instanceMethod yX4_join ∈ zg_tb ∧ Jvm.Cond.selects yX4_join.cls yX4_join yX4_join ∈ zg_tb ∧ Jvm.Cond.initialized yX4_join.cls ∈ zg_tb ∧ Jvm.Cond.code yX4_join prog_6_method_7_code 3 none ∈ zg_tb) ∧ zg_dm yX4_join 2 := ⟨⟨zw2_130, zw2_131, zw1_2, zw2_132⟩, by decide +kernel, by decide +kernel, by decide +kernel⟩
set_option maxRecDepth 100000 in
theorem zw6_145 : Jvm.Cond.methodLink RX12 160 yX12_in ∈ zg_tb := zg_m6 (i := 145) rfl rfl
set_option maxRecDepth 100000 in
theorem zw6_147 : Jvm.Cond.code yX12_in prog_14_method_1_code 3 (some .boolean) ∈ zg_tb := zg_m6 (i := 147) rfl rfl
set_option maxRecDepth 100000 in
theorem zw1_12 : Jvm.Cond.initialized RX12 ∈ zg_tb := zg_m1 (i := 12) rfl rfl
set_option maxRecDepth 100000 in
theorem zw6_146 : Jvm.Cond.static yX12_in ∈ zg_tb := zg_m6 (i := 146) rfl rfl
set_option maxRecDepth 100000 in
theorem zy_yX12_in_S : (Jvm.Cond.static yX12_in ∈ zg_tb ∧ Jvm.Cond.initialized yX12_in.cls ∈ zg_tb ∧ Jvm.Cond.code yX12_in prog_14_method_1_code 3 (some .boolean) ∈ zg_tb) ∧ zg_dm yX12_in 3 := ⟨⟨zw6_146, zw1_12, zw6_147⟩, by decide +kernel, by decide +kernel, by decide +kernel⟩
set_option maxRecDepth 100000 in
theorem zw6_141 : Jvm.Cond.methodLink RX12 170 yX12_isHouse ∈ zg_tb := zg_m6 (i := 141) rfl rfl
set_option maxRecDepth 100000 in
theorem zw6_144 : Jvm.Cond.code yX12_isHouse prog_14_method_4_code 2 (some .boolean) ∈ zg_tb := zg_m6 (i := 144) rfl rfl
set_option maxRecDepth 100000 in
theorem zw6_143 : Jvm.Cond.instanceMethod yX12_isHouse ∈ zg_tb := zg_m6 (i := 143) rfl rfl
set_option maxRecDepth 100000 in
theorem zs_yX12_isHouse : Jvm.Cond.selects RX12 yX12_isHouse yX12_isHouse ∈ zg_tb := zg_mp (y := yX12_isHouse) (n := 71) (zw_privs_3 (List.mem_of_getElem? (i := 8) (by decide +kernel))) rfl
set_option maxRecDepth 100000 in
theorem zy_yX12_isHouse_V : (Jvm.Cond.instanceMethod yX12_isHouse ∈ zg_tb ∧ Jvm.Cond.selects yX12_isHouse.cls yX12_isHouse yX12_isHouse ∈ zg_tb ∧ Jvm.Cond.initialized yX12_isHouse.cls ∈ zg_tb ∧ Jvm.Cond.code yX12_isHouse prog_14_method_4_code 2 (some .boolean) ∈ zg_tb) ∧ zg_dm yX12_isHouse 1 := ⟨⟨zw6_143, zs_yX12_isHouse, zw1_12, zw6_144⟩, by decide +kernel, by decide +kernel, by decide +kernel⟩
set_option maxRecDepth 100000 in
theorem zw1_50 : Jvm.Cond.fieldLink RX4 35 RX4 "names" "I" ∈ zg_tb := zg_m1 (i := 50) rfl rfl
set_option maxRecDepth 100000 in
theorem zt4_7 : TX4 7 = (RX4, "names", "I", false) ∧ parseFieldDescriptor "I" = some FieldType.int := ⟨rfl, by decide +kernel⟩
set_option maxRecDepth 100000 in
theorem zw2_137 : Jvm.Cond.methodLink RX11 112 yX4_addName ∈ zg_tb := zg_m2 (i := 137) rfl rfl
set_option maxRecDepth 100000 in
theorem zw2_140 : Jvm.Cond.code yX4_addName prog_6_method_5_code 3 (some .int) ∈ zg_tb := zg_m2 (i := 140) rfl rfl
set_option maxRecDepth 100000 in
theorem zw2_138 : Jvm.Cond.instanceMethod yX4_addName ∈ zg_tb := zg_m2 (i := 138) rfl rfl
set_option maxRecDepth 100000 in
theorem zw2_139 : Jvm.Cond.selects RX4 yX4_addName yX4_addName ∈ zg_tb := zg_m2 (i := 139) rfl rfl
set_option maxRecDepth 100000 in
theorem zy_yX4_addName_V : (Jvm.Cond.instanceMethod yX4_addName ∈ zg_tb ∧ Jvm.Cond.selects yX4_addName.cls yX4_addName yX4_addName ∈ zg_tb ∧ Jvm.Cond.initialized yX4_addName.cls ∈ zg_tb ∧ Jvm.Cond.code yX4_addName prog_6_method_5_code 3 (some .int) ∈ zg_tb) ∧ zg_dm yX4_addName 2 := ⟨⟨zw2_138, zw2_139, zw1_2, zw2_140⟩, by decide +kernel, by decide +kernel, by decide +kernel⟩
set_option maxRecDepth 100000 in
theorem zw5_166 : Jvm.Cond.fieldLink RX12 167 RX12 "names" "I" ∈ zg_tb := zg_m5 (i := 166) rfl rfl
set_option maxRecDepth 100000 in
theorem zt12_7 : TX12 7 = (RX12, "names", "I", false) ∧ parseFieldDescriptor "I" = some FieldType.int := ⟨rfl, by decide +kernel⟩
set_option maxRecDepth 100000 in
theorem zw1_79 : Jvm.Cond.fieldLink RX8 15 RX8 "length" "I" ∈ zg_tb := zg_m1 (i := 79) rfl rfl
set_option maxRecDepth 100000 in
theorem zt8_1 : TX8 1 = (RX8, "length", "I", false) ∧ parseFieldDescriptor "I" = some FieldType.int := ⟨rfl, by decide +kernel⟩
set_option maxRecDepth 100000 in
theorem zw2_145 : Jvm.Cond.methodLink RX11 116 yX8_bytesIn ∈ zg_tb := zg_m2 (i := 145) rfl rfl
set_option maxRecDepth 100000 in
theorem zw2_147 : Jvm.Cond.code yX8_bytesIn prog_10_method_2_code 3 (some .int) ∈ zg_tb := zg_m2 (i := 147) rfl rfl
set_option maxRecDepth 100000 in
theorem zw2_146 : Jvm.Cond.static yX8_bytesIn ∈ zg_tb := zg_m2 (i := 146) rfl rfl
set_option maxRecDepth 100000 in
theorem zy_yX8_bytesIn_S : (Jvm.Cond.static yX8_bytesIn ∈ zg_tb ∧ Jvm.Cond.initialized yX8_bytesIn.cls ∈ zg_tb ∧ Jvm.Cond.code yX8_bytesIn prog_10_method_2_code 3 (some .int) ∈ zg_tb) ∧ zg_dm yX8_bytesIn 1 := ⟨⟨zw2_146, zw1_3, zw2_147⟩, by decide +kernel, by decide +kernel, by decide +kernel⟩
set_option maxRecDepth 100000 in
theorem zw1_81 : Jvm.Cond.fieldLink RX11 120 RX8 "length" "I" ∈ zg_tb := zg_m1 (i := 81) rfl rfl
set_option maxRecDepth 100000 in
theorem zw2_148 : Jvm.Cond.methodLink RX11 123 yX8_put ∈ zg_tb := zg_m2 (i := 148) rfl rfl
set_option maxRecDepth 100000 in
theorem zw2_151 : Jvm.Cond.code yX8_put prog_10_method_3_code 4 none ∈ zg_tb := zg_m2 (i := 151) rfl rfl
set_option maxRecDepth 100000 in
theorem zw2_149 : Jvm.Cond.instanceMethod yX8_put ∈ zg_tb := zg_m2 (i := 149) rfl rfl
set_option maxRecDepth 100000 in
theorem zw2_150 : Jvm.Cond.selects RX8 yX8_put yX8_put ∈ zg_tb := zg_m2 (i := 150) rfl rfl
set_option maxRecDepth 100000 in
theorem zy_yX8_put_V : (Jvm.Cond.instanceMethod yX8_put ∈ zg_tb ∧ Jvm.Cond.selects yX8_put.cls yX8_put yX8_put ∈ zg_tb ∧ Jvm.Cond.initialized yX8_put.cls ∈ zg_tb ∧ Jvm.Cond.code yX8_put prog_10_method_3_code 4 none ∈ zg_tb) ∧ zg_dm yX8_put 1 := ⟨⟨zw2_149, zw2_150, zw1_3, zw2_151⟩, by decide +kernel, by decide +kernel, by decide +kernel⟩
set_option maxRecDepth 100000 in
theorem zw6_168 : Jvm.Cond.methodLink RX12 177 yX12_byteOf ∈ zg_tb := zg_m6 (i := 168) rfl rfl
set_option maxRecDepth 100000 in
theorem zw6_170 : Jvm.Cond.code yX12_byteOf prog_14_method_11_code 7 (some .int) ∈ zg_tb := zg_m6 (i := 170) rfl rfl
set_option maxRecDepth 100000 in
theorem zw6_169 : Jvm.Cond.static yX12_byteOf ∈ zg_tb := zg_m6 (i := 169) rfl rfl
set_option maxRecDepth 100000 in
theorem zy_yX12_byteOf_S : (Jvm.Cond.static yX12_byteOf ∈ zg_tb ∧ Jvm.Cond.initialized yX12_byteOf.cls ∈ zg_tb ∧ Jvm.Cond.code yX12_byteOf prog_14_method_11_code 7 (some .int) ∈ zg_tb) ∧ zg_dm yX12_byteOf 6 := ⟨⟨zw6_169, zw1_12, zw6_170⟩, by decide +kernel, by decide +kernel, by decide +kernel⟩
set_option maxRecDepth 100000 in
theorem zw5_168 : Jvm.Cond.fieldLink RX12 181 RX12 "size" "I" ∈ zg_tb := zg_m5 (i := 168) rfl rfl
set_option maxRecDepth 100000 in
theorem zt12_9 : TX12 9 = (RX12, "size", "I", false) ∧ parseFieldDescriptor "I" = some FieldType.int := ⟨rfl, by decide +kernel⟩
set_option maxRecDepth 100000 in
theorem zw1_78 : Jvm.Cond.fieldLink RX2 17 RX8 "length" "I" ∈ zg_tb := zg_m1 (i := 78) rfl rfl
set_option maxRecDepth 100000 in
theorem zw2_164 : Jvm.Cond.methodLink RX2 21 yX8_at ∈ zg_tb := zg_m2 (i := 164) rfl rfl
set_option maxRecDepth 100000 in
theorem zw2_167 : Jvm.Cond.code yX8_at prog_10_method_4_code 2 (some .int) ∈ zg_tb := zg_m2 (i := 167) rfl rfl
set_option maxRecDepth 100000 in
theorem zw2_165 : Jvm.Cond.instanceMethod yX8_at ∈ zg_tb := zg_m2 (i := 165) rfl rfl
set_option maxRecDepth 100000 in
theorem zw2_166 : Jvm.Cond.selects RX8 yX8_at yX8_at ∈ zg_tb := zg_m2 (i := 166) rfl rfl
set_option maxRecDepth 100000 in
theorem zy_yX8_at_V : (Jvm.Cond.instanceMethod yX8_at ∈ zg_tb ∧ Jvm.Cond.selects yX8_at.cls yX8_at yX8_at ∈ zg_tb ∧ Jvm.Cond.initialized yX8_at.cls ∈ zg_tb ∧ Jvm.Cond.code yX8_at prog_10_method_4_code 2 (some .int) ∈ zg_tb) ∧ zg_dm yX8_at 1 := ⟨⟨zw2_165, zw2_166, zw1_3, zw2_167⟩, by decide +kernel, by decide +kernel, by decide +kernel⟩
set_option maxRecDepth 100000 in
theorem zw2_168 : Jvm.Cond.methodLink RX2 25 yX2_hexOf ∈ zg_tb := zg_m2 (i := 168) rfl rfl
set_option maxRecDepth 100000 in
theorem zw2_170 : Jvm.Cond.code yX2_hexOf prog_4_method_3_code 1 (some .int) ∈ zg_tb := zg_m2 (i := 170) rfl rfl
set_option maxRecDepth 100000 in
theorem zw2_169 : Jvm.Cond.static yX2_hexOf ∈ zg_tb := zg_m2 (i := 169) rfl rfl
set_option maxRecDepth 100000 in
theorem zy_yX2_hexOf_S : (Jvm.Cond.static yX2_hexOf ∈ zg_tb ∧ Jvm.Cond.initialized yX2_hexOf.cls ∈ zg_tb ∧ Jvm.Cond.code yX2_hexOf prog_4_method_3_code 1 (some .int) ∈ zg_tb) ∧ zg_dm yX2_hexOf 1 := ⟨⟨zw2_169, zw1_4, zw2_170⟩, by decide +kernel, by decide +kernel, by decide +kernel⟩
set_option maxRecDepth 100000 in
theorem zw2_171 : Jvm.Cond.methodLink RX2 28 yX9_isByte ∈ zg_tb := zg_m2 (i := 171) rfl rfl
set_option maxRecDepth 100000 in
theorem zw2_173 : Jvm.Cond.code yX9_isByte prog_11_method_3_code 1 (some .boolean) ∈ zg_tb := zg_m2 (i := 173) rfl rfl
set_option maxRecDepth 100000 in
theorem zw1_13 : Jvm.Cond.initialized RX9 ∈ zg_tb := zg_m1 (i := 13) rfl rfl
set_option maxRecDepth 100000 in
theorem zw2_172 : Jvm.Cond.static yX9_isByte ∈ zg_tb := zg_m2 (i := 172) rfl rfl
set_option maxRecDepth 100000 in
theorem zy_yX9_isByte_S : (Jvm.Cond.static yX9_isByte ∈ zg_tb ∧ Jvm.Cond.initialized yX9_isByte.cls ∈ zg_tb ∧ Jvm.Cond.code yX9_isByte prog_11_method_3_code 1 (some .boolean) ∈ zg_tb) ∧ zg_dm yX9_isByte 1 := ⟨⟨zw2_172, zw1_13, zw2_173⟩, by decide +kernel, by decide +kernel, by decide +kernel⟩
set_option maxRecDepth 100000 in
theorem zw1_119 : Jvm.Cond.fieldLink RX6 25 RX6 "at" "I" ∈ zg_tb := zg_m1 (i := 119) rfl rfl
set_option maxRecDepth 100000 in
theorem zt6_3 : TX6 3 = (RX6, "at", "I", false) ∧ parseFieldDescriptor "I" = some FieldType.int := ⟨rfl, by decide +kernel⟩
set_option maxRecDepth 100000 in
theorem zw1_117 : Jvm.Cond.fieldLink RX6 17 RX6 "tape" "LUnaskedLetters$Tape;" ∈ zg_tb := zg_m1 (i := 117) rfl rfl
set_option maxRecDepth 100000 in
theorem zt6_1 : TX6 1 = (RX6, "tape", "LUnaskedLetters$Tape;", false) ∧ parseFieldDescriptor "LUnaskedLetters$Tape;" = some (FieldType.object "UnaskedLetters$Tape") := ⟨rfl, by decide +kernel⟩
set_option maxRecDepth 100000 in
theorem zw1_80 : Jvm.Cond.fieldLink RX6 49 RX8 "length" "I" ∈ zg_tb := zg_m1 (i := 80) rfl rfl
set_option maxRecDepth 100000 in
theorem zw2_178 : Jvm.Cond.methodLink RX6 28 yX8_at ∈ zg_tb := zg_m2 (i := 178) rfl rfl
set_option maxRecDepth 100000 in
theorem zw2_204 : Jvm.Cond.methodLink RJ1 88 yJ1_canEncode_9a6ad ∈ zg_tb := zg_m2 (i := 204) rfl rfl
set_option maxRecDepth 100000 in
theorem zw2_206 : Jvm.Cond.code yJ1_canEncode_9a6ad prog_20_method_4_code 1 (some .boolean) ∈ zg_tb := zg_m2 (i := 206) rfl rfl
set_option maxRecDepth 100000 in
theorem zw1_14 : Jvm.Cond.initialized RJ1 ∈ zg_tb := zg_m1 (i := 14) rfl rfl
set_option maxRecDepth 100000 in
theorem zw2_205 : Jvm.Cond.static yJ1_canEncode_9a6ad ∈ zg_tb := zg_m2 (i := 205) rfl rfl
set_option maxRecDepth 100000 in
theorem zy_yJ1_canEncode_9a6ad_S : (Jvm.Cond.static yJ1_canEncode_9a6ad ∈ zg_tb ∧ Jvm.Cond.initialized yJ1_canEncode_9a6ad.cls ∈ zg_tb ∧ Jvm.Cond.code yJ1_canEncode_9a6ad prog_20_method_4_code 1 (some .boolean) ∈ zg_tb) ∧ zg_dm yJ1_canEncode_9a6ad 1 := ⟨⟨zw2_205, zw1_14, zw2_206⟩, by decide +kernel, by decide +kernel, by decide +kernel⟩
set_option maxRecDepth 100000 in
theorem zw2_207 : Jvm.Cond.methodLink RJ1 92 yJ9_max_7cf53 ∈ zg_tb := zg_m2 (i := 207) rfl rfl
set_option maxRecDepth 100000 in
theorem zw2_209 : Jvm.Cond.code yJ9_max_7cf53 prog_18_method_65_code 2 (some .int) ∈ zg_tb := zg_m2 (i := 209) rfl rfl
set_option maxRecDepth 100000 in
theorem zw1_15 : Jvm.Cond.initialized RJ9 ∈ zg_tb := zg_m1 (i := 15) rfl rfl
set_option maxRecDepth 100000 in
theorem zw2_208 : Jvm.Cond.static yJ9_max_7cf53 ∈ zg_tb := zg_m2 (i := 208) rfl rfl
set_option maxRecDepth 100000 in
theorem zy_yJ9_max_7cf53_S : (Jvm.Cond.static yJ9_max_7cf53 ∈ zg_tb ∧ Jvm.Cond.initialized yJ9_max_7cf53.cls ∈ zg_tb ∧ Jvm.Cond.code yJ9_max_7cf53 prog_18_method_65_code 2 (some .int) ∈ zg_tb) ∧ zg_dm yJ9_max_7cf53 2 := ⟨⟨zw2_208, zw1_15, zw2_209⟩, by decide +kernel, by decide +kernel, by decide +kernel⟩
set_option maxRecDepth 100000 in
theorem zw2_210 : Jvm.Cond.methodLink RJ1 38 yJ9_min_7cf53 ∈ zg_tb := zg_m2 (i := 210) rfl rfl
set_option maxRecDepth 100000 in
theorem zw2_212 : Jvm.Cond.code yJ9_min_7cf53 prog_18_method_69_code 2 (some .int) ∈ zg_tb := zg_m2 (i := 212) rfl rfl
set_option maxRecDepth 100000 in
theorem zw2_211 : Jvm.Cond.static yJ9_min_7cf53 ∈ zg_tb := zg_m2 (i := 211) rfl rfl
set_option maxRecDepth 100000 in
theorem zy_yJ9_min_7cf53_S : (Jvm.Cond.static yJ9_min_7cf53 ∈ zg_tb ∧ Jvm.Cond.initialized yJ9_min_7cf53.cls ∈ zg_tb ∧ Jvm.Cond.code yJ9_min_7cf53 prog_18_method_69_code 2 (some .int) ∈ zg_tb) ∧ zg_dm yJ9_min_7cf53 2 := ⟨⟨zw2_211, zw1_15, zw2_212⟩, by decide +kernel, by decide +kernel, by decide +kernel⟩
set_option maxRecDepth 100000 in
theorem zw2_213 : Jvm.Cond.methodLink RJ1 95 yJ1_indexOfChar_4cfef ∈ zg_tb := zg_m2 (i := 213) rfl rfl
set_option maxRecDepth 100000 in
theorem zw2_215 : Jvm.Cond.code yJ1_indexOfChar_4cfef prog_20_method_23_code 6 (some .int) ∈ zg_tb := zg_m2 (i := 215) rfl rfl
set_option maxRecDepth 100000 in
theorem zw2_214 : Jvm.Cond.static yJ1_indexOfChar_4cfef ∈ zg_tb := zg_m2 (i := 214) rfl rfl
set_option maxRecDepth 100000 in
theorem zy_yJ1_indexOfChar_4cfef_S : (Jvm.Cond.static yJ1_indexOfChar_4cfef ∈ zg_tb ∧ Jvm.Cond.initialized yJ1_indexOfChar_4cfef.cls ∈ zg_tb ∧ Jvm.Cond.code yJ1_indexOfChar_4cfef prog_20_method_23_code 6 (some .int) ∈ zg_tb) ∧ zg_dm yJ1_indexOfChar_4cfef 4 := ⟨⟨zw2_214, zw1_14, zw2_215⟩, by decide +kernel, by decide +kernel, by decide +kernel⟩
set_option maxRecDepth 100000 in
theorem zw2_196 : Jvm.Cond.methodLink RJ0 492 yJ0_isLatin1_aae02 ∈ zg_tb := zg_m2 (i := 196) rfl rfl
set_option maxRecDepth 100000 in
theorem zw2_199 : Jvm.Cond.code yJ0_isLatin1_aae02 prog_19_method_154_code 1 (some .boolean) ∈ zg_tb := zg_m2 (i := 199) rfl rfl
set_option maxRecDepth 100000 in
theorem zw2_197 : Jvm.Cond.instanceMethod yJ0_isLatin1_aae02 ∈ zg_tb := zg_m2 (i := 197) rfl rfl
set_option maxRecDepth 100000 in
theorem zw2_198 : Jvm.Cond.selects RJ0 yJ0_isLatin1_aae02 yJ0_isLatin1_aae02 ∈ zg_tb := zg_m2 (i := 198) rfl rfl
set_option maxRecDepth 100000 in
theorem zy_yJ0_isLatin1_aae02_V : (Jvm.Cond.instanceMethod yJ0_isLatin1_aae02 ∈ zg_tb ∧ Jvm.Cond.selects yJ0_isLatin1_aae02.cls yJ0_isLatin1_aae02 yJ0_isLatin1_aae02 ∈ zg_tb ∧ Jvm.Cond.initialized yJ0_isLatin1_aae02.cls ∈ zg_tb ∧ Jvm.Cond.code yJ0_isLatin1_aae02 prog_19_method_154_code 1 (some .boolean) ∈ zg_tb) ∧ zg_dm yJ0_isLatin1_aae02 0 := ⟨⟨zw2_197, zw2_198, zw1_7, zw2_199⟩, by decide +kernel, by decide +kernel, by decide +kernel⟩
set_option maxRecDepth 100000 in
theorem zw2_200 : Jvm.Cond.methodLink RJ0 505 yJ0_length_8abf5 ∈ zg_tb := zg_m2 (i := 200) rfl rfl
set_option maxRecDepth 100000 in
theorem zw2_201 : Jvm.Cond.methodLink RJ0 637 yJ1_indexOf_4cfef ∈ zg_tb := zg_m2 (i := 201) rfl rfl
set_option maxRecDepth 100000 in
theorem zw2_203 : Jvm.Cond.code yJ1_indexOf_4cfef prog_20_method_22_code 4 (some .int) ∈ zg_tb := zg_m2 (i := 203) rfl rfl
set_option maxRecDepth 100000 in
theorem zw2_202 : Jvm.Cond.static yJ1_indexOf_4cfef ∈ zg_tb := zg_m2 (i := 202) rfl rfl
set_option maxRecDepth 100000 in
theorem zy_yJ1_indexOf_4cfef_S : (Jvm.Cond.static yJ1_indexOf_4cfef ∈ zg_tb ∧ Jvm.Cond.initialized yJ1_indexOf_4cfef.cls ∈ zg_tb ∧ Jvm.Cond.code yJ1_indexOf_4cfef prog_20_method_22_code 4 (some .int) ∈ zg_tb) ∧ zg_dm yJ1_indexOf_4cfef 4 := ⟨⟨zw2_202, zw1_14, zw2_203⟩, by decide +kernel, by decide +kernel, by decide +kernel⟩
set_option maxRecDepth 100000 in
theorem zw2_192 : Jvm.Cond.methodLink RJ0 633 yJ0_indexOf_7cf53 ∈ zg_tb := zg_m2 (i := 192) rfl rfl
set_option maxRecDepth 100000 in
theorem zw2_195 : Jvm.Cond.code yJ0_indexOf_7cf53 prog_19_method_80_code 3 (some .int) ∈ zg_tb := zg_m2 (i := 195) rfl rfl
set_option maxRecDepth 100000 in
theorem zw2_193 : Jvm.Cond.instanceMethod yJ0_indexOf_7cf53 ∈ zg_tb := zg_m2 (i := 193) rfl rfl
set_option maxRecDepth 100000 in
theorem zw2_194 : Jvm.Cond.selects RJ0 yJ0_indexOf_7cf53 yJ0_indexOf_7cf53 ∈ zg_tb := zg_m2 (i := 194) rfl rfl
set_option maxRecDepth 100000 in
theorem zy_yJ0_indexOf_7cf53_V : (Jvm.Cond.instanceMethod yJ0_indexOf_7cf53 ∈ zg_tb ∧ Jvm.Cond.selects yJ0_indexOf_7cf53.cls yJ0_indexOf_7cf53 yJ0_indexOf_7cf53 ∈ zg_tb ∧ Jvm.Cond.initialized yJ0_indexOf_7cf53.cls ∈ zg_tb ∧ Jvm.Cond.code yJ0_indexOf_7cf53 prog_19_method_80_code 3 (some .int) ∈ zg_tb) ∧ zg_dm yJ0_indexOf_7cf53 2 := ⟨⟨zw2_193, zw2_194, zw1_7, zw2_195⟩, by decide +kernel, by decide +kernel, by decide +kernel⟩
set_option maxRecDepth 100000 in
theorem zw1_118 : Jvm.Cond.fieldLink RX6 21 RX6 "size" "I" ∈ zg_tb := zg_m1 (i := 118) rfl rfl
set_option maxRecDepth 100000 in
theorem zt6_2 : TX6 2 = (RX6, "size", "I", false) ∧ parseFieldDescriptor "I" = some FieldType.int := ⟨rfl, by decide +kernel⟩
set_option maxRecDepth 100000 in
theorem zw2_183 : Jvm.Cond.methodLink RX6 35 yX6_ahead ∈ zg_tb := zg_m2 (i := 183) rfl rfl
set_option maxRecDepth 100000 in
theorem zw2_186 : Jvm.Cond.code yX6_ahead prog_8_method_4_code 1 (some .int) ∈ zg_tb := zg_m2 (i := 186) rfl rfl
set_option maxRecDepth 100000 in
theorem zw2_185 : Jvm.Cond.instanceMethod yX6_ahead ∈ zg_tb := zg_m2 (i := 185) rfl rfl
set_option maxRecDepth 100000 in
theorem zs_yX6_ahead : Jvm.Cond.selects RX6 yX6_ahead yX6_ahead ∈ zg_tb := zg_mp (y := yX6_ahead) (n := 4) (zw_privs_1 (List.mem_of_getElem? (i := 1) (by decide +kernel))) rfl
set_option maxRecDepth 100000 in
theorem zy_yX6_ahead_V : (Jvm.Cond.instanceMethod yX6_ahead ∈ zg_tb ∧ Jvm.Cond.selects yX6_ahead.cls yX6_ahead yX6_ahead ∈ zg_tb ∧ Jvm.Cond.initialized yX6_ahead.cls ∈ zg_tb ∧ Jvm.Cond.code yX6_ahead prog_8_method_4_code 1 (some .int) ∈ zg_tb) ∧ zg_dm yX6_ahead 0 := ⟨⟨zw2_185, zs_yX6_ahead, zw1_5, zw2_186⟩, by decide +kernel, by decide +kernel, by decide +kernel⟩
set_option maxRecDepth 100000 in
theorem zw3_25 : Jvm.Cond.methodLink RX6 59 yX6_add ∈ zg_tb := zg_m3 (i := 25) rfl rfl
set_option maxRecDepth 100000 in
theorem zw3_28 : Jvm.Cond.code yX6_add prog_8_method_6_code 2 none ∈ zg_tb := zg_m3 (i := 28) rfl rfl
set_option maxRecDepth 100000 in
theorem zw3_27 : Jvm.Cond.instanceMethod yX6_add ∈ zg_tb := zg_m3 (i := 27) rfl rfl
set_option maxRecDepth 100000 in
theorem zs_yX6_add : Jvm.Cond.selects RX6 yX6_add yX6_add ∈ zg_tb := zg_mp (y := yX6_add) (n := 4) (zw_privs_1 (List.mem_of_getElem? (i := 2) (by decide +kernel))) rfl
set_option maxRecDepth 100000 in
theorem zy_yX6_add_V : (Jvm.Cond.instanceMethod yX6_add ∈ zg_tb ∧ Jvm.Cond.selects yX6_add.cls yX6_add yX6_add ∈ zg_tb ∧ Jvm.Cond.initialized yX6_add.cls ∈ zg_tb ∧ Jvm.Cond.code yX6_add prog_8_method_6_code 2 none ∈ zg_tb) ∧ zg_dm yX6_add 1 := ⟨⟨zw3_27, zs_yX6_add, zw1_5, zw3_28⟩, by decide +kernel, by decide +kernel, by decide +kernel⟩
set_option maxRecDepth 100000 in
theorem zw3_45 : Jvm.Cond.methodLink RX6 85 yX6_readNumber ∈ zg_tb := zg_m3 (i := 45) rfl rfl
set_option maxRecDepth 100000 in
theorem zw3_48 : Jvm.Cond.code yX6_readNumber prog_8_method_15_code 3 (some .boolean) ∈ zg_tb := zg_m3 (i := 48) rfl rfl
set_option maxRecDepth 100000 in
theorem zw3_47 : Jvm.Cond.instanceMethod yX6_readNumber ∈ zg_tb := zg_m3 (i := 47) rfl rfl
set_option maxRecDepth 100000 in
theorem zs_yX6_readNumber : Jvm.Cond.selects RX6 yX6_readNumber yX6_readNumber ∈ zg_tb := zg_mp (y := yX6_readNumber) (n := 4) (zw_privs_1 (List.mem_of_getElem? (i := 7) (by decide +kernel))) rfl
set_option maxRecDepth 100000 in
theorem zy_yX6_readNumber_V : (Jvm.Cond.instanceMethod yX6_readNumber ∈ zg_tb ∧ Jvm.Cond.selects yX6_readNumber.cls yX6_readNumber yX6_readNumber ∈ zg_tb ∧ Jvm.Cond.initialized yX6_readNumber.cls ∈ zg_tb ∧ Jvm.Cond.code yX6_readNumber prog_8_method_15_code 3 (some .boolean) ∈ zg_tb) ∧ zg_dm yX6_readNumber 0 := ⟨⟨zw3_47, zs_yX6_readNumber, zw1_5, zw3_48⟩, by decide +kernel, by decide +kernel, by decide +kernel⟩
set_option maxRecDepth 100000 in
theorem zw2_188 : Jvm.Cond.methodLink RX6 54 yJ0_indexOf_0f7a4 ∈ zg_tb := zg_m2 (i := 188) rfl rfl
set_option maxRecDepth 100000 in
theorem zw2_191 : Jvm.Cond.code yJ0_indexOf_0f7a4 prog_19_method_79_code 2 (some .int) ∈ zg_tb := zg_m2 (i := 191) rfl rfl
set_option maxRecDepth 100000 in
theorem zw2_189 : Jvm.Cond.instanceMethod yJ0_indexOf_0f7a4 ∈ zg_tb := zg_m2 (i := 189) rfl rfl
set_option maxRecDepth 100000 in
theorem zw2_190 : Jvm.Cond.selects RJ0 yJ0_indexOf_0f7a4 yJ0_indexOf_0f7a4 ∈ zg_tb := zg_m2 (i := 190) rfl rfl
set_option maxRecDepth 100000 in
theorem zy_yJ0_indexOf_0f7a4_V : (Jvm.Cond.instanceMethod yJ0_indexOf_0f7a4 ∈ zg_tb ∧ Jvm.Cond.selects yJ0_indexOf_0f7a4.cls yJ0_indexOf_0f7a4 yJ0_indexOf_0f7a4 ∈ zg_tb ∧ Jvm.Cond.initialized yJ0_indexOf_0f7a4.cls ∈ zg_tb ∧ Jvm.Cond.code yJ0_indexOf_0f7a4 prog_19_method_79_code 2 (some .int) ∈ zg_tb) ∧ zg_dm yJ0_indexOf_0f7a4 1 := ⟨⟨zw2_189, zw2_190, zw1_7, zw2_191⟩, by decide +kernel, by decide +kernel, by decide +kernel⟩
set_option maxRecDepth 100000 in
theorem zw3_41 : Jvm.Cond.methodLink RX6 82 yX6_readAtom ∈ zg_tb := zg_m3 (i := 41) rfl rfl
set_option maxRecDepth 100000 in
theorem zw3_44 : Jvm.Cond.code yX6_readAtom prog_8_method_14_code 4 (some .boolean) ∈ zg_tb := zg_m3 (i := 44) rfl rfl
set_option maxRecDepth 100000 in
theorem zw3_43 : Jvm.Cond.instanceMethod yX6_readAtom ∈ zg_tb := zg_m3 (i := 43) rfl rfl
set_option maxRecDepth 100000 in
theorem zs_yX6_readAtom : Jvm.Cond.selects RX6 yX6_readAtom yX6_readAtom ∈ zg_tb := zg_mp (y := yX6_readAtom) (n := 4) (zw_privs_1 (List.mem_of_getElem? (i := 6) (by decide +kernel))) rfl
set_option maxRecDepth 100000 in
theorem zy_yX6_readAtom_V : (Jvm.Cond.instanceMethod yX6_readAtom ∈ zg_tb ∧ Jvm.Cond.selects yX6_readAtom.cls yX6_readAtom yX6_readAtom ∈ zg_tb ∧ Jvm.Cond.initialized yX6_readAtom.cls ∈ zg_tb ∧ Jvm.Cond.code yX6_readAtom prog_8_method_14_code 4 (some .boolean) ∈ zg_tb) ∧ zg_dm yX6_readAtom 1 := ⟨⟨zw3_43, zs_yX6_readAtom, zw1_5, zw3_44⟩, by decide +kernel, by decide +kernel, by decide +kernel⟩
set_option maxRecDepth 100000 in
theorem zw3_37 : Jvm.Cond.methodLink RX6 79 yX6_readTerm ∈ zg_tb := zg_m3 (i := 37) rfl rfl
set_option maxRecDepth 100000 in
theorem zw3_40 : Jvm.Cond.code yX6_readTerm prog_8_method_13_code 4 (some .boolean) ∈ zg_tb := zg_m3 (i := 40) rfl rfl
set_option maxRecDepth 100000 in
theorem zw3_39 : Jvm.Cond.instanceMethod yX6_readTerm ∈ zg_tb := zg_m3 (i := 39) rfl rfl
set_option maxRecDepth 100000 in
theorem zs_yX6_readTerm : Jvm.Cond.selects RX6 yX6_readTerm yX6_readTerm ∈ zg_tb := zg_mp (y := yX6_readTerm) (n := 4) (zw_privs_1 (List.mem_of_getElem? (i := 5) (by decide +kernel))) rfl
set_option maxRecDepth 100000 in
theorem zy_yX6_readTerm_V : (Jvm.Cond.instanceMethod yX6_readTerm ∈ zg_tb ∧ Jvm.Cond.selects yX6_readTerm.cls yX6_readTerm yX6_readTerm ∈ zg_tb ∧ Jvm.Cond.initialized yX6_readTerm.cls ∈ zg_tb ∧ Jvm.Cond.code yX6_readTerm prog_8_method_13_code 4 (some .boolean) ∈ zg_tb) ∧ zg_dm yX6_readTerm 1 := ⟨⟨zw3_39, zs_yX6_readTerm, zw1_5, zw3_40⟩, by decide +kernel, by decide +kernel, by decide +kernel⟩
set_option maxRecDepth 100000 in
theorem zw3_33 : Jvm.Cond.methodLink RX6 63 yX6_readSum ∈ zg_tb := zg_m3 (i := 33) rfl rfl
set_option maxRecDepth 100000 in
theorem zw3_36 : Jvm.Cond.code yX6_readSum prog_8_method_12_code 4 (some .boolean) ∈ zg_tb := zg_m3 (i := 36) rfl rfl
set_option maxRecDepth 100000 in
theorem zw3_35 : Jvm.Cond.instanceMethod yX6_readSum ∈ zg_tb := zg_m3 (i := 35) rfl rfl
set_option maxRecDepth 100000 in
theorem zs_yX6_readSum : Jvm.Cond.selects RX6 yX6_readSum yX6_readSum ∈ zg_tb := zg_mp (y := yX6_readSum) (n := 4) (zw_privs_1 (List.mem_of_getElem? (i := 4) (by decide +kernel))) rfl
set_option maxRecDepth 100000 in
theorem zy_yX6_readSum_V : (Jvm.Cond.instanceMethod yX6_readSum ∈ zg_tb ∧ Jvm.Cond.selects yX6_readSum.cls yX6_readSum yX6_readSum ∈ zg_tb ∧ Jvm.Cond.initialized yX6_readSum.cls ∈ zg_tb ∧ Jvm.Cond.code yX6_readSum prog_8_method_12_code 4 (some .boolean) ∈ zg_tb) ∧ zg_dm yX6_readSum 1 := ⟨⟨zw3_35, zs_yX6_readSum, zw1_5, zw3_36⟩, by decide +kernel, by decide +kernel, by decide +kernel⟩
set_option maxRecDepth 100000 in
theorem zw3_29 : Jvm.Cond.methodLink RX6 39 yX6_pass ∈ zg_tb := zg_m3 (i := 29) rfl rfl
set_option maxRecDepth 100000 in
theorem zw3_32 : Jvm.Cond.code yX6_pass prog_8_method_5_code 2 (some .boolean) ∈ zg_tb := zg_m3 (i := 32) rfl rfl
set_option maxRecDepth 100000 in
theorem zw3_31 : Jvm.Cond.instanceMethod yX6_pass ∈ zg_tb := zg_m3 (i := 31) rfl rfl
set_option maxRecDepth 100000 in
theorem zs_yX6_pass : Jvm.Cond.selects RX6 yX6_pass yX6_pass ∈ zg_tb := zg_mp (y := yX6_pass) (n := 4) (zw_privs_1 (List.mem_of_getElem? (i := 3) (by decide +kernel))) rfl
set_option maxRecDepth 100000 in
theorem zy_yX6_pass_V : (Jvm.Cond.instanceMethod yX6_pass ∈ zg_tb ∧ Jvm.Cond.selects yX6_pass.cls yX6_pass yX6_pass ∈ zg_tb ∧ Jvm.Cond.initialized yX6_pass.cls ∈ zg_tb ∧ Jvm.Cond.code yX6_pass prog_8_method_5_code 2 (some .boolean) ∈ zg_tb) ∧ zg_dm yX6_pass 1 := ⟨⟨zw3_31, zs_yX6_pass, zw1_5, zw3_32⟩, by decide +kernel, by decide +kernel, by decide +kernel⟩
set_option maxRecDepth 100000 in
theorem zw3_50 : Jvm.Cond.methodLink RX6 66 yX6_isComparison ∈ zg_tb := zg_m3 (i := 50) rfl rfl
set_option maxRecDepth 100000 in
theorem zw3_52 : Jvm.Cond.code yX6_isComparison prog_8_method_8_code 1 (some .boolean) ∈ zg_tb := zg_m3 (i := 52) rfl rfl
set_option maxRecDepth 100000 in
theorem zw3_51 : Jvm.Cond.static yX6_isComparison ∈ zg_tb := zg_m3 (i := 51) rfl rfl
set_option maxRecDepth 100000 in
theorem zy_yX6_isComparison_S : (Jvm.Cond.static yX6_isComparison ∈ zg_tb ∧ Jvm.Cond.initialized yX6_isComparison.cls ∈ zg_tb ∧ Jvm.Cond.code yX6_isComparison prog_8_method_8_code 1 (some .boolean) ∈ zg_tb) ∧ zg_dm yX6_isComparison 1 := ⟨⟨zw3_51, zw1_5, zw3_52⟩, by decide +kernel, by decide +kernel, by decide +kernel⟩
set_option maxRecDepth 100000 in
theorem zw3_61 : Jvm.Cond.methodLink RX6 76 yX6_readUnit ∈ zg_tb := zg_m3 (i := 61) rfl rfl
set_option maxRecDepth 100000 in
theorem zw3_64 : Jvm.Cond.code yX6_readUnit prog_8_method_11_code 5 (some .boolean) ∈ zg_tb := zg_m3 (i := 64) rfl rfl
set_option maxRecDepth 100000 in
theorem zw3_63 : Jvm.Cond.instanceMethod yX6_readUnit ∈ zg_tb := zg_m3 (i := 63) rfl rfl
set_option maxRecDepth 100000 in
theorem zs_yX6_readUnit : Jvm.Cond.selects RX6 yX6_readUnit yX6_readUnit ∈ zg_tb := zg_mp (y := yX6_readUnit) (n := 4) (zw_privs_1 (List.mem_of_getElem? (i := 10) (by decide +kernel))) rfl
set_option maxRecDepth 100000 in
theorem zy_yX6_readUnit_V : (Jvm.Cond.instanceMethod yX6_readUnit ∈ zg_tb ∧ Jvm.Cond.selects yX6_readUnit.cls yX6_readUnit yX6_readUnit ∈ zg_tb ∧ Jvm.Cond.initialized yX6_readUnit.cls ∈ zg_tb ∧ Jvm.Cond.code yX6_readUnit prog_8_method_11_code 5 (some .boolean) ∈ zg_tb) ∧ zg_dm yX6_readUnit 2 := ⟨⟨zw3_63, zs_yX6_readUnit, zw1_5, zw3_64⟩, by decide +kernel, by decide +kernel, by decide +kernel⟩
set_option maxRecDepth 100000 in
theorem zw3_57 : Jvm.Cond.methodLink RX6 73 yX6_readTruths ∈ zg_tb := zg_m3 (i := 57) rfl rfl
set_option maxRecDepth 100000 in
theorem zw3_60 : Jvm.Cond.code yX6_readTruths prog_8_method_10_code 4 (some .boolean) ∈ zg_tb := zg_m3 (i := 60) rfl rfl
set_option maxRecDepth 100000 in
theorem zw3_59 : Jvm.Cond.instanceMethod yX6_readTruths ∈ zg_tb := zg_m3 (i := 59) rfl rfl
set_option maxRecDepth 100000 in
theorem zs_yX6_readTruths : Jvm.Cond.selects RX6 yX6_readTruths yX6_readTruths ∈ zg_tb := zg_mp (y := yX6_readTruths) (n := 4) (zw_privs_1 (List.mem_of_getElem? (i := 9) (by decide +kernel))) rfl
set_option maxRecDepth 100000 in
theorem zy_yX6_readTruths_V : (Jvm.Cond.instanceMethod yX6_readTruths ∈ zg_tb ∧ Jvm.Cond.selects yX6_readTruths.cls yX6_readTruths yX6_readTruths ∈ zg_tb ∧ Jvm.Cond.initialized yX6_readTruths.cls ∈ zg_tb ∧ Jvm.Cond.code yX6_readTruths prog_8_method_10_code 4 (some .boolean) ∈ zg_tb) ∧ zg_dm yX6_readTruths 2 := ⟨⟨zw3_59, zs_yX6_readTruths, zw1_5, zw3_60⟩, by decide +kernel, by decide +kernel, by decide +kernel⟩
set_option maxRecDepth 100000 in
theorem zw3_53 : Jvm.Cond.methodLink RX6 69 yX6_readCondition ∈ zg_tb := zg_m3 (i := 53) rfl rfl
set_option maxRecDepth 100000 in
theorem zw3_56 : Jvm.Cond.code yX6_readCondition prog_8_method_9_code 4 (some .boolean) ∈ zg_tb := zg_m3 (i := 56) rfl rfl
set_option maxRecDepth 100000 in
theorem zw3_55 : Jvm.Cond.instanceMethod yX6_readCondition ∈ zg_tb := zg_m3 (i := 55) rfl rfl
set_option maxRecDepth 100000 in
theorem zs_yX6_readCondition : Jvm.Cond.selects RX6 yX6_readCondition yX6_readCondition ∈ zg_tb := zg_mp (y := yX6_readCondition) (n := 4) (zw_privs_1 (List.mem_of_getElem? (i := 8) (by decide +kernel))) rfl
set_option maxRecDepth 100000 in
theorem zy_yX6_readCondition_V : (Jvm.Cond.instanceMethod yX6_readCondition ∈ zg_tb ∧ Jvm.Cond.selects yX6_readCondition.cls yX6_readCondition yX6_readCondition ∈ zg_tb ∧ Jvm.Cond.initialized yX6_readCondition.cls ∈ zg_tb ∧ Jvm.Cond.code yX6_readCondition prog_8_method_9_code 4 (some .boolean) ∈ zg_tb) ∧ zg_dm yX6_readCondition 2 := ⟨⟨zw3_55, zs_yX6_readCondition, zw1_5, zw3_56⟩, by decide +kernel, by decide +kernel, by decide +kernel⟩
set_option maxRecDepth 100000 in
theorem zw2_179 : Jvm.Cond.methodLink RX6 31 yX6_readClause ∈ zg_tb := zg_m2 (i := 179) rfl rfl
set_option maxRecDepth 100000 in
theorem zw2_182 : Jvm.Cond.code yX6_readClause prog_8_method_7_code 4 (some .boolean) ∈ zg_tb := zg_m2 (i := 182) rfl rfl
set_option maxRecDepth 100000 in
theorem zw2_181 : Jvm.Cond.instanceMethod yX6_readClause ∈ zg_tb := zg_m2 (i := 181) rfl rfl
set_option maxRecDepth 100000 in
theorem zs_yX6_readClause : Jvm.Cond.selects RX6 yX6_readClause yX6_readClause ∈ zg_tb := zg_mp (y := yX6_readClause) (n := 4) (zw_privs_1 (List.mem_of_getElem? (i := 0) (by decide +kernel))) rfl
set_option maxRecDepth 100000 in
theorem zy_yX6_readClause_V : (Jvm.Cond.instanceMethod yX6_readClause ∈ zg_tb ∧ Jvm.Cond.selects yX6_readClause.cls yX6_readClause yX6_readClause ∈ zg_tb ∧ Jvm.Cond.initialized yX6_readClause.cls ∈ zg_tb ∧ Jvm.Cond.code yX6_readClause prog_8_method_7_code 4 (some .boolean) ∈ zg_tb) ∧ zg_dm yX6_readClause 0 := ⟨⟨zw2_181, zs_yX6_readClause, zw1_5, zw2_182⟩, by decide +kernel, by decide +kernel, by decide +kernel⟩
set_option maxRecDepth 100000 in
theorem zw2_160 : Jvm.Cond.methodLink RX11 127 yX2_faultOf ∈ zg_tb := zg_m2 (i := 160) rfl rfl
set_option maxRecDepth 100000 in
theorem zw2_163 : Jvm.Cond.code yX2_faultOf prog_4_method_2_code 9 (some .int) ∈ zg_tb := zg_m2 (i := 163) rfl rfl
set_option maxRecDepth 100000 in
theorem zw2_161 : Jvm.Cond.instanceMethod yX2_faultOf ∈ zg_tb := zg_m2 (i := 161) rfl rfl
set_option maxRecDepth 100000 in
theorem zw2_162 : Jvm.Cond.selects RX2 yX2_faultOf yX2_faultOf ∈ zg_tb := zg_m2 (i := 162) rfl rfl
set_option maxRecDepth 100000 in
theorem zy_yX2_faultOf_V : (Jvm.Cond.instanceMethod yX2_faultOf ∈ zg_tb ∧ Jvm.Cond.selects yX2_faultOf.cls yX2_faultOf yX2_faultOf ∈ zg_tb ∧ Jvm.Cond.initialized yX2_faultOf.cls ∈ zg_tb ∧ Jvm.Cond.code yX2_faultOf prog_4_method_2_code 9 (some .int) ∈ zg_tb) ∧ zg_dm yX2_faultOf 1 := ⟨⟨zw2_161, zw2_162, zw1_4, zw2_163⟩, by decide +kernel, by decide +kernel, by decide +kernel⟩
set_option maxRecDepth 100000 in
theorem zw2_174 : Jvm.Cond.methodLink RX11 131 yX6_faultOf ∈ zg_tb := zg_m2 (i := 174) rfl rfl
set_option maxRecDepth 100000 in
theorem zw2_177 : Jvm.Cond.code yX6_faultOf prog_8_method_2_code 3 (some .int) ∈ zg_tb := zg_m2 (i := 177) rfl rfl
set_option maxRecDepth 100000 in
theorem zw2_175 : Jvm.Cond.instanceMethod yX6_faultOf ∈ zg_tb := zg_m2 (i := 175) rfl rfl
set_option maxRecDepth 100000 in
theorem zw2_176 : Jvm.Cond.selects RX6 yX6_faultOf yX6_faultOf ∈ zg_tb := zg_m2 (i := 176) rfl rfl
set_option maxRecDepth 100000 in
theorem zy_yX6_faultOf_V : (Jvm.Cond.instanceMethod yX6_faultOf ∈ zg_tb ∧ Jvm.Cond.selects yX6_faultOf.cls yX6_faultOf yX6_faultOf ∈ zg_tb ∧ Jvm.Cond.initialized yX6_faultOf.cls ∈ zg_tb ∧ Jvm.Cond.code yX6_faultOf prog_8_method_2_code 3 (some .int) ∈ zg_tb) ∧ zg_dm yX6_faultOf 1 := ⟨⟨zw2_175, zw2_176, zw1_5, zw2_177⟩, by decide +kernel, by decide +kernel, by decide +kernel⟩
set_option maxRecDepth 100000 in
theorem zw5_169 : Jvm.Cond.fieldLink RX12 187 RX12 "at" "I" ∈ zg_tb := zg_m5 (i := 169) rfl rfl
set_option maxRecDepth 100000 in
theorem zt12_10 : TX12 10 = (RX12, "at", "I", false) ∧ parseFieldDescriptor "I" = some FieldType.int := ⟨rfl, by decide +kernel⟩
set_option maxRecDepth 100000 in
theorem zw5_174 : Jvm.Cond.fieldLink RX12 193 RX12 "plainMany" "I" ∈ zg_tb := zg_m5 (i := 174) rfl rfl
set_option maxRecDepth 100000 in
theorem zt12_15 : TX12 15 = (RX12, "plainMany", "I", false) ∧ parseFieldDescriptor "I" = some FieldType.int := ⟨rfl, by decide +kernel⟩
set_option maxRecDepth 100000 in
theorem zw5_175 : Jvm.Cond.fieldLink RX12 196 RX12 "fullMany" "I" ∈ zg_tb := zg_m5 (i := 175) rfl rfl
set_option maxRecDepth 100000 in
theorem zt12_16 : TX12 16 = (RX12, "fullMany", "I", false) ∧ parseFieldDescriptor "I" = some FieldType.int := ⟨rfl, by decide +kernel⟩
set_option maxRecDepth 100000 in
theorem zw6_210 : Jvm.Cond.methodLink RX12 190 yX12_isFigure ∈ zg_tb := zg_m6 (i := 210) rfl rfl
set_option maxRecDepth 100000 in
theorem zw6_212 : Jvm.Cond.code yX12_isFigure prog_14_method_16_code 1 (some .boolean) ∈ zg_tb := zg_m6 (i := 212) rfl rfl
set_option maxRecDepth 100000 in
theorem zw6_211 : Jvm.Cond.static yX12_isFigure ∈ zg_tb := zg_m6 (i := 211) rfl rfl
set_option maxRecDepth 100000 in
theorem zy_yX12_isFigure_S : (Jvm.Cond.static yX12_isFigure ∈ zg_tb ∧ Jvm.Cond.initialized yX12_isFigure.cls ∈ zg_tb ∧ Jvm.Cond.code yX12_isFigure prog_14_method_16_code 1 (some .boolean) ∈ zg_tb) ∧ zg_dm yX12_isFigure 1 := ⟨⟨zw6_211, zw1_12, zw6_212⟩, by decide +kernel, by decide +kernel, by decide +kernel⟩
set_option maxRecDepth 100000 in
theorem zw5_170 : Jvm.Cond.fieldLink RX12 184 RX12 "wrong" "I" ∈ zg_tb := zg_m5 (i := 170) rfl rfl
set_option maxRecDepth 100000 in
theorem zt12_11 : TX12 11 = (RX12, "wrong", "I", false) ∧ parseFieldDescriptor "I" = some FieldType.int := ⟨rfl, by decide +kernel⟩
set_option maxRecDepth 100000 in
theorem zw6_191 : Jvm.Cond.methodLink RX12 210 yX12_next ∈ zg_tb := zg_m6 (i := 191) rfl rfl
set_option maxRecDepth 100000 in
theorem zw6_194 : Jvm.Cond.code yX12_next prog_14_method_15_code 1 (some .int) ∈ zg_tb := zg_m6 (i := 194) rfl rfl
set_option maxRecDepth 100000 in
theorem zw6_193 : Jvm.Cond.instanceMethod yX12_next ∈ zg_tb := zg_m6 (i := 193) rfl rfl
set_option maxRecDepth 100000 in
theorem zs_yX12_next : Jvm.Cond.selects RX12 yX12_next yX12_next ∈ zg_tb := zg_mp (y := yX12_next) (n := 71) (zw_privs_3 (List.mem_of_getElem? (i := 13) (by decide +kernel))) rfl
set_option maxRecDepth 100000 in
theorem zy_yX12_next_V : (Jvm.Cond.instanceMethod yX12_next ∈ zg_tb ∧ Jvm.Cond.selects yX12_next.cls yX12_next yX12_next ∈ zg_tb ∧ Jvm.Cond.initialized yX12_next.cls ∈ zg_tb ∧ Jvm.Cond.code yX12_next prog_14_method_15_code 1 (some .int) ∈ zg_tb) ∧ zg_dm yX12_next 0 := ⟨⟨zw6_193, zs_yX12_next, zw1_12, zw6_194⟩, by decide +kernel, by decide +kernel, by decide +kernel⟩
set_option maxRecDepth 100000 in
theorem zw6_217 : Jvm.Cond.methodLink RX12 220 yX12_hex ∈ zg_tb := zg_m6 (i := 217) rfl rfl
set_option maxRecDepth 100000 in
theorem zw6_219 : Jvm.Cond.code yX12_hex prog_14_method_18_code 1 (some .int) ∈ zg_tb := zg_m6 (i := 219) rfl rfl
set_option maxRecDepth 100000 in
theorem zw6_218 : Jvm.Cond.static yX12_hex ∈ zg_tb := zg_m6 (i := 218) rfl rfl
set_option maxRecDepth 100000 in
theorem zy_yX12_hex_S : (Jvm.Cond.static yX12_hex ∈ zg_tb ∧ Jvm.Cond.initialized yX12_hex.cls ∈ zg_tb ∧ Jvm.Cond.code yX12_hex prog_14_method_18_code 1 (some .int) ∈ zg_tb) ∧ zg_dm yX12_hex 1 := ⟨⟨zw6_218, zw1_12, zw6_219⟩, by decide +kernel, by decide +kernel, by decide +kernel⟩
set_option maxRecDepth 100000 in
theorem zw6_220 : Jvm.Cond.methodLink RX12 224 yX12_bad ∈ zg_tb := zg_m6 (i := 220) rfl rfl
set_option maxRecDepth 100000 in
theorem zw6_223 : Jvm.Cond.code yX12_bad prog_14_method_14_code 1 none ∈ zg_tb := zg_m6 (i := 223) rfl rfl
set_option maxRecDepth 100000 in
theorem zw6_222 : Jvm.Cond.instanceMethod yX12_bad ∈ zg_tb := zg_m6 (i := 222) rfl rfl
set_option maxRecDepth 100000 in
theorem zs_yX12_bad : Jvm.Cond.selects RX12 yX12_bad yX12_bad ∈ zg_tb := zg_mp (y := yX12_bad) (n := 71) (zw_privs_4 (List.mem_of_getElem? (i := 2) (by decide +kernel))) rfl
set_option maxRecDepth 100000 in
theorem zy_yX12_bad_V : (Jvm.Cond.instanceMethod yX12_bad ∈ zg_tb ∧ Jvm.Cond.selects yX12_bad.cls yX12_bad yX12_bad ∈ zg_tb ∧ Jvm.Cond.initialized yX12_bad.cls ∈ zg_tb ∧ Jvm.Cond.code yX12_bad prog_14_method_14_code 1 none ∈ zg_tb) ∧ zg_dm yX12_bad 0 := ⟨⟨zw6_222, zs_yX12_bad, zw1_12, zw6_223⟩, by decide +kernel, by decide +kernel, by decide +kernel⟩
set_option maxRecDepth 100000 in
theorem zw6_199 : Jvm.Cond.methodLink RX12 203 yX12_see ∈ zg_tb := zg_m6 (i := 199) rfl rfl
set_option maxRecDepth 100000 in
theorem zw6_202 : Jvm.Cond.code yX12_see prog_14_method_19_code 2 none ∈ zg_tb := zg_m6 (i := 202) rfl rfl
set_option maxRecDepth 100000 in
theorem zw6_201 : Jvm.Cond.instanceMethod yX12_see ∈ zg_tb := zg_m6 (i := 201) rfl rfl
set_option maxRecDepth 100000 in
theorem zs_yX12_see : Jvm.Cond.selects RX12 yX12_see yX12_see ∈ zg_tb := zg_mp (y := yX12_see) (n := 71) (zw_privs_3 (List.mem_of_getElem? (i := 15) (by decide +kernel))) rfl
set_option maxRecDepth 100000 in
theorem zy_yX12_see_V : (Jvm.Cond.instanceMethod yX12_see ∈ zg_tb ∧ Jvm.Cond.selects yX12_see.cls yX12_see yX12_see ∈ zg_tb ∧ Jvm.Cond.initialized yX12_see.cls ∈ zg_tb ∧ Jvm.Cond.code yX12_see prog_14_method_19_code 2 none ∈ zg_tb) ∧ zg_dm yX12_see 1 := ⟨⟨zw6_201, zs_yX12_see, zw1_12, zw6_202⟩, by decide +kernel, by decide +kernel, by decide +kernel⟩
set_option maxRecDepth 100000 in
theorem zw5_176 : Jvm.Cond.fieldLink RX12 199 RX12 "isSeen" "Z" ∈ zg_tb := zg_m5 (i := 176) rfl rfl
set_option maxRecDepth 100000 in
theorem zt12_17 : TX12 17 = (RX12, "isSeen", "Z", false) ∧ parseFieldDescriptor "Z" = some FieldType.boolean := ⟨rfl, by decide +kernel⟩
set_option maxRecDepth 100000 in
theorem zw6_203 : Jvm.Cond.methodLink RX12 207 yX12_seeFull ∈ zg_tb := zg_m6 (i := 203) rfl rfl
set_option maxRecDepth 100000 in
theorem zw6_206 : Jvm.Cond.code yX12_seeFull prog_14_method_20_code 2 none ∈ zg_tb := zg_m6 (i := 206) rfl rfl
set_option maxRecDepth 100000 in
theorem zw6_205 : Jvm.Cond.instanceMethod yX12_seeFull ∈ zg_tb := zg_m6 (i := 205) rfl rfl
set_option maxRecDepth 100000 in
theorem zs_yX12_seeFull : Jvm.Cond.selects RX12 yX12_seeFull yX12_seeFull ∈ zg_tb := zg_mp (y := yX12_seeFull) (n := 71) (zw_privs_4 (List.mem_of_getElem? (i := 0) (by decide +kernel))) rfl
set_option maxRecDepth 100000 in
theorem zy_yX12_seeFull_V : (Jvm.Cond.instanceMethod yX12_seeFull ∈ zg_tb ∧ Jvm.Cond.selects yX12_seeFull.cls yX12_seeFull yX12_seeFull ∈ zg_tb ∧ Jvm.Cond.initialized yX12_seeFull.cls ∈ zg_tb ∧ Jvm.Cond.code yX12_seeFull prog_14_method_20_code 2 none ∈ zg_tb) ∧ zg_dm yX12_seeFull 1 := ⟨⟨zw6_205, zs_yX12_seeFull, zw1_12, zw6_206⟩, by decide +kernel, by decide +kernel, by decide +kernel⟩
set_option maxRecDepth 100000 in
theorem zw6_207 : Jvm.Cond.methodLink RX12 214 yX12_isWord ∈ zg_tb := zg_m6 (i := 207) rfl rfl
set_option maxRecDepth 100000 in
theorem zw6_209 : Jvm.Cond.code yX12_isWord prog_14_method_17_code 1 (some .boolean) ∈ zg_tb := zg_m6 (i := 209) rfl rfl
set_option maxRecDepth 100000 in
theorem zw6_208 : Jvm.Cond.static yX12_isWord ∈ zg_tb := zg_m6 (i := 208) rfl rfl
set_option maxRecDepth 100000 in
theorem zy_yX12_isWord_S : (Jvm.Cond.static yX12_isWord ∈ zg_tb ∧ Jvm.Cond.initialized yX12_isWord.cls ∈ zg_tb ∧ Jvm.Cond.code yX12_isWord prog_14_method_17_code 1 (some .boolean) ∈ zg_tb) ∧ zg_dm yX12_isWord 1 := ⟨⟨zw6_208, zw1_12, zw6_209⟩, by decide +kernel, by decide +kernel, by decide +kernel⟩
set_option maxRecDepth 100000 in
theorem zw6_213 : Jvm.Cond.methodLink RX12 217 yX12_hexAt ∈ zg_tb := zg_m6 (i := 213) rfl rfl
set_option maxRecDepth 100000 in
theorem zw6_216 : Jvm.Cond.code yX12_hexAt prog_14_method_22_code 2 (some .int) ∈ zg_tb := zg_m6 (i := 216) rfl rfl
set_option maxRecDepth 100000 in
theorem zw6_215 : Jvm.Cond.instanceMethod yX12_hexAt ∈ zg_tb := zg_m6 (i := 215) rfl rfl
set_option maxRecDepth 100000 in
theorem zs_yX12_hexAt : Jvm.Cond.selects RX12 yX12_hexAt yX12_hexAt ∈ zg_tb := zg_mp (y := yX12_hexAt) (n := 71) (zw_privs_4 (List.mem_of_getElem? (i := 1) (by decide +kernel))) rfl
set_option maxRecDepth 100000 in
theorem zy_yX12_hexAt_V : (Jvm.Cond.instanceMethod yX12_hexAt ∈ zg_tb ∧ Jvm.Cond.selects yX12_hexAt.cls yX12_hexAt yX12_hexAt ∈ zg_tb ∧ Jvm.Cond.initialized yX12_hexAt.cls ∈ zg_tb ∧ Jvm.Cond.code yX12_hexAt prog_14_method_22_code 2 (some .int) ∈ zg_tb) ∧ zg_dm yX12_hexAt 0 := ⟨⟨zw6_215, zs_yX12_hexAt, zw1_12, zw6_216⟩, by decide +kernel, by decide +kernel, by decide +kernel⟩
set_option maxRecDepth 100000 in
theorem zw6_195 : Jvm.Cond.methodLink RX12 227 yX12_bytes ∈ zg_tb := zg_m6 (i := 195) rfl rfl
set_option maxRecDepth 100000 in
theorem zw6_198 : Jvm.Cond.code yX12_bytes prog_14_method_21_code 5 none ∈ zg_tb := zg_m6 (i := 198) rfl rfl
set_option maxRecDepth 100000 in
theorem zw6_197 : Jvm.Cond.instanceMethod yX12_bytes ∈ zg_tb := zg_m6 (i := 197) rfl rfl
set_option maxRecDepth 100000 in
theorem zs_yX12_bytes : Jvm.Cond.selects RX12 yX12_bytes yX12_bytes ∈ zg_tb := zg_mp (y := yX12_bytes) (n := 71) (zw_privs_3 (List.mem_of_getElem? (i := 14) (by decide +kernel))) rfl
set_option maxRecDepth 100000 in
theorem zy_yX12_bytes_V : (Jvm.Cond.instanceMethod yX12_bytes ∈ zg_tb ∧ Jvm.Cond.selects yX12_bytes.cls yX12_bytes yX12_bytes ∈ zg_tb ∧ Jvm.Cond.initialized yX12_bytes.cls ∈ zg_tb ∧ Jvm.Cond.code yX12_bytes prog_14_method_21_code 5 none ∈ zg_tb) ∧ zg_dm yX12_bytes 1 := ⟨⟨zw6_197, zs_yX12_bytes, zw1_12, zw6_198⟩, by decide +kernel, by decide +kernel, by decide +kernel⟩
set_option maxRecDepth 100000 in
theorem zw5_171 : Jvm.Cond.fieldLink RX12 231 RX12 "deep" "I" ∈ zg_tb := zg_m5 (i := 171) rfl rfl
set_option maxRecDepth 100000 in
theorem zt12_12 : TX12 12 = (RX12, "deep", "I", false) ∧ parseFieldDescriptor "I" = some FieldType.int := ⟨rfl, by decide +kernel⟩
set_option maxRecDepth 100000 in
theorem zw6_187 : Jvm.Cond.methodLink RX12 237 yX12_part ∈ zg_tb := zg_m6 (i := 187) rfl rfl
set_option maxRecDepth 100000 in
theorem zw6_190 : Jvm.Cond.code yX12_part prog_14_method_23_code 2 none ∈ zg_tb := zg_m6 (i := 190) rfl rfl
set_option maxRecDepth 100000 in
theorem zw6_189 : Jvm.Cond.instanceMethod yX12_part ∈ zg_tb := zg_m6 (i := 189) rfl rfl
set_option maxRecDepth 100000 in
theorem zs_yX12_part : Jvm.Cond.selects RX12 yX12_part yX12_part ∈ zg_tb := zg_mp (y := yX12_part) (n := 71) (zw_privs_3 (List.mem_of_getElem? (i := 12) (by decide +kernel))) rfl
set_option maxRecDepth 100000 in
theorem zy_yX12_part_V : (Jvm.Cond.instanceMethod yX12_part ∈ zg_tb ∧ Jvm.Cond.selects yX12_part.cls yX12_part yX12_part ∈ zg_tb ∧ Jvm.Cond.initialized yX12_part.cls ∈ zg_tb ∧ Jvm.Cond.code yX12_part prog_14_method_23_code 2 none ∈ zg_tb) ∧ zg_dm yX12_part 0 := ⟨⟨zw6_189, zs_yX12_part, zw1_12, zw6_190⟩, by decide +kernel, by decide +kernel, by decide +kernel⟩
set_option maxRecDepth 100000 in
theorem zw6_183 : Jvm.Cond.methodLink RX12 234 yX12_partRow ∈ zg_tb := zg_m6 (i := 183) rfl rfl
set_option maxRecDepth 100000 in
theorem zw6_186 : Jvm.Cond.code yX12_partRow prog_14_method_24_code 1 none ∈ zg_tb := zg_m6 (i := 186) rfl rfl
set_option maxRecDepth 100000 in
theorem zw6_185 : Jvm.Cond.instanceMethod yX12_partRow ∈ zg_tb := zg_m6 (i := 185) rfl rfl
set_option maxRecDepth 100000 in
theorem zs_yX12_partRow : Jvm.Cond.selects RX12 yX12_partRow yX12_partRow ∈ zg_tb := zg_mp (y := yX12_partRow) (n := 71) (zw_privs_3 (List.mem_of_getElem? (i := 11) (by decide +kernel))) rfl
set_option maxRecDepth 100000 in
theorem zy_yX12_partRow_V : (Jvm.Cond.instanceMethod yX12_partRow ∈ zg_tb ∧ Jvm.Cond.selects yX12_partRow.cls yX12_partRow yX12_partRow ∈ zg_tb ∧ Jvm.Cond.initialized yX12_partRow.cls ∈ zg_tb ∧ Jvm.Cond.code yX12_partRow prog_14_method_24_code 1 none ∈ zg_tb) ∧ zg_dm yX12_partRow 0 := ⟨⟨zw6_185, zs_yX12_partRow, zw1_12, zw6_186⟩, by decide +kernel, by decide +kernel, by decide +kernel⟩
set_option maxRecDepth 100000 in
theorem zw5_184 : Jvm.Cond.fieldLink RX12 240 RX12 "said" "I" ∈ zg_tb := zg_m5 (i := 184) rfl rfl
set_option maxRecDepth 100000 in
theorem zt12_25 : TX12 25 = (RX12, "said", "I", false) ∧ parseFieldDescriptor "I" = some FieldType.int := ⟨rfl, by decide +kernel⟩
set_option maxRecDepth 100000 in
theorem zw6_232 : Jvm.Cond.methodLink RX12 243 yX12_look ∈ zg_tb := zg_m6 (i := 232) rfl rfl
set_option maxRecDepth 100000 in
theorem zw6_235 : Jvm.Cond.code yX12_look prog_14_method_26_code 1 (some .int) ∈ zg_tb := zg_m6 (i := 235) rfl rfl
set_option maxRecDepth 100000 in
theorem zw6_234 : Jvm.Cond.instanceMethod yX12_look ∈ zg_tb := zg_m6 (i := 234) rfl rfl
set_option maxRecDepth 100000 in
theorem zs_yX12_look : Jvm.Cond.selects RX12 yX12_look yX12_look ∈ zg_tb := zg_mp (y := yX12_look) (n := 71) (zw_privs_4 (List.mem_of_getElem? (i := 5) (by decide +kernel))) rfl
set_option maxRecDepth 100000 in
theorem zy_yX12_look_V : (Jvm.Cond.instanceMethod yX12_look ∈ zg_tb ∧ Jvm.Cond.selects yX12_look.cls yX12_look yX12_look ∈ zg_tb ∧ Jvm.Cond.initialized yX12_look.cls ∈ zg_tb ∧ Jvm.Cond.code yX12_look prog_14_method_26_code 1 (some .int) ∈ zg_tb) ∧ zg_dm yX12_look 0 := ⟨⟨zw6_234, zs_yX12_look, zw1_12, zw6_235⟩, by decide +kernel, by decide +kernel, by decide +kernel⟩
set_option maxRecDepth 100000 in
theorem zw6_239 : Jvm.Cond.methodLink RX12 246 yX12_say ∈ zg_tb := zg_m6 (i := 239) rfl rfl
set_option maxRecDepth 100000 in
theorem zw7_2 : Jvm.Cond.code yX12_say prog_14_method_27_code 2 none ∈ zg_tb := zg_m7 (i := 2) rfl rfl
set_option maxRecDepth 100000 in
theorem zw7_1 : Jvm.Cond.instanceMethod yX12_say ∈ zg_tb := zg_m7 (i := 1) rfl rfl
set_option maxRecDepth 100000 in
theorem zs_yX12_say : Jvm.Cond.selects RX12 yX12_say yX12_say ∈ zg_tb := zg_mp (y := yX12_say) (n := 71) (zw_privs_4 (List.mem_of_getElem? (i := 6) (by decide +kernel))) rfl
set_option maxRecDepth 100000 in
theorem zy_yX12_say_V : (Jvm.Cond.instanceMethod yX12_say ∈ zg_tb ∧ Jvm.Cond.selects yX12_say.cls yX12_say yX12_say ∈ zg_tb ∧ Jvm.Cond.initialized yX12_say.cls ∈ zg_tb ∧ Jvm.Cond.code yX12_say prog_14_method_27_code 2 none ∈ zg_tb) ∧ zg_dm yX12_say 1 := ⟨⟨zw7_1, zs_yX12_say, zw1_12, zw7_2⟩, by decide +kernel, by decide +kernel, by decide +kernel⟩
set_option maxRecDepth 100000 in
theorem zw7_15 : Jvm.Cond.methodLink RX12 249 yX12_opens ∈ zg_tb := zg_m7 (i := 15) rfl rfl
set_option maxRecDepth 100000 in
theorem zw7_18 : Jvm.Cond.code yX12_opens prog_14_method_30_code 1 (some .boolean) ∈ zg_tb := zg_m7 (i := 18) rfl rfl
set_option maxRecDepth 100000 in
theorem zw7_17 : Jvm.Cond.instanceMethod yX12_opens ∈ zg_tb := zg_m7 (i := 17) rfl rfl
set_option maxRecDepth 100000 in
theorem zs_yX12_opens : Jvm.Cond.selects RX12 yX12_opens yX12_opens ∈ zg_tb := zg_mp (y := yX12_opens) (n := 71) (zw_privs_4 (List.mem_of_getElem? (i := 10) (by decide +kernel))) rfl
set_option maxRecDepth 100000 in
theorem zy_yX12_opens_V : (Jvm.Cond.instanceMethod yX12_opens ∈ zg_tb ∧ Jvm.Cond.selects yX12_opens.cls yX12_opens yX12_opens ∈ zg_tb ∧ Jvm.Cond.initialized yX12_opens.cls ∈ zg_tb ∧ Jvm.Cond.code yX12_opens prog_14_method_30_code 1 (some .boolean) ∈ zg_tb) ∧ zg_dm yX12_opens 0 := ⟨⟨zw7_17, zs_yX12_opens, zw1_12, zw7_18⟩, by decide +kernel, by decide +kernel, by decide +kernel⟩
set_option maxRecDepth 100000 in
theorem zw7_23 : Jvm.Cond.methodLink RX12 259 yX12_isLetterOf ∈ zg_tb := zg_m7 (i := 23) rfl rfl
set_option maxRecDepth 100000 in
theorem zw7_25 : Jvm.Cond.code yX12_isLetterOf prog_14_method_29_code 1 (some .boolean) ∈ zg_tb := zg_m7 (i := 25) rfl rfl
set_option maxRecDepth 100000 in
theorem zw7_24 : Jvm.Cond.static yX12_isLetterOf ∈ zg_tb := zg_m7 (i := 24) rfl rfl
set_option maxRecDepth 100000 in
theorem zy_yX12_isLetterOf_S : (Jvm.Cond.static yX12_isLetterOf ∈ zg_tb ∧ Jvm.Cond.initialized yX12_isLetterOf.cls ∈ zg_tb ∧ Jvm.Cond.code yX12_isLetterOf prog_14_method_29_code 1 (some .boolean) ∈ zg_tb) ∧ zg_dm yX12_isLetterOf 1 := ⟨⟨zw7_24, zw1_12, zw7_25⟩, by decide +kernel, by decide +kernel, by decide +kernel⟩
set_option maxRecDepth 100000 in
theorem zw7_26 : Jvm.Cond.methodLink RX12 262 yX12_number ∈ zg_tb := zg_m7 (i := 26) rfl rfl
set_option maxRecDepth 100000 in
theorem zw7_29 : Jvm.Cond.code yX12_number prog_14_method_32_code 3 none ∈ zg_tb := zg_m7 (i := 29) rfl rfl
set_option maxRecDepth 100000 in
theorem zw7_28 : Jvm.Cond.instanceMethod yX12_number ∈ zg_tb := zg_m7 (i := 28) rfl rfl
set_option maxRecDepth 100000 in
theorem zs_yX12_number : Jvm.Cond.selects RX12 yX12_number yX12_number ∈ zg_tb := zg_mp (y := yX12_number) (n := 71) (zw_privs_4 (List.mem_of_getElem? (i := 12) (by decide +kernel))) rfl
set_option maxRecDepth 100000 in
theorem zy_yX12_number_V : (Jvm.Cond.instanceMethod yX12_number ∈ zg_tb ∧ Jvm.Cond.selects yX12_number.cls yX12_number yX12_number ∈ zg_tb ∧ Jvm.Cond.initialized yX12_number.cls ∈ zg_tb ∧ Jvm.Cond.code yX12_number prog_14_method_32_code 3 none ∈ zg_tb) ∧ zg_dm yX12_number 0 := ⟨⟨zw7_28, zs_yX12_number, zw1_12, zw7_29⟩, by decide +kernel, by decide +kernel, by decide +kernel⟩
set_option maxRecDepth 100000 in
theorem zw7_11 : Jvm.Cond.methodLink RX12 265 yX12_atom ∈ zg_tb := zg_m7 (i := 11) rfl rfl
set_option maxRecDepth 100000 in
theorem zw7_14 : Jvm.Cond.code yX12_atom prog_14_method_33_code 2 none ∈ zg_tb := zg_m7 (i := 14) rfl rfl
set_option maxRecDepth 100000 in
theorem zw7_13 : Jvm.Cond.instanceMethod yX12_atom ∈ zg_tb := zg_m7 (i := 13) rfl rfl
set_option maxRecDepth 100000 in
theorem zs_yX12_atom : Jvm.Cond.selects RX12 yX12_atom yX12_atom ∈ zg_tb := zg_mp (y := yX12_atom) (n := 71) (zw_privs_4 (List.mem_of_getElem? (i := 9) (by decide +kernel))) rfl
set_option maxRecDepth 100000 in
theorem zy_yX12_atom_V : (Jvm.Cond.instanceMethod yX12_atom ∈ zg_tb ∧ Jvm.Cond.selects yX12_atom.cls yX12_atom yX12_atom ∈ zg_tb ∧ Jvm.Cond.initialized yX12_atom.cls ∈ zg_tb ∧ Jvm.Cond.code yX12_atom prog_14_method_33_code 2 none ∈ zg_tb) ∧ zg_dm yX12_atom 0 := ⟨⟨zw7_13, zs_yX12_atom, zw1_12, zw7_14⟩, by decide +kernel, by decide +kernel, by decide +kernel⟩
set_option maxRecDepth 100000 in
theorem zw7_7 : Jvm.Cond.methodLink RX12 268 yX12_term ∈ zg_tb := zg_m7 (i := 7) rfl rfl
set_option maxRecDepth 100000 in
theorem zw7_10 : Jvm.Cond.code yX12_term prog_14_method_34_code 2 none ∈ zg_tb := zg_m7 (i := 10) rfl rfl
set_option maxRecDepth 100000 in
theorem zw7_9 : Jvm.Cond.instanceMethod yX12_term ∈ zg_tb := zg_m7 (i := 9) rfl rfl
set_option maxRecDepth 100000 in
theorem zs_yX12_term : Jvm.Cond.selects RX12 yX12_term yX12_term ∈ zg_tb := zg_mp (y := yX12_term) (n := 71) (zw_privs_4 (List.mem_of_getElem? (i := 8) (by decide +kernel))) rfl
set_option maxRecDepth 100000 in
theorem zy_yX12_term_V : (Jvm.Cond.instanceMethod yX12_term ∈ zg_tb ∧ Jvm.Cond.selects yX12_term.cls yX12_term yX12_term ∈ zg_tb ∧ Jvm.Cond.initialized yX12_term.cls ∈ zg_tb ∧ Jvm.Cond.code yX12_term prog_14_method_34_code 2 none ∈ zg_tb) ∧ zg_dm yX12_term 0 := ⟨⟨zw7_9, zs_yX12_term, zw1_12, zw7_10⟩, by decide +kernel, by decide +kernel, by decide +kernel⟩
set_option maxRecDepth 100000 in
theorem zw7_3 : Jvm.Cond.methodLink RX12 253 yX12_sum ∈ zg_tb := zg_m7 (i := 3) rfl rfl
set_option maxRecDepth 100000 in
theorem zw7_6 : Jvm.Cond.code yX12_sum prog_14_method_35_code 2 none ∈ zg_tb := zg_m7 (i := 6) rfl rfl
set_option maxRecDepth 100000 in
theorem zw7_5 : Jvm.Cond.instanceMethod yX12_sum ∈ zg_tb := zg_m7 (i := 5) rfl rfl
set_option maxRecDepth 100000 in
theorem zs_yX12_sum : Jvm.Cond.selects RX12 yX12_sum yX12_sum ∈ zg_tb := zg_mp (y := yX12_sum) (n := 71) (zw_privs_4 (List.mem_of_getElem? (i := 7) (by decide +kernel))) rfl
set_option maxRecDepth 100000 in
theorem zy_yX12_sum_V : (Jvm.Cond.instanceMethod yX12_sum ∈ zg_tb ∧ Jvm.Cond.selects yX12_sum.cls yX12_sum yX12_sum ∈ zg_tb ∧ Jvm.Cond.initialized yX12_sum.cls ∈ zg_tb ∧ Jvm.Cond.code yX12_sum prog_14_method_35_code 2 none ∈ zg_tb) ∧ zg_dm yX12_sum 0 := ⟨⟨zw7_5, zs_yX12_sum, zw1_12, zw7_6⟩, by decide +kernel, by decide +kernel, by decide +kernel⟩
set_option maxRecDepth 100000 in
theorem zw7_19 : Jvm.Cond.methodLink RX12 256 yX12_closes ∈ zg_tb := zg_m7 (i := 19) rfl rfl
set_option maxRecDepth 100000 in
theorem zw7_22 : Jvm.Cond.code yX12_closes prog_14_method_31_code 2 none ∈ zg_tb := zg_m7 (i := 22) rfl rfl
set_option maxRecDepth 100000 in
theorem zw7_21 : Jvm.Cond.instanceMethod yX12_closes ∈ zg_tb := zg_m7 (i := 21) rfl rfl
set_option maxRecDepth 100000 in
theorem zs_yX12_closes : Jvm.Cond.selects RX12 yX12_closes yX12_closes ∈ zg_tb := zg_mp (y := yX12_closes) (n := 71) (zw_privs_4 (List.mem_of_getElem? (i := 11) (by decide +kernel))) rfl
set_option maxRecDepth 100000 in
theorem zy_yX12_closes_V : (Jvm.Cond.instanceMethod yX12_closes ∈ zg_tb ∧ Jvm.Cond.selects yX12_closes.cls yX12_closes yX12_closes ∈ zg_tb ∧ Jvm.Cond.initialized yX12_closes.cls ∈ zg_tb ∧ Jvm.Cond.code yX12_closes prog_14_method_31_code 2 none ∈ zg_tb) ∧ zg_dm yX12_closes 1 := ⟨⟨zw7_21, zs_yX12_closes, zw1_12, zw7_22⟩, by decide +kernel, by decide +kernel, by decide +kernel⟩
set_option maxRecDepth 100000 in
theorem zw7_30 : Jvm.Cond.methodLink RX12 271 yX12_isSign ∈ zg_tb := zg_m7 (i := 30) rfl rfl
set_option maxRecDepth 100000 in
theorem zw7_32 : Jvm.Cond.code yX12_isSign prog_14_method_36_code 1 (some .boolean) ∈ zg_tb := zg_m7 (i := 32) rfl rfl
set_option maxRecDepth 100000 in
theorem zw7_31 : Jvm.Cond.static yX12_isSign ∈ zg_tb := zg_m7 (i := 31) rfl rfl
set_option maxRecDepth 100000 in
theorem zy_yX12_isSign_S : (Jvm.Cond.static yX12_isSign ∈ zg_tb ∧ Jvm.Cond.initialized yX12_isSign.cls ∈ zg_tb ∧ Jvm.Cond.code yX12_isSign prog_14_method_36_code 1 (some .boolean) ∈ zg_tb) ∧ zg_dm yX12_isSign 1 := ⟨⟨zw7_31, zw1_12, zw7_32⟩, by decide +kernel, by decide +kernel, by decide +kernel⟩
set_option maxRecDepth 100000 in
theorem zw7_41 : Jvm.Cond.methodLink RX12 280 yX12_compare ∈ zg_tb := zg_m7 (i := 41) rfl rfl
set_option maxRecDepth 100000 in
theorem zw7_44 : Jvm.Cond.code yX12_compare prog_14_method_37_code 2 none ∈ zg_tb := zg_m7 (i := 44) rfl rfl
set_option maxRecDepth 100000 in
theorem zw7_43 : Jvm.Cond.instanceMethod yX12_compare ∈ zg_tb := zg_m7 (i := 43) rfl rfl
set_option maxRecDepth 100000 in
theorem zs_yX12_compare : Jvm.Cond.selects RX12 yX12_compare yX12_compare ∈ zg_tb := zg_mp (y := yX12_compare) (n := 71) (zw_privs_4 (List.mem_of_getElem? (i := 15) (by decide +kernel))) rfl
set_option maxRecDepth 100000 in
theorem zy_yX12_compare_V : (Jvm.Cond.instanceMethod yX12_compare ∈ zg_tb ∧ Jvm.Cond.selects yX12_compare.cls yX12_compare yX12_compare ∈ zg_tb ∧ Jvm.Cond.initialized yX12_compare.cls ∈ zg_tb ∧ Jvm.Cond.code yX12_compare prog_14_method_37_code 2 none ∈ zg_tb) ∧ zg_dm yX12_compare 0 := ⟨⟨zw7_43, zs_yX12_compare, zw1_12, zw7_44⟩, by decide +kernel, by decide +kernel, by decide +kernel⟩
set_option maxRecDepth 100000 in
theorem zw7_45 : Jvm.Cond.methodLink RX12 274 yX12_unit ∈ zg_tb := zg_m7 (i := 45) rfl rfl
set_option maxRecDepth 100000 in
theorem zw7_48 : Jvm.Cond.code yX12_unit prog_14_method_38_code 2 none ∈ zg_tb := zg_m7 (i := 48) rfl rfl
set_option maxRecDepth 100000 in
theorem zw7_47 : Jvm.Cond.instanceMethod yX12_unit ∈ zg_tb := zg_m7 (i := 47) rfl rfl
set_option maxRecDepth 100000 in
theorem zs_yX12_unit : Jvm.Cond.selects RX12 yX12_unit yX12_unit ∈ zg_tb := zg_mp (y := yX12_unit) (n := 71) (zw_privs_5 (List.mem_of_getElem? (i := 0) (by decide +kernel))) rfl
set_option maxRecDepth 100000 in
theorem zy_yX12_unit_V : (Jvm.Cond.instanceMethod yX12_unit ∈ zg_tb ∧ Jvm.Cond.selects yX12_unit.cls yX12_unit yX12_unit ∈ zg_tb ∧ Jvm.Cond.initialized yX12_unit.cls ∈ zg_tb ∧ Jvm.Cond.code yX12_unit prog_14_method_38_code 2 none ∈ zg_tb) ∧ zg_dm yX12_unit 0 := ⟨⟨zw7_47, zs_yX12_unit, zw1_12, zw7_48⟩, by decide +kernel, by decide +kernel, by decide +kernel⟩
set_option maxRecDepth 100000 in
theorem zw7_37 : Jvm.Cond.methodLink RX12 283 yX12_truths ∈ zg_tb := zg_m7 (i := 37) rfl rfl
set_option maxRecDepth 100000 in
theorem zw7_40 : Jvm.Cond.code yX12_truths prog_14_method_39_code 2 none ∈ zg_tb := zg_m7 (i := 40) rfl rfl
set_option maxRecDepth 100000 in
theorem zw7_39 : Jvm.Cond.instanceMethod yX12_truths ∈ zg_tb := zg_m7 (i := 39) rfl rfl
set_option maxRecDepth 100000 in
theorem zs_yX12_truths : Jvm.Cond.selects RX12 yX12_truths yX12_truths ∈ zg_tb := zg_mp (y := yX12_truths) (n := 71) (zw_privs_4 (List.mem_of_getElem? (i := 14) (by decide +kernel))) rfl
set_option maxRecDepth 100000 in
theorem zy_yX12_truths_V : (Jvm.Cond.instanceMethod yX12_truths ∈ zg_tb ∧ Jvm.Cond.selects yX12_truths.cls yX12_truths yX12_truths ∈ zg_tb ∧ Jvm.Cond.initialized yX12_truths.cls ∈ zg_tb ∧ Jvm.Cond.code yX12_truths prog_14_method_39_code 2 none ∈ zg_tb) ∧ zg_dm yX12_truths 1 := ⟨⟨zw7_39, zs_yX12_truths, zw1_12, zw7_40⟩, by decide +kernel, by decide +kernel, by decide +kernel⟩
set_option maxRecDepth 100000 in
theorem zw7_33 : Jvm.Cond.methodLink RX12 277 yX12_condition ∈ zg_tb := zg_m7 (i := 33) rfl rfl
set_option maxRecDepth 100000 in
theorem zw7_36 : Jvm.Cond.code yX12_condition prog_14_method_40_code 2 none ∈ zg_tb := zg_m7 (i := 36) rfl rfl
set_option maxRecDepth 100000 in
theorem zw7_35 : Jvm.Cond.instanceMethod yX12_condition ∈ zg_tb := zg_m7 (i := 35) rfl rfl
set_option maxRecDepth 100000 in
theorem zs_yX12_condition : Jvm.Cond.selects RX12 yX12_condition yX12_condition ∈ zg_tb := zg_mp (y := yX12_condition) (n := 71) (zw_privs_4 (List.mem_of_getElem? (i := 13) (by decide +kernel))) rfl
set_option maxRecDepth 100000 in
theorem zy_yX12_condition_V : (Jvm.Cond.instanceMethod yX12_condition ∈ zg_tb ∧ Jvm.Cond.selects yX12_condition.cls yX12_condition yX12_condition ∈ zg_tb ∧ Jvm.Cond.initialized yX12_condition.cls ∈ zg_tb ∧ Jvm.Cond.code yX12_condition prog_14_method_40_code 2 none ∈ zg_tb) ∧ zg_dm yX12_condition 1 := ⟨⟨zw7_35, zs_yX12_condition, zw1_12, zw7_36⟩, by decide +kernel, by decide +kernel, by decide +kernel⟩
set_option maxRecDepth 100000 in
theorem zw6_236 : Jvm.Cond.methodLink RX12 286 yX12_isLabel ∈ zg_tb := zg_m6 (i := 236) rfl rfl
set_option maxRecDepth 100000 in
theorem zw6_238 : Jvm.Cond.code yX12_isLabel prog_14_method_28_code 1 (some .boolean) ∈ zg_tb := zg_m6 (i := 238) rfl rfl
set_option maxRecDepth 100000 in
theorem zw6_237 : Jvm.Cond.static yX12_isLabel ∈ zg_tb := zg_m6 (i := 237) rfl rfl
set_option maxRecDepth 100000 in
theorem zy_yX12_isLabel_S : (Jvm.Cond.static yX12_isLabel ∈ zg_tb ∧ Jvm.Cond.initialized yX12_isLabel.cls ∈ zg_tb ∧ Jvm.Cond.code yX12_isLabel prog_14_method_28_code 1 (some .boolean) ∈ zg_tb) ∧ zg_dm yX12_isLabel 1 := ⟨⟨zw6_237, zw1_12, zw6_238⟩, by decide +kernel, by decide +kernel, by decide +kernel⟩
set_option maxRecDepth 100000 in
theorem zw6_228 : Jvm.Cond.methodLink RX12 289 yX12_clause ∈ zg_tb := zg_m6 (i := 228) rfl rfl
set_option maxRecDepth 100000 in
theorem zw6_231 : Jvm.Cond.code yX12_clause prog_14_method_41_code 6 none ∈ zg_tb := zg_m6 (i := 231) rfl rfl
set_option maxRecDepth 100000 in
theorem zw6_230 : Jvm.Cond.instanceMethod yX12_clause ∈ zg_tb := zg_m6 (i := 230) rfl rfl
set_option maxRecDepth 100000 in
theorem zs_yX12_clause : Jvm.Cond.selects RX12 yX12_clause yX12_clause ∈ zg_tb := zg_mp (y := yX12_clause) (n := 71) (zw_privs_4 (List.mem_of_getElem? (i := 4) (by decide +kernel))) rfl
set_option maxRecDepth 100000 in
theorem zy_yX12_clause_V : (Jvm.Cond.instanceMethod yX12_clause ∈ zg_tb ∧ Jvm.Cond.selects yX12_clause.cls yX12_clause yX12_clause ∈ zg_tb ∧ Jvm.Cond.initialized yX12_clause.cls ∈ zg_tb ∧ Jvm.Cond.code yX12_clause prog_14_method_41_code 6 none ∈ zg_tb) ∧ zg_dm yX12_clause 0 := ⟨⟨zw6_230, zs_yX12_clause, zw1_12, zw6_231⟩, by decide +kernel, by decide +kernel, by decide +kernel⟩
set_option maxRecDepth 100000 in
theorem zw6_179 : Jvm.Cond.methodLink RX12 292 yX12_textFault ∈ zg_tb := zg_m6 (i := 179) rfl rfl
set_option maxRecDepth 100000 in
theorem zw6_182 : Jvm.Cond.code yX12_textFault prog_14_method_25_code 1 (some .int) ∈ zg_tb := zg_m6 (i := 182) rfl rfl
set_option maxRecDepth 100000 in
theorem zw6_181 : Jvm.Cond.instanceMethod yX12_textFault ∈ zg_tb := zg_m6 (i := 181) rfl rfl
set_option maxRecDepth 100000 in
theorem zs_yX12_textFault : Jvm.Cond.selects RX12 yX12_textFault yX12_textFault ∈ zg_tb := zg_mp (y := yX12_textFault) (n := 71) (zw_privs_3 (List.mem_of_getElem? (i := 10) (by decide +kernel))) rfl
set_option maxRecDepth 100000 in
theorem zy_yX12_textFault_V : (Jvm.Cond.instanceMethod yX12_textFault ∈ zg_tb ∧ Jvm.Cond.selects yX12_textFault.cls yX12_textFault yX12_textFault ∈ zg_tb ∧ Jvm.Cond.initialized yX12_textFault.cls ∈ zg_tb ∧ Jvm.Cond.code yX12_textFault prog_14_method_25_code 1 (some .int) ∈ zg_tb) ∧ zg_dm yX12_textFault 0 := ⟨⟨zw6_181, zs_yX12_textFault, zw1_12, zw6_182⟩, by decide +kernel, by decide +kernel, by decide +kernel⟩
set_option maxRecDepth 100000 in
theorem zw6_224 : Jvm.Cond.methodLink RX12 295 yX12_ruleFault ∈ zg_tb := zg_m6 (i := 224) rfl rfl
set_option maxRecDepth 100000 in
theorem zw6_227 : Jvm.Cond.code yX12_ruleFault prog_14_method_42_code 1 (some .int) ∈ zg_tb := zg_m6 (i := 227) rfl rfl
set_option maxRecDepth 100000 in
theorem zw6_226 : Jvm.Cond.instanceMethod yX12_ruleFault ∈ zg_tb := zg_m6 (i := 226) rfl rfl
set_option maxRecDepth 100000 in
theorem zs_yX12_ruleFault : Jvm.Cond.selects RX12 yX12_ruleFault yX12_ruleFault ∈ zg_tb := zg_mp (y := yX12_ruleFault) (n := 71) (zw_privs_4 (List.mem_of_getElem? (i := 3) (by decide +kernel))) rfl
set_option maxRecDepth 100000 in
theorem zy_yX12_ruleFault_V : (Jvm.Cond.instanceMethod yX12_ruleFault ∈ zg_tb ∧ Jvm.Cond.selects yX12_ruleFault.cls yX12_ruleFault yX12_ruleFault ∈ zg_tb ∧ Jvm.Cond.initialized yX12_ruleFault.cls ∈ zg_tb ∧ Jvm.Cond.code yX12_ruleFault prog_14_method_42_code 1 (some .int) ∈ zg_tb) ∧ zg_dm yX12_ruleFault 0 := ⟨⟨zw6_226, zs_yX12_ruleFault, zw1_12, zw6_227⟩, by decide +kernel, by decide +kernel, by decide +kernel⟩
set_option maxRecDepth 100000 in
theorem zw2_67 : Jvm.Cond.fieldLink RX11 155 RX11 "lists" "I" ∈ zg_tb := zg_m2 (i := 67) rfl rfl
set_option maxRecDepth 100000 in
theorem zt11_14 : TX11 14 = (RX11, "lists", "I", false) ∧ parseFieldDescriptor "I" = some FieldType.int := ⟨rfl, by decide +kernel⟩
set_option maxRecDepth 100000 in
theorem zw3_73 : Jvm.Cond.methodLink RX11 158 yX11_hasList ∈ zg_tb := zg_m3 (i := 73) rfl rfl
set_option maxRecDepth 100000 in
theorem zw3_76 : Jvm.Cond.code yX11_hasList prog_1_method_40_code 2 (some .boolean) ∈ zg_tb := zg_m3 (i := 76) rfl rfl
set_option maxRecDepth 100000 in
theorem zw1_1 : Jvm.Cond.initialized RX11 ∈ zg_tb := zg_m1 (i := 1) rfl rfl
set_option maxRecDepth 100000 in
theorem zw3_75 : Jvm.Cond.instanceMethod yX11_hasList ∈ zg_tb := zg_m3 (i := 75) rfl rfl
set_option maxRecDepth 100000 in
theorem zs_yX11_hasList : Jvm.Cond.selects RX11 yX11_hasList yX11_hasList ∈ zg_tb := zg_mp (y := yX11_hasList) (n := 17) (zw_privs_1 (List.mem_of_getElem? (i := 12) (by decide +kernel))) rfl
set_option maxRecDepth 100000 in
theorem zy_yX11_hasList_V : (Jvm.Cond.instanceMethod yX11_hasList ∈ zg_tb ∧ Jvm.Cond.selects yX11_hasList.cls yX11_hasList yX11_hasList ∈ zg_tb ∧ Jvm.Cond.initialized yX11_hasList.cls ∈ zg_tb ∧ Jvm.Cond.code yX11_hasList prog_1_method_40_code 2 (some .boolean) ∈ zg_tb) ∧ zg_dm yX11_hasList 1 := ⟨⟨zw3_75, zs_yX11_hasList, zw1_1, zw3_76⟩, by decide +kernel, by decide +kernel, by decide +kernel⟩
set_option maxRecDepth 100000 in
theorem zw1_184 : Jvm.Cond.fieldLink RX5 39 RX5 "told" "I" ∈ zg_tb := zg_m1 (i := 184) rfl rfl
set_option maxRecDepth 100000 in
theorem zt5_5 : TX5 5 = (RX5, "told", "I", false) ∧ parseFieldDescriptor "I" = some FieldType.int := ⟨rfl, by decide +kernel⟩
set_option maxRecDepth 100000 in
theorem zw3_88 : Jvm.Cond.methodLink RJ7 316 ⟨"[I", "clone", "()Ljava/lang/Object;"⟩ ∈ zg_tb := zg_m3 (i := 88) rfl rfl
set_option maxRecDepth 100000 in
theorem zw3_89 : Jvm.Cond.sameMethod "[I" "java/lang/Object" "clone" "()Ljava/lang/Object;" ∈ zg_tb := zg_m3 (i := 89) rfl rfl
set_option maxRecDepth 100000 in
theorem zw3_90 : Jvm.Cond.native ⟨"java/lang/Object", "clone", "()Ljava/lang/Object;"⟩ ∈ zg_tb := zg_m3 (i := 90) rfl rfl
set_option maxRecDepth 100000 in
theorem zw3_91 : Jvm.Cond.instanceMethod ⟨"java/lang/Object", "clone", "()Ljava/lang/Object;"⟩ ∈ zg_tb := zg_m3 (i := 91) rfl rfl
set_option maxRecDepth 100000 in
theorem zw3_92 : Jvm.Cond.selects "[I" ⟨"[I", "clone", "()Ljava/lang/Object;"⟩ ⟨"java/lang/Object", "clone", "()Ljava/lang/Object;"⟩ ∈ zg_tb := zg_m3 (i := 92) rfl rfl
set_option maxRecDepth 100000 in
theorem zw3_94 : Jvm.Cond.classLink RJ7 317 "[I" ∈ zg_tb := zg_m3 (i := 94) rfl rfl
set_option maxRecDepth 100000 in
theorem zw3_95 : Jvm.Cond.methodLink RJ7 304 Lib.Math.min.name ∈ zg_tb := zg_m3 (i := 95) rfl rfl
set_option maxRecDepth 100000 in
theorem zw3_96 : Jvm.Cond.methodLink RJ7 150 arraycopyName ∈ zg_tb := zg_m3 (i := 96) rfl rfl
set_option maxRecDepth 100000 in
theorem zw3_98 : Jvm.Cond.native arraycopyName ∈ zg_tb := zg_m3 (i := 98) rfl rfl
set_option maxRecDepth 100000 in
theorem zw3_97 : Jvm.Cond.static arraycopyName ∈ zg_tb := zg_m3 (i := 97) rfl rfl
set_option maxRecDepth 100000 in
theorem zw1_20 : Jvm.Cond.initialized "java/lang/System" ∈ zg_tb := zg_m1 (i := 20) rfl rfl
set_option maxRecDepth 100000 in
theorem zw3_85 : Jvm.Cond.methodLink RX6 43 yJ7_copyOf_59c91 ∈ zg_tb := zg_m3 (i := 85) rfl rfl
set_option maxRecDepth 100000 in
theorem zw3_87 : Jvm.Cond.code yJ7_copyOf_59c91 prog_23_method_123_code 3 (some (.array .int)) ∈ zg_tb := zg_m3 (i := 87) rfl rfl
set_option maxRecDepth 100000 in
theorem zw1_19 : Jvm.Cond.initialized RJ7 ∈ zg_tb := zg_m1 (i := 19) rfl rfl
set_option maxRecDepth 100000 in
theorem zw3_86 : Jvm.Cond.static yJ7_copyOf_59c91 ∈ zg_tb := zg_m3 (i := 86) rfl rfl
set_option maxRecDepth 100000 in
theorem zy_yJ7_copyOf_59c91_S : (Jvm.Cond.static yJ7_copyOf_59c91 ∈ zg_tb ∧ Jvm.Cond.initialized yJ7_copyOf_59c91.cls ∈ zg_tb ∧ Jvm.Cond.code yJ7_copyOf_59c91 prog_23_method_123_code 3 (some (.array .int)) ∈ zg_tb) ∧ zg_dm yJ7_copyOf_59c91 2 := ⟨⟨zw3_86, zw1_19, zw3_87⟩, by decide +kernel, by decide +kernel, by decide +kernel⟩
set_option maxRecDepth 100000 in
theorem zw3_103 : Jvm.Cond.methodLink RX5 43 yX5_isFull ∈ zg_tb := zg_m3 (i := 103) rfl rfl
set_option maxRecDepth 100000 in
theorem zw3_80 : Jvm.Cond.code yX5_isFull prog_7_method_2_code 1 (some .boolean) ∈ zg_tb := zg_m3 (i := 80) rfl rfl
set_option maxRecDepth 100000 in
theorem zw3_78 : Jvm.Cond.instanceMethod yX5_isFull ∈ zg_tb := zg_m3 (i := 78) rfl rfl
set_option maxRecDepth 100000 in
theorem zw3_79 : Jvm.Cond.selects RX5 yX5_isFull yX5_isFull ∈ zg_tb := zg_m3 (i := 79) rfl rfl
set_option maxRecDepth 100000 in
theorem zy_yX5_isFull_V : (Jvm.Cond.instanceMethod yX5_isFull ∈ zg_tb ∧ Jvm.Cond.selects yX5_isFull.cls yX5_isFull yX5_isFull ∈ zg_tb ∧ Jvm.Cond.initialized yX5_isFull.cls ∈ zg_tb ∧ Jvm.Cond.code yX5_isFull prog_7_method_2_code 1 (some .boolean) ∈ zg_tb) ∧ zg_dm yX5_isFull 0 := ⟨⟨zw3_78, zw3_79, zw1_8, zw3_80⟩, by decide +kernel, by decide +kernel, by decide +kernel⟩
set_option maxRecDepth 100000 in
theorem zw3_69 : Jvm.Cond.methodLink RX11 132 yX11_hasRuler ∈ zg_tb := zg_m3 (i := 69) rfl rfl
set_option maxRecDepth 100000 in
theorem zw3_72 : Jvm.Cond.code yX11_hasRuler prog_1_method_41_code 3 (some .boolean) ∈ zg_tb := zg_m3 (i := 72) rfl rfl
set_option maxRecDepth 100000 in
theorem zw3_71 : Jvm.Cond.instanceMethod yX11_hasRuler ∈ zg_tb := zg_m3 (i := 71) rfl rfl
set_option maxRecDepth 100000 in
theorem zs_yX11_hasRuler : Jvm.Cond.selects RX11 yX11_hasRuler yX11_hasRuler ∈ zg_tb := zg_mp (y := yX11_hasRuler) (n := 17) (zw_privs_1 (List.mem_of_getElem? (i := 11) (by decide +kernel))) rfl
set_option maxRecDepth 100000 in
theorem zy_yX11_hasRuler_V : (Jvm.Cond.instanceMethod yX11_hasRuler ∈ zg_tb ∧ Jvm.Cond.selects yX11_hasRuler.cls yX11_hasRuler yX11_hasRuler ∈ zg_tb ∧ Jvm.Cond.initialized yX11_hasRuler.cls ∈ zg_tb ∧ Jvm.Cond.code yX11_hasRuler prog_1_method_41_code 3 (some .boolean) ∈ zg_tb) ∧ zg_dm yX11_hasRuler 2 := ⟨⟨zw3_71, zs_yX11_hasRuler, zw1_1, zw3_72⟩, by decide +kernel, by decide +kernel, by decide +kernel⟩
set_option maxRecDepth 100000 in
theorem zw3_77 : Jvm.Cond.methodLink RX11 136 yX5_isFull ∈ zg_tb := zg_m3 (i := 77) rfl rfl
set_option maxRecDepth 100000 in
theorem zw3_81 : Jvm.Cond.methodLink RX11 140 yX6_takeCode ∈ zg_tb := zg_m3 (i := 81) rfl rfl
set_option maxRecDepth 100000 in
theorem zw3_84 : Jvm.Cond.code yX6_takeCode prog_8_method_3_code 1 (some (.array .int)) ∈ zg_tb := zg_m3 (i := 84) rfl rfl
set_option maxRecDepth 100000 in
theorem zw3_82 : Jvm.Cond.instanceMethod yX6_takeCode ∈ zg_tb := zg_m3 (i := 82) rfl rfl
set_option maxRecDepth 100000 in
theorem zw3_83 : Jvm.Cond.selects RX6 yX6_takeCode yX6_takeCode ∈ zg_tb := zg_m3 (i := 83) rfl rfl
set_option maxRecDepth 100000 in
theorem zy_yX6_takeCode_V : (Jvm.Cond.instanceMethod yX6_takeCode ∈ zg_tb ∧ Jvm.Cond.selects yX6_takeCode.cls yX6_takeCode yX6_takeCode ∈ zg_tb ∧ Jvm.Cond.initialized yX6_takeCode.cls ∈ zg_tb ∧ Jvm.Cond.code yX6_takeCode prog_8_method_3_code 1 (some (.array .int)) ∈ zg_tb) ∧ zg_dm yX6_takeCode 0 := ⟨⟨zw3_82, zw3_83, zw1_5, zw3_84⟩, by decide +kernel, by decide +kernel, by decide +kernel⟩
set_option maxRecDepth 100000 in
theorem zw3_99 : Jvm.Cond.methodLink RX11 144 yX5_add ∈ zg_tb := zg_m3 (i := 99) rfl rfl
set_option maxRecDepth 100000 in
theorem zw3_102 : Jvm.Cond.code yX5_add prog_7_method_3_code 6 (some .int) ∈ zg_tb := zg_m3 (i := 102) rfl rfl
set_option maxRecDepth 100000 in
theorem zw3_100 : Jvm.Cond.instanceMethod yX5_add ∈ zg_tb := zg_m3 (i := 100) rfl rfl
set_option maxRecDepth 100000 in
theorem zw3_101 : Jvm.Cond.selects RX5 yX5_add yX5_add ∈ zg_tb := zg_m3 (i := 101) rfl rfl
set_option maxRecDepth 100000 in
theorem zy_yX5_add_V : (Jvm.Cond.instanceMethod yX5_add ∈ zg_tb ∧ Jvm.Cond.selects yX5_add.cls yX5_add yX5_add ∈ zg_tb ∧ Jvm.Cond.initialized yX5_add.cls ∈ zg_tb ∧ Jvm.Cond.code yX5_add prog_7_method_3_code 6 (some .int) ∈ zg_tb) ∧ zg_dm yX5_add 5 := ⟨⟨zw3_100, zw3_101, zw1_8, zw3_102⟩, by decide +kernel, by decide +kernel, by decide +kernel⟩
set_option maxRecDepth 100000 in
theorem zw5_216 : Jvm.Cond.fieldLink RX12 298 RX12 "lists" "I" ∈ zg_tb := zg_m5 (i := 216) rfl rfl
set_option maxRecDepth 100000 in
theorem zt12_57 : TX12 57 = (RX12, "lists", "I", false) ∧ parseFieldDescriptor "I" = some FieldType.int := ⟨rfl, by decide +kernel⟩
set_option maxRecDepth 100000 in
theorem zw5_159 : Jvm.Cond.fieldLink RX12 156 RX12 "now" "I" ∈ zg_tb := zg_m5 (i := 159) rfl rfl
set_option maxRecDepth 100000 in
theorem zt12_0 : TX12 0 = (RX12, "now", "I", false) ∧ parseFieldDescriptor "I" = some FieldType.int := ⟨rfl, by decide +kernel⟩
set_option maxRecDepth 100000 in
theorem zw5_185 : Jvm.Cond.fieldLink RX12 301 RX12 "rules" "I" ∈ zg_tb := zg_m5 (i := 185) rfl rfl
set_option maxRecDepth 100000 in
theorem zt12_26 : TX12 26 = (RX12, "rules", "I", false) ∧ parseFieldDescriptor "I" = some FieldType.int := ⟨rfl, by decide +kernel⟩
set_option maxRecDepth 100000 in
theorem zw3_108 : Jvm.Cond.methodLink RX11 148 yX11_isPast ∈ zg_tb := zg_m3 (i := 108) rfl rfl
set_option maxRecDepth 100000 in
theorem zw3_111 : Jvm.Cond.code yX11_isPast prog_1_method_39_code 2 (some .boolean) ∈ zg_tb := zg_m3 (i := 111) rfl rfl
set_option maxRecDepth 100000 in
theorem zw3_110 : Jvm.Cond.instanceMethod yX11_isPast ∈ zg_tb := zg_m3 (i := 110) rfl rfl
set_option maxRecDepth 100000 in
theorem zs_yX11_isPast : Jvm.Cond.selects RX11 yX11_isPast yX11_isPast ∈ zg_tb := zg_mp (y := yX11_isPast) (n := 17) (zw_privs_1 (List.mem_of_getElem? (i := 13) (by decide +kernel))) rfl
set_option maxRecDepth 100000 in
theorem zy_yX11_isPast_V : (Jvm.Cond.instanceMethod yX11_isPast ∈ zg_tb ∧ Jvm.Cond.selects yX11_isPast.cls yX11_isPast yX11_isPast ∈ zg_tb ∧ Jvm.Cond.initialized yX11_isPast.cls ∈ zg_tb ∧ Jvm.Cond.code yX11_isPast prog_1_method_39_code 2 (some .boolean) ∈ zg_tb) ∧ zg_dm yX11_isPast 1 := ⟨⟨zw3_110, zs_yX11_isPast, zw1_1, zw3_111⟩, by decide +kernel, by decide +kernel, by decide +kernel⟩
set_option maxRecDepth 100000 in
theorem zw3_112 : Jvm.Cond.methodLink RX11 151 yX5_inForce ∈ zg_tb := zg_m3 (i := 112) rfl rfl
set_option maxRecDepth 100000 in
theorem zw3_115 : Jvm.Cond.code yX5_inForce prog_7_method_5_code 9 (some .int) ∈ zg_tb := zg_m3 (i := 115) rfl rfl
set_option maxRecDepth 100000 in
theorem zw3_113 : Jvm.Cond.instanceMethod yX5_inForce ∈ zg_tb := zg_m3 (i := 113) rfl rfl
set_option maxRecDepth 100000 in
theorem zw3_114 : Jvm.Cond.selects RX5 yX5_inForce yX5_inForce ∈ zg_tb := zg_m3 (i := 114) rfl rfl
set_option maxRecDepth 100000 in
theorem zy_yX5_inForce_V : (Jvm.Cond.instanceMethod yX5_inForce ∈ zg_tb ∧ Jvm.Cond.selects yX5_inForce.cls yX5_inForce yX5_inForce ∈ zg_tb ∧ Jvm.Cond.initialized yX5_inForce.cls ∈ zg_tb ∧ Jvm.Cond.code yX5_inForce prog_7_method_5_code 9 (some .int) ∈ zg_tb) ∧ zg_dm yX5_inForce 4 := ⟨⟨zw3_113, zw3_114, zw1_8, zw3_115⟩, by decide +kernel, by decide +kernel, by decide +kernel⟩
set_option maxRecDepth 100000 in
theorem zw7_57 : Jvm.Cond.methodLink RX12 304 yX12_isKnowing ∈ zg_tb := zg_m7 (i := 57) rfl rfl
set_option maxRecDepth 100000 in
theorem zw7_60 : Jvm.Cond.code yX12_isKnowing prog_14_method_3_code 2 (some .boolean) ∈ zg_tb := zg_m7 (i := 60) rfl rfl
set_option maxRecDepth 100000 in
theorem zw7_59 : Jvm.Cond.instanceMethod yX12_isKnowing ∈ zg_tb := zg_m7 (i := 59) rfl rfl
set_option maxRecDepth 100000 in
theorem zs_yX12_isKnowing : Jvm.Cond.selects RX12 yX12_isKnowing yX12_isKnowing ∈ zg_tb := zg_mp (y := yX12_isKnowing) (n := 71) (zw_privs_5 (List.mem_of_getElem? (i := 1) (by decide +kernel))) rfl
set_option maxRecDepth 100000 in
theorem zy_yX12_isKnowing_V : (Jvm.Cond.instanceMethod yX12_isKnowing ∈ zg_tb ∧ Jvm.Cond.selects yX12_isKnowing.cls yX12_isKnowing yX12_isKnowing ∈ zg_tb ∧ Jvm.Cond.initialized yX12_isKnowing.cls ∈ zg_tb ∧ Jvm.Cond.code yX12_isKnowing prog_14_method_3_code 2 (some .boolean) ∈ zg_tb) ∧ zg_dm yX12_isKnowing 1 := ⟨⟨zw7_59, zs_yX12_isKnowing, zw1_12, zw7_60⟩, by decide +kernel, by decide +kernel, by decide +kernel⟩
set_option maxRecDepth 100000 in
theorem zw7_61 : Jvm.Cond.methodLink RX12 307 yX12_forceOf ∈ zg_tb := zg_m7 (i := 61) rfl rfl
set_option maxRecDepth 100000 in
theorem zw7_64 : Jvm.Cond.code yX12_forceOf prog_14_method_45_code 8 (some .int) ∈ zg_tb := zg_m7 (i := 64) rfl rfl
set_option maxRecDepth 100000 in
theorem zw7_63 : Jvm.Cond.instanceMethod yX12_forceOf ∈ zg_tb := zg_m7 (i := 63) rfl rfl
set_option maxRecDepth 100000 in
theorem zs_yX12_forceOf : Jvm.Cond.selects RX12 yX12_forceOf yX12_forceOf ∈ zg_tb := zg_mp (y := yX12_forceOf) (n := 71) (zw_privs_5 (List.mem_of_getElem? (i := 2) (by decide +kernel))) rfl
set_option maxRecDepth 100000 in
theorem zy_yX12_forceOf_V : (Jvm.Cond.instanceMethod yX12_forceOf ∈ zg_tb ∧ Jvm.Cond.selects yX12_forceOf.cls yX12_forceOf yX12_forceOf ∈ zg_tb ∧ Jvm.Cond.initialized yX12_forceOf.cls ∈ zg_tb ∧ Jvm.Cond.code yX12_forceOf prog_14_method_45_code 8 (some .int) ∈ zg_tb) ∧ zg_dm yX12_forceOf 4 := ⟨⟨zw7_63, zs_yX12_forceOf, zw1_12, zw7_64⟩, by decide +kernel, by decide +kernel, by decide +kernel⟩
set_option maxRecDepth 100000 in
theorem zw1_189 : Jvm.Cond.fieldLink RX5 47 RX5 "asked" "I" ∈ zg_tb := zg_m1 (i := 189) rfl rfl
set_option maxRecDepth 100000 in
theorem zt5_9 : TX5 9 = (RX5, "asked", "I", false) ∧ parseFieldDescriptor "I" = some FieldType.int := ⟨rfl, by decide +kernel⟩
set_option maxRecDepth 100000 in
theorem zw3_124 : Jvm.Cond.methodLink RX11 161 yX5_ask ∈ zg_tb := zg_m3 (i := 124) rfl rfl
set_option maxRecDepth 100000 in
theorem zw3_127 : Jvm.Cond.code yX5_ask prog_7_method_6_code 4 (some .boolean) ∈ zg_tb := zg_m3 (i := 127) rfl rfl
set_option maxRecDepth 100000 in
theorem zw3_125 : Jvm.Cond.instanceMethod yX5_ask ∈ zg_tb := zg_m3 (i := 125) rfl rfl
set_option maxRecDepth 100000 in
theorem zw3_126 : Jvm.Cond.selects RX5 yX5_ask yX5_ask ∈ zg_tb := zg_m3 (i := 126) rfl rfl
set_option maxRecDepth 100000 in
theorem zy_yX5_ask_V : (Jvm.Cond.instanceMethod yX5_ask ∈ zg_tb ∧ Jvm.Cond.selects yX5_ask.cls yX5_ask yX5_ask ∈ zg_tb ∧ Jvm.Cond.initialized yX5_ask.cls ∈ zg_tb ∧ Jvm.Cond.code yX5_ask prog_7_method_6_code 4 (some .boolean) ∈ zg_tb) ∧ zg_dm yX5_ask 3 := ⟨⟨zw3_125, zw3_126, zw1_8, zw3_127⟩, by decide +kernel, by decide +kernel, by decide +kernel⟩
set_option maxRecDepth 100000 in
theorem zw7_172 : Jvm.Cond.methodLink RX12 406 yX12_isList ∈ zg_tb := zg_m7 (i := 172) rfl rfl
set_option maxRecDepth 100000 in
theorem zw7_175 : Jvm.Cond.code yX12_isList prog_14_method_77_code 2 (some .boolean) ∈ zg_tb := zg_m7 (i := 175) rfl rfl
set_option maxRecDepth 100000 in
theorem zw7_174 : Jvm.Cond.instanceMethod yX12_isList ∈ zg_tb := zg_m7 (i := 174) rfl rfl
set_option maxRecDepth 100000 in
theorem zs_yX12_isList : Jvm.Cond.selects RX12 yX12_isList yX12_isList ∈ zg_tb := zg_mp (y := yX12_isList) (n := 71) (zw_privs_5 (List.mem_of_getElem? (i := 12) (by decide +kernel))) rfl
set_option maxRecDepth 100000 in
theorem zy_yX12_isList_V : (Jvm.Cond.instanceMethod yX12_isList ∈ zg_tb ∧ Jvm.Cond.selects yX12_isList.cls yX12_isList yX12_isList ∈ zg_tb ∧ Jvm.Cond.initialized yX12_isList.cls ∈ zg_tb ∧ Jvm.Cond.code yX12_isList prog_14_method_77_code 2 (some .boolean) ∈ zg_tb) ∧ zg_dm yX12_isList 1 := ⟨⟨zw7_174, zs_yX12_isList, zw1_12, zw7_175⟩, by decide +kernel, by decide +kernel, by decide +kernel⟩
set_option maxRecDepth 100000 in
theorem zw5_217 : Jvm.Cond.fieldLink RX12 409 RX12 "offs" "I" ∈ zg_tb := zg_m5 (i := 217) rfl rfl
set_option maxRecDepth 100000 in
theorem zt12_58 : TX12 58 = (RX12, "offs", "I", false) ∧ parseFieldDescriptor "I" = some FieldType.int := ⟨rfl, by decide +kernel⟩
set_option maxRecDepth 100000 in
theorem zw3_136 : Jvm.Cond.methodLink RX3 28 yJ7_fill_53178 ∈ zg_tb := zg_m3 (i := 136) rfl rfl
set_option maxRecDepth 100000 in
theorem zw3_138 : Jvm.Cond.code yJ7_fill_53178 prog_23_method_103_code 4 none ∈ zg_tb := zg_m3 (i := 138) rfl rfl
set_option maxRecDepth 100000 in
theorem zw3_137 : Jvm.Cond.static yJ7_fill_53178 ∈ zg_tb := zg_m3 (i := 137) rfl rfl
set_option maxRecDepth 100000 in
theorem zy_yJ7_fill_53178_S : (Jvm.Cond.static yJ7_fill_53178 ∈ zg_tb ∧ Jvm.Cond.initialized yJ7_fill_53178.cls ∈ zg_tb ∧ Jvm.Cond.code yJ7_fill_53178 prog_23_method_103_code 4 none ∈ zg_tb) ∧ zg_dm yJ7_fill_53178 2 := ⟨⟨zw3_137, zw1_19, zw3_138⟩, by decide +kernel, by decide +kernel, by decide +kernel⟩
set_option maxRecDepth 100000 in
theorem zw2_13 : Jvm.Cond.fieldLink RX3 24 RX3 "told" "I" ∈ zg_tb := zg_m2 (i := 13) rfl rfl
set_option maxRecDepth 100000 in
theorem zt3_4 : TX3 4 = (RX3, "told", "I", false) ∧ parseFieldDescriptor "I" = some FieldType.int := ⟨rfl, by decide +kernel⟩
set_option maxRecDepth 100000 in
theorem zw3_156 : Jvm.Cond.methodLink RX0 28 yJ7_fill_53178 ∈ zg_tb := zg_m3 (i := 156) rfl rfl
set_option maxRecDepth 100000 in
theorem zw3_161 : Jvm.Cond.methodLink RX0 34 yJ0_indexOf_0f7a4 ∈ zg_tb := zg_m3 (i := 161) rfl rfl
set_option maxRecDepth 100000 in
theorem zw1_148 : Jvm.Cond.fieldLink RX0 38 RX0 "height" "I" ∈ zg_tb := zg_m1 (i := 148) rfl rfl
set_option maxRecDepth 100000 in
theorem zt0_2 : TX0 2 = (RX0, "height", "I", false) ∧ parseFieldDescriptor "I" = some FieldType.int := ⟨rfl, by decide +kernel⟩
set_option maxRecDepth 100000 in
theorem zw3_184 : Jvm.Cond.constantLong RX0 74 (-1000000) ∈ zg_tb := zg_m3 (i := 184) rfl rfl
set_option maxRecDepth 100000 in
theorem zw3_185 : Jvm.Cond.constantLong RX0 76 (1000000) ∈ zg_tb := zg_m3 (i := 185) rfl rfl
set_option maxRecDepth 100000 in
theorem zw3_186 : Jvm.Cond.methodLink RX0 78 yJ9_min_f86c9 ∈ zg_tb := zg_m3 (i := 186) rfl rfl
set_option maxRecDepth 100000 in
theorem zw3_188 : Jvm.Cond.code yJ9_min_f86c9 prog_18_method_70_code 4 (some .long) ∈ zg_tb := zg_m3 (i := 188) rfl rfl
set_option maxRecDepth 100000 in
theorem zw3_187 : Jvm.Cond.static yJ9_min_f86c9 ∈ zg_tb := zg_m3 (i := 187) rfl rfl
set_option maxRecDepth 100000 in
theorem zy_yJ9_min_f86c9_S : (Jvm.Cond.static yJ9_min_f86c9 ∈ zg_tb ∧ Jvm.Cond.initialized yJ9_min_f86c9.cls ∈ zg_tb ∧ Jvm.Cond.code yJ9_min_f86c9 prog_18_method_70_code 4 (some .long) ∈ zg_tb) ∧ zg_dm yJ9_min_f86c9 2 := ⟨⟨zw3_187, zw1_15, zw3_188⟩, by decide +kernel, by decide +kernel, by decide +kernel⟩
set_option maxRecDepth 100000 in
theorem zw3_189 : Jvm.Cond.methodLink RX0 84 yJ9_max_f86c9 ∈ zg_tb := zg_m3 (i := 189) rfl rfl
set_option maxRecDepth 100000 in
theorem zw3_191 : Jvm.Cond.code yJ9_max_f86c9 prog_18_method_66_code 4 (some .long) ∈ zg_tb := zg_m3 (i := 191) rfl rfl
set_option maxRecDepth 100000 in
theorem zw3_190 : Jvm.Cond.static yJ9_max_f86c9 ∈ zg_tb := zg_m3 (i := 190) rfl rfl
set_option maxRecDepth 100000 in
theorem zy_yJ9_max_f86c9_S : (Jvm.Cond.static yJ9_max_f86c9 ∈ zg_tb ∧ Jvm.Cond.initialized yJ9_max_f86c9.cls ∈ zg_tb ∧ Jvm.Cond.code yJ9_max_f86c9 prog_18_method_66_code 4 (some .long) ∈ zg_tb) ∧ zg_dm yJ9_max_f86c9 2 := ⟨⟨zw3_190, zw1_15, zw3_191⟩, by decide +kernel, by decide +kernel, by decide +kernel⟩
set_option maxRecDepth 100000 in
theorem zw1_150 : Jvm.Cond.fieldLink RX0 45 RX0 "holds" "Z" ∈ zg_tb := zg_m1 (i := 150) rfl rfl
set_option maxRecDepth 100000 in
theorem zt0_4 : TX0 4 = (RX0, "holds", "Z", false) ∧ parseFieldDescriptor "Z" = some FieldType.boolean := ⟨rfl, by decide +kernel⟩
set_option maxRecDepth 100000 in
theorem zw3_170 : Jvm.Cond.methodLink RX0 63 yX0_pop ∈ zg_tb := zg_m3 (i := 170) rfl rfl
set_option maxRecDepth 100000 in
theorem zw3_173 : Jvm.Cond.code yX0_pop prog_2_method_9_code 1 (some .int) ∈ zg_tb := zg_m3 (i := 173) rfl rfl
set_option maxRecDepth 100000 in
theorem zw3_172 : Jvm.Cond.instanceMethod yX0_pop ∈ zg_tb := zg_m3 (i := 172) rfl rfl
set_option maxRecDepth 100000 in
theorem zs_yX0_pop : Jvm.Cond.selects RX0 yX0_pop yX0_pop ∈ zg_tb := zg_mp (y := yX0_pop) (n := 7) (zw_privs_2 (List.mem_of_getElem? (i := 0) (by decide +kernel))) rfl
set_option maxRecDepth 100000 in
theorem zy_yX0_pop_V : (Jvm.Cond.instanceMethod yX0_pop ∈ zg_tb ∧ Jvm.Cond.selects yX0_pop.cls yX0_pop yX0_pop ∈ zg_tb ∧ Jvm.Cond.initialized yX0_pop.cls ∈ zg_tb ∧ Jvm.Cond.code yX0_pop prog_2_method_9_code 1 (some .int) ∈ zg_tb) ∧ zg_dm yX0_pop 0 := ⟨⟨zw3_172, zs_yX0_pop, zw1_6, zw3_173⟩, by decide +kernel, by decide +kernel, by decide +kernel⟩
set_option maxRecDepth 100000 in
theorem zw1_151 : Jvm.Cond.fieldLink RX0 49 RX0 "worth" "I" ∈ zg_tb := zg_m1 (i := 151) rfl rfl
set_option maxRecDepth 100000 in
theorem zt0_5 : TX0 5 = (RX0, "worth", "I", false) ∧ parseFieldDescriptor "I" = some FieldType.int := ⟨rfl, by decide +kernel⟩
set_option maxRecDepth 100000 in
theorem zw1_149 : Jvm.Cond.fieldLink RX0 42 RX0 "at" "I" ∈ zg_tb := zg_m1 (i := 149) rfl rfl
set_option maxRecDepth 100000 in
theorem zt0_3 : TX0 3 = (RX0, "at", "I", false) ∧ parseFieldDescriptor "I" = some FieldType.int := ⟨rfl, by decide +kernel⟩
set_option maxRecDepth 100000 in
theorem zw1_153 : Jvm.Cond.fieldLink RX0 52 RX0 "clause" "I" ∈ zg_tb := zg_m1 (i := 153) rfl rfl
set_option maxRecDepth 100000 in
theorem zt0_6 : TX0 6 = (RX0, "clause", "I", false) ∧ parseFieldDescriptor "I" = some FieldType.int := ⟨rfl, by decide +kernel⟩
set_option maxRecDepth 100000 in
theorem zw3_174 : Jvm.Cond.methodLink RX0 59 yX0_push ∈ zg_tb := zg_m3 (i := 174) rfl rfl
set_option maxRecDepth 100000 in
theorem zw3_177 : Jvm.Cond.code yX0_push prog_2_method_8_code 2 none ∈ zg_tb := zg_m3 (i := 177) rfl rfl
set_option maxRecDepth 100000 in
theorem zw3_176 : Jvm.Cond.instanceMethod yX0_push ∈ zg_tb := zg_m3 (i := 176) rfl rfl
set_option maxRecDepth 100000 in
theorem zs_yX0_push : Jvm.Cond.selects RX0 yX0_push yX0_push ∈ zg_tb := zg_mp (y := yX0_push) (n := 7) (zw_privs_2 (List.mem_of_getElem? (i := 1) (by decide +kernel))) rfl
set_option maxRecDepth 100000 in
theorem zy_yX0_push_V : (Jvm.Cond.instanceMethod yX0_push ∈ zg_tb ∧ Jvm.Cond.selects yX0_push.cls yX0_push yX0_push ∈ zg_tb ∧ Jvm.Cond.initialized yX0_push.cls ∈ zg_tb ∧ Jvm.Cond.code yX0_push prog_2_method_8_code 2 none ∈ zg_tb) ∧ zg_dm yX0_push 1 := ⟨⟨zw3_176, zs_yX0_push, zw1_6, zw3_177⟩, by decide +kernel, by decide +kernel, by decide +kernel⟩
set_option maxRecDepth 100000 in
theorem zw3_178 : Jvm.Cond.methodLink RX0 66 yX0_joined ∈ zg_tb := zg_m3 (i := 178) rfl rfl
set_option maxRecDepth 100000 in
theorem zw3_180 : Jvm.Cond.code yX0_joined prog_2_method_6_code 5 (some .long) ∈ zg_tb := zg_m3 (i := 180) rfl rfl
set_option maxRecDepth 100000 in
theorem zw3_179 : Jvm.Cond.static yX0_joined ∈ zg_tb := zg_m3 (i := 179) rfl rfl
set_option maxRecDepth 100000 in
theorem zy_yX0_joined_S : (Jvm.Cond.static yX0_joined ∈ zg_tb ∧ Jvm.Cond.initialized yX0_joined.cls ∈ zg_tb ∧ Jvm.Cond.code yX0_joined prog_2_method_6_code 5 (some .long) ∈ zg_tb) ∧ zg_dm yX0_joined 3 := ⟨⟨zw3_179, zw1_6, zw3_180⟩, by decide +kernel, by decide +kernel, by decide +kernel⟩
set_option maxRecDepth 100000 in
theorem zw3_181 : Jvm.Cond.methodLink RX0 70 yX0_bounded ∈ zg_tb := zg_m3 (i := 181) rfl rfl
set_option maxRecDepth 100000 in
theorem zw3_183 : Jvm.Cond.code yX0_bounded prog_2_method_7_code 2 (some .int) ∈ zg_tb := zg_m3 (i := 183) rfl rfl
set_option maxRecDepth 100000 in
theorem zw3_182 : Jvm.Cond.static yX0_bounded ∈ zg_tb := zg_m3 (i := 182) rfl rfl
set_option maxRecDepth 100000 in
theorem zy_yX0_bounded_S : (Jvm.Cond.static yX0_bounded ∈ zg_tb ∧ Jvm.Cond.initialized yX0_bounded.cls ∈ zg_tb ∧ Jvm.Cond.code yX0_bounded prog_2_method_7_code 2 (some .int) ∈ zg_tb) ∧ zg_dm yX0_bounded 1 := ⟨⟨zw3_182, zw1_6, zw3_183⟩, by decide +kernel, by decide +kernel, by decide +kernel⟩
set_option maxRecDepth 100000 in
theorem zw3_166 : Jvm.Cond.methodLink RX0 55 yX0_act ∈ zg_tb := zg_m3 (i := 166) rfl rfl
set_option maxRecDepth 100000 in
theorem zw3_169 : Jvm.Cond.code yX0_act prog_2_method_5_code 6 none ∈ zg_tb := zg_m3 (i := 169) rfl rfl
set_option maxRecDepth 100000 in
theorem zw3_168 : Jvm.Cond.instanceMethod yX0_act ∈ zg_tb := zg_m3 (i := 168) rfl rfl
set_option maxRecDepth 100000 in
theorem zs_yX0_act : Jvm.Cond.selects RX0 yX0_act yX0_act ∈ zg_tb := zg_mp (y := yX0_act) (n := 7) (zw_privs_1 (List.mem_of_getElem? (i := 15) (by decide +kernel))) rfl
set_option maxRecDepth 100000 in
theorem zy_yX0_act_V : (Jvm.Cond.instanceMethod yX0_act ∈ zg_tb ∧ Jvm.Cond.selects yX0_act.cls yX0_act yX0_act ∈ zg_tb ∧ Jvm.Cond.initialized yX0_act.cls ∈ zg_tb ∧ Jvm.Cond.code yX0_act prog_2_method_5_code 6 none ∈ zg_tb) ∧ zg_dm yX0_act 2 := ⟨⟨zw3_168, zs_yX0_act, zw1_6, zw3_169⟩, by decide +kernel, by decide +kernel, by decide +kernel⟩
set_option maxRecDepth 100000 in
theorem zw3_143 : Jvm.Cond.methodLink RX11 411 yX5_codeOf ∈ zg_tb := zg_m3 (i := 143) rfl rfl
set_option maxRecDepth 100000 in
theorem zw3_146 : Jvm.Cond.code yX5_codeOf prog_7_method_4_code 2 (some (.array .int)) ∈ zg_tb := zg_m3 (i := 146) rfl rfl
set_option maxRecDepth 100000 in
theorem zw3_144 : Jvm.Cond.instanceMethod yX5_codeOf ∈ zg_tb := zg_m3 (i := 144) rfl rfl
set_option maxRecDepth 100000 in
theorem zw3_145 : Jvm.Cond.selects RX5 yX5_codeOf yX5_codeOf ∈ zg_tb := zg_m3 (i := 145) rfl rfl
set_option maxRecDepth 100000 in
theorem zy_yX5_codeOf_V : (Jvm.Cond.instanceMethod yX5_codeOf ∈ zg_tb ∧ Jvm.Cond.selects yX5_codeOf.cls yX5_codeOf yX5_codeOf ∈ zg_tb ∧ Jvm.Cond.initialized yX5_codeOf.cls ∈ zg_tb ∧ Jvm.Cond.code yX5_codeOf prog_7_method_4_code 2 (some (.array .int)) ∈ zg_tb) ∧ zg_dm yX5_codeOf 1 := ⟨⟨zw3_144, zw3_145, zw1_8, zw3_146⟩, by decide +kernel, by decide +kernel, by decide +kernel⟩
set_option maxRecDepth 100000 in
theorem zw3_147 : Jvm.Cond.methodLink RX11 229 yJ9_min_7cf53 ∈ zg_tb := zg_m3 (i := 147) rfl rfl
set_option maxRecDepth 100000 in
theorem zw2_68 : Jvm.Cond.fieldLink RX11 181 RX11 "written" "I" ∈ zg_tb := zg_m2 (i := 68) rfl rfl
set_option maxRecDepth 100000 in
theorem zt11_15 : TX11 15 = (RX11, "written", "I", false) ∧ parseFieldDescriptor "I" = some FieldType.int := ⟨rfl, by decide +kernel⟩
set_option maxRecDepth 100000 in
theorem zw3_222 : Jvm.Cond.fieldLink RX11 244 RX1 "minute" "I" ∈ zg_tb := zg_m3 (i := 222) rfl rfl
set_option maxRecDepth 100000 in
theorem zt1_4 : TX1 4 = (RX1, "minute", "I", true) ∧ parseFieldDescriptor "I" = some FieldType.int := ⟨rfl, by decide +kernel⟩
set_option maxRecDepth 100000 in
theorem zw1_41 : Jvm.Cond.fieldLink RX11 316 RX4 "home" "[I" ∈ zg_tb := zg_m1 (i := 41) rfl rfl
set_option maxRecDepth 100000 in
theorem zw3_214 : Jvm.Cond.fieldLink RX11 247 RX1 "from" "I" ∈ zg_tb := zg_m3 (i := 214) rfl rfl
set_option maxRecDepth 100000 in
theorem zt1_0 : TX1 0 = (RX1, "from", "I", true) ∧ parseFieldDescriptor "I" = some FieldType.int := ⟨rfl, by decide +kernel⟩
set_option maxRecDepth 100000 in
theorem zw1_43 : Jvm.Cond.fieldLink RX11 450 RX4 "trap" "[Z" ∈ zg_tb := zg_m1 (i := 43) rfl rfl
set_option maxRecDepth 100000 in
theorem zw3_216 : Jvm.Cond.fieldLink RX11 250 RX1 "to" "I" ∈ zg_tb := zg_m3 (i := 216) rfl rfl
set_option maxRecDepth 100000 in
theorem zt1_1 : TX1 1 = (RX1, "to", "I", true) ∧ parseFieldDescriptor "I" = some FieldType.int := ⟨rfl, by decide +kernel⟩
set_option maxRecDepth 100000 in
theorem zw2_12 : Jvm.Cond.fieldLink RX11 289 RX3 "known" "[I" ∈ zg_tb := zg_m2 (i := 12) rfl rfl
set_option maxRecDepth 100000 in
theorem zw3_148 : Jvm.Cond.methodLink RX11 453 yX5_lastAsked ∈ zg_tb := zg_m3 (i := 148) rfl rfl
set_option maxRecDepth 100000 in
theorem zw3_151 : Jvm.Cond.code yX5_lastAsked prog_7_method_7_code 6 (some .int) ∈ zg_tb := zg_m3 (i := 151) rfl rfl
set_option maxRecDepth 100000 in
theorem zw3_149 : Jvm.Cond.instanceMethod yX5_lastAsked ∈ zg_tb := zg_m3 (i := 149) rfl rfl
set_option maxRecDepth 100000 in
theorem zw3_150 : Jvm.Cond.selects RX5 yX5_lastAsked yX5_lastAsked ∈ zg_tb := zg_m3 (i := 150) rfl rfl
set_option maxRecDepth 100000 in
theorem zy_yX5_lastAsked_V : (Jvm.Cond.instanceMethod yX5_lastAsked ∈ zg_tb ∧ Jvm.Cond.selects yX5_lastAsked.cls yX5_lastAsked yX5_lastAsked ∈ zg_tb ∧ Jvm.Cond.initialized yX5_lastAsked.cls ∈ zg_tb ∧ Jvm.Cond.code yX5_lastAsked prog_7_method_7_code 6 (some .int) ∈ zg_tb) ∧ zg_dm yX5_lastAsked 3 := ⟨⟨zw3_149, zw3_150, zw1_8, zw3_151⟩, by decide +kernel, by decide +kernel, by decide +kernel⟩
set_option maxRecDepth 100000 in
theorem zw3_152 : Jvm.Cond.methodLink RX11 436 yX0_clear ∈ zg_tb := zg_m3 (i := 152) rfl rfl
set_option maxRecDepth 100000 in
theorem zw3_155 : Jvm.Cond.code yX0_clear prog_2_method_2_code 1 none ∈ zg_tb := zg_m3 (i := 155) rfl rfl
set_option maxRecDepth 100000 in
theorem zw3_153 : Jvm.Cond.instanceMethod yX0_clear ∈ zg_tb := zg_m3 (i := 153) rfl rfl
set_option maxRecDepth 100000 in
theorem zw3_154 : Jvm.Cond.selects RX0 yX0_clear yX0_clear ∈ zg_tb := zg_m3 (i := 154) rfl rfl
set_option maxRecDepth 100000 in
theorem zy_yX0_clear_V : (Jvm.Cond.instanceMethod yX0_clear ∈ zg_tb ∧ Jvm.Cond.selects yX0_clear.cls yX0_clear yX0_clear ∈ zg_tb ∧ Jvm.Cond.initialized yX0_clear.cls ∈ zg_tb ∧ Jvm.Cond.code yX0_clear prog_2_method_2_code 1 none ∈ zg_tb) ∧ zg_dm yX0_clear 0 := ⟨⟨zw3_153, zw3_154, zw1_6, zw3_155⟩, by decide +kernel, by decide +kernel, by decide +kernel⟩
set_option maxRecDepth 100000 in
theorem zw3_157 : Jvm.Cond.methodLink RX11 439 yX0_set ∈ zg_tb := zg_m3 (i := 157) rfl rfl
set_option maxRecDepth 100000 in
theorem zw3_160 : Jvm.Cond.code yX0_set prog_2_method_3_code 4 none ∈ zg_tb := zg_m3 (i := 160) rfl rfl
set_option maxRecDepth 100000 in
theorem zw3_158 : Jvm.Cond.instanceMethod yX0_set ∈ zg_tb := zg_m3 (i := 158) rfl rfl
set_option maxRecDepth 100000 in
theorem zw3_159 : Jvm.Cond.selects RX0 yX0_set yX0_set ∈ zg_tb := zg_m3 (i := 159) rfl rfl
set_option maxRecDepth 100000 in
theorem zy_yX0_set_V : (Jvm.Cond.instanceMethod yX0_set ∈ zg_tb ∧ Jvm.Cond.selects yX0_set.cls yX0_set yX0_set ∈ zg_tb ∧ Jvm.Cond.initialized yX0_set.cls ∈ zg_tb ∧ Jvm.Cond.code yX0_set prog_2_method_3_code 4 none ∈ zg_tb) ∧ zg_dm yX0_set 2 := ⟨⟨zw3_158, zw3_159, zw1_6, zw3_160⟩, by decide +kernel, by decide +kernel, by decide +kernel⟩
set_option maxRecDepth 100000 in
theorem zw3_162 : Jvm.Cond.methodLink RX11 428 yX0_worthOf ∈ zg_tb := zg_m3 (i := 162) rfl rfl
set_option maxRecDepth 100000 in
theorem zw3_165 : Jvm.Cond.code yX0_worthOf prog_2_method_4_code 5 (some .int) ∈ zg_tb := zg_m3 (i := 165) rfl rfl
set_option maxRecDepth 100000 in
theorem zw3_163 : Jvm.Cond.instanceMethod yX0_worthOf ∈ zg_tb := zg_m3 (i := 163) rfl rfl
set_option maxRecDepth 100000 in
theorem zw3_164 : Jvm.Cond.selects RX0 yX0_worthOf yX0_worthOf ∈ zg_tb := zg_m3 (i := 164) rfl rfl
set_option maxRecDepth 100000 in
theorem zy_yX0_worthOf_V : (Jvm.Cond.instanceMethod yX0_worthOf ∈ zg_tb ∧ Jvm.Cond.selects yX0_worthOf.cls yX0_worthOf yX0_worthOf ∈ zg_tb ∧ Jvm.Cond.initialized yX0_worthOf.cls ∈ zg_tb ∧ Jvm.Cond.code yX0_worthOf prog_2_method_4_code 5 (some .int) ∈ zg_tb) ∧ zg_dm yX0_worthOf 2 := ⟨⟨zw3_163, zw3_164, zw1_6, zw3_165⟩, by decide +kernel, by decide +kernel, by decide +kernel⟩
set_option maxRecDepth 100000 in
theorem zw3_132 : Jvm.Cond.methodLink RX11 165 yX3_know ∈ zg_tb := zg_m3 (i := 132) rfl rfl
set_option maxRecDepth 100000 in
theorem zw3_135 : Jvm.Cond.code yX3_know prog_5_method_3_code 3 none ∈ zg_tb := zg_m3 (i := 135) rfl rfl
set_option maxRecDepth 100000 in
theorem zw3_133 : Jvm.Cond.instanceMethod yX3_know ∈ zg_tb := zg_m3 (i := 133) rfl rfl
set_option maxRecDepth 100000 in
theorem zw3_134 : Jvm.Cond.selects RX3 yX3_know yX3_know ∈ zg_tb := zg_m3 (i := 134) rfl rfl
set_option maxRecDepth 100000 in
theorem zy_yX3_know_V : (Jvm.Cond.instanceMethod yX3_know ∈ zg_tb ∧ Jvm.Cond.selects yX3_know.cls yX3_know yX3_know ∈ zg_tb ∧ Jvm.Cond.initialized yX3_know.cls ∈ zg_tb ∧ Jvm.Cond.code yX3_know prog_5_method_3_code 3 none ∈ zg_tb) ∧ zg_dm yX3_know 1 := ⟨⟨zw3_133, zw3_134, zw1_10, zw3_135⟩, by decide +kernel, by decide +kernel, by decide +kernel⟩
set_option maxRecDepth 100000 in
theorem zw3_139 : Jvm.Cond.methodLink RX11 168 yX11_barred ∈ zg_tb := zg_m3 (i := 139) rfl rfl
set_option maxRecDepth 100000 in
theorem zw3_142 : Jvm.Cond.code yX11_barred prog_1_method_52_code 11 (some .boolean) ∈ zg_tb := zg_m3 (i := 142) rfl rfl
set_option maxRecDepth 100000 in
theorem zw3_141 : Jvm.Cond.instanceMethod yX11_barred ∈ zg_tb := zg_m3 (i := 141) rfl rfl
set_option maxRecDepth 100000 in
theorem zs_yX11_barred : Jvm.Cond.selects RX11 yX11_barred yX11_barred ∈ zg_tb := zg_mp (y := yX11_barred) (n := 17) (zw_privs_1 (List.mem_of_getElem? (i := 14) (by decide +kernel))) rfl
set_option maxRecDepth 100000 in
theorem zy_yX11_barred_V : (Jvm.Cond.instanceMethod yX11_barred ∈ zg_tb ∧ Jvm.Cond.selects yX11_barred.cls yX11_barred yX11_barred ∈ zg_tb ∧ Jvm.Cond.initialized yX11_barred.cls ∈ zg_tb ∧ Jvm.Cond.code yX11_barred prog_1_method_52_code 11 (some .boolean) ∈ zg_tb) ∧ zg_dm yX11_barred 4 := ⟨⟨zw3_141, zs_yX11_barred, zw1_1, zw3_142⟩, by decide +kernel, by decide +kernel, by decide +kernel⟩
set_option maxRecDepth 100000 in
theorem zw5_203 : Jvm.Cond.fieldLink RX12 341 RX12 "letterMany" "I" ∈ zg_tb := zg_m5 (i := 203) rfl rfl
set_option maxRecDepth 100000 in
theorem zt12_44 : TX12 44 = (RX12, "letterMany", "I", false) ∧ parseFieldDescriptor "I" = some FieldType.int := ⟨rfl, by decide +kernel⟩
set_option maxRecDepth 100000 in
theorem zw5_208 : Jvm.Cond.fieldLink RX12 366 RX12 "markMany" "I" ∈ zg_tb := zg_m5 (i := 208) rfl rfl
set_option maxRecDepth 100000 in
theorem zt12_49 : TX12 49 = (RX12, "markMany", "I", false) ∧ parseFieldDescriptor "I" = some FieldType.int := ⟨rfl, by decide +kernel⟩
set_option maxRecDepth 100000 in
theorem zw7_202 : Jvm.Cond.constantLong RX12 311 (-1000000) ∈ zg_tb := zg_m7 (i := 202) rfl rfl
set_option maxRecDepth 100000 in
theorem zw7_203 : Jvm.Cond.constantLong RX12 313 (1000000) ∈ zg_tb := zg_m7 (i := 203) rfl rfl
set_option maxRecDepth 100000 in
theorem zw7_204 : Jvm.Cond.methodLink RX12 315 yJ9_min_f86c9 ∈ zg_tb := zg_m7 (i := 204) rfl rfl
set_option maxRecDepth 100000 in
theorem zw7_205 : Jvm.Cond.methodLink RX12 321 yJ9_max_f86c9 ∈ zg_tb := zg_m7 (i := 205) rfl rfl
set_option maxRecDepth 100000 in
theorem zw7_199 : Jvm.Cond.methodLink RX12 324 yX12_bounded ∈ zg_tb := zg_m7 (i := 199) rfl rfl
set_option maxRecDepth 100000 in
theorem zw7_201 : Jvm.Cond.code yX12_bounded prog_14_method_47_code 2 (some .int) ∈ zg_tb := zg_m7 (i := 201) rfl rfl
set_option maxRecDepth 100000 in
theorem zw7_200 : Jvm.Cond.static yX12_bounded ∈ zg_tb := zg_m7 (i := 200) rfl rfl
set_option maxRecDepth 100000 in
theorem zy_yX12_bounded_S : (Jvm.Cond.static yX12_bounded ∈ zg_tb ∧ Jvm.Cond.initialized yX12_bounded.cls ∈ zg_tb ∧ Jvm.Cond.code yX12_bounded prog_14_method_47_code 2 (some .int) ∈ zg_tb) ∧ zg_dm yX12_bounded 1 := ⟨⟨zw7_200, zw1_12, zw7_201⟩, by decide +kernel, by decide +kernel, by decide +kernel⟩
set_option maxRecDepth 100000 in
theorem zw7_192 : Jvm.Cond.methodLink RX12 338 yX12_work ∈ zg_tb := zg_m7 (i := 192) rfl rfl
set_option maxRecDepth 100000 in
theorem zw7_195 : Jvm.Cond.code yX12_work prog_14_method_49_code 3 (some .int) ∈ zg_tb := zg_m7 (i := 195) rfl rfl
set_option maxRecDepth 100000 in
theorem zw7_194 : Jvm.Cond.instanceMethod yX12_work ∈ zg_tb := zg_m7 (i := 194) rfl rfl
set_option maxRecDepth 100000 in
theorem zs_yX12_work : Jvm.Cond.selects RX12 yX12_work yX12_work ∈ zg_tb := zg_mp (y := yX12_work) (n := 71) (zw_privs_6 (List.mem_of_getElem? (i := 0) (by decide +kernel))) rfl
set_option maxRecDepth 100000 in
theorem zy_yX12_work_V : (Jvm.Cond.instanceMethod yX12_work ∈ zg_tb ∧ Jvm.Cond.selects yX12_work.cls yX12_work yX12_work ∈ zg_tb ∧ Jvm.Cond.initialized yX12_work.cls ∈ zg_tb ∧ Jvm.Cond.code yX12_work prog_14_method_49_code 3 (some .int) ∈ zg_tb) ∧ zg_dm yX12_work 0 := ⟨⟨zw7_194, zs_yX12_work, zw1_12, zw7_195⟩, by decide +kernel, by decide +kernel, by decide +kernel⟩
set_option maxRecDepth 100000 in
theorem zw7_196 : Jvm.Cond.methodLink RX12 331 yX12_both ∈ zg_tb := zg_m7 (i := 196) rfl rfl
set_option maxRecDepth 100000 in
theorem zw7_198 : Jvm.Cond.code yX12_both prog_14_method_48_code 3 (some .int) ∈ zg_tb := zg_m7 (i := 198) rfl rfl
set_option maxRecDepth 100000 in
theorem zw7_197 : Jvm.Cond.static yX12_both ∈ zg_tb := zg_m7 (i := 197) rfl rfl
set_option maxRecDepth 100000 in
theorem zy_yX12_both_S : (Jvm.Cond.static yX12_both ∈ zg_tb ∧ Jvm.Cond.initialized yX12_both.cls ∈ zg_tb ∧ Jvm.Cond.code yX12_both prog_14_method_48_code 3 (some .int) ∈ zg_tb) ∧ zg_dm yX12_both 3 := ⟨⟨zw7_197, zw1_12, zw7_198⟩, by decide +kernel, by decide +kernel, by decide +kernel⟩
set_option maxRecDepth 100000 in
theorem zw5_188 : Jvm.Cond.fieldLink RX12 328 RX12 "reading" "I" ∈ zg_tb := zg_m5 (i := 188) rfl rfl
set_option maxRecDepth 100000 in
theorem zt12_29 : TX12 29 = (RX12, "reading", "I", false) ∧ parseFieldDescriptor "I" = some FieldType.int := ⟨rfl, by decide +kernel⟩
set_option maxRecDepth 100000 in
theorem zw5_189 : Jvm.Cond.fieldLink RX12 335 RX12 "why1" "I" ∈ zg_tb := zg_m5 (i := 189) rfl rfl
set_option maxRecDepth 100000 in
theorem zt12_30 : TX12 30 = (RX12, "why1", "I", false) ∧ parseFieldDescriptor "I" = some FieldType.int := ⟨rfl, by decide +kernel⟩
set_option maxRecDepth 100000 in
theorem zw7_119 : Jvm.Cond.methodLink RX12 394 yX12_gather ∈ zg_tb := zg_m7 (i := 119) rfl rfl
set_option maxRecDepth 100000 in
theorem zw7_122 : Jvm.Cond.code yX12_gather prog_14_method_63_code 3 none ∈ zg_tb := zg_m7 (i := 122) rfl rfl
set_option maxRecDepth 100000 in
theorem zw7_121 : Jvm.Cond.instanceMethod yX12_gather ∈ zg_tb := zg_m7 (i := 121) rfl rfl
set_option maxRecDepth 100000 in
theorem zs_yX12_gather : Jvm.Cond.selects RX12 yX12_gather yX12_gather ∈ zg_tb := zg_mp (y := yX12_gather) (n := 71) (zw_privs_5 (List.mem_of_getElem? (i := 6) (by decide +kernel))) rfl
set_option maxRecDepth 100000 in
theorem zy_yX12_gather_V : (Jvm.Cond.instanceMethod yX12_gather ∈ zg_tb ∧ Jvm.Cond.selects yX12_gather.cls yX12_gather yX12_gather ∈ zg_tb ∧ Jvm.Cond.initialized yX12_gather.cls ∈ zg_tb ∧ Jvm.Cond.code yX12_gather prog_14_method_63_code 3 none ∈ zg_tb) ∧ zg_dm yX12_gather 1 := ⟨⟨zw7_121, zs_yX12_gather, zw1_12, zw7_122⟩, by decide +kernel, by decide +kernel, by decide +kernel⟩
set_option maxRecDepth 100000 in
theorem zw7_97 : Jvm.Cond.methodLink RX12 364 yJ9_min_7cf53 ∈ zg_tb := zg_m7 (i := 97) rfl rfl
set_option maxRecDepth 100000 in
theorem zw7_184 : Jvm.Cond.methodLink RX12 412 yX12_clean ∈ zg_tb := zg_m7 (i := 184) rfl rfl
set_option maxRecDepth 100000 in
theorem zw7_187 : Jvm.Cond.code yX12_clean prog_14_method_51_code 2 none ∈ zg_tb := zg_m7 (i := 187) rfl rfl
set_option maxRecDepth 100000 in
theorem zw7_186 : Jvm.Cond.instanceMethod yX12_clean ∈ zg_tb := zg_m7 (i := 186) rfl rfl
set_option maxRecDepth 100000 in
theorem zs_yX12_clean : Jvm.Cond.selects RX12 yX12_clean yX12_clean ∈ zg_tb := zg_mp (y := yX12_clean) (n := 71) (zw_privs_5 (List.mem_of_getElem? (i := 14) (by decide +kernel))) rfl
set_option maxRecDepth 100000 in
theorem zy_yX12_clean_V : (Jvm.Cond.instanceMethod yX12_clean ∈ zg_tb ∧ Jvm.Cond.selects yX12_clean.cls yX12_clean yX12_clean ∈ zg_tb ∧ Jvm.Cond.initialized yX12_clean.cls ∈ zg_tb ∧ Jvm.Cond.code yX12_clean prog_14_method_51_code 2 none ∈ zg_tb) ∧ zg_dm yX12_clean 0 := ⟨⟨zw7_186, zs_yX12_clean, zw1_12, zw7_187⟩, by decide +kernel, by decide +kernel, by decide +kernel⟩
set_option maxRecDepth 100000 in
theorem zw7_188 : Jvm.Cond.methodLink RX12 415 yX12_worth ∈ zg_tb := zg_m7 (i := 188) rfl rfl
set_option maxRecDepth 100000 in
theorem zw7_191 : Jvm.Cond.code yX12_worth prog_14_method_50_code 6 (some .int) ∈ zg_tb := zg_m7 (i := 191) rfl rfl
set_option maxRecDepth 100000 in
theorem zw7_190 : Jvm.Cond.instanceMethod yX12_worth ∈ zg_tb := zg_m7 (i := 190) rfl rfl
set_option maxRecDepth 100000 in
theorem zs_yX12_worth : Jvm.Cond.selects RX12 yX12_worth yX12_worth ∈ zg_tb := zg_mp (y := yX12_worth) (n := 71) (zw_privs_5 (List.mem_of_getElem? (i := 15) (by decide +kernel))) rfl
set_option maxRecDepth 100000 in
theorem zy_yX12_worth_V : (Jvm.Cond.instanceMethod yX12_worth ∈ zg_tb ∧ Jvm.Cond.selects yX12_worth.cls yX12_worth yX12_worth ∈ zg_tb ∧ Jvm.Cond.initialized yX12_worth.cls ∈ zg_tb ∧ Jvm.Cond.code yX12_worth prog_14_method_50_code 6 (some .int) ∈ zg_tb) ∧ zg_dm yX12_worth 2 := ⟨⟨zw7_190, zs_yX12_worth, zw1_12, zw7_191⟩, by decide +kernel, by decide +kernel, by decide +kernel⟩
set_option maxRecDepth 100000 in
theorem zw7_180 : Jvm.Cond.methodLink RX12 418 yX12_isBarred ∈ zg_tb := zg_m7 (i := 180) rfl rfl
set_option maxRecDepth 100000 in
theorem zw7_183 : Jvm.Cond.code yX12_isBarred prog_14_method_79_code 9 (some .boolean) ∈ zg_tb := zg_m7 (i := 183) rfl rfl
set_option maxRecDepth 100000 in
theorem zw7_182 : Jvm.Cond.instanceMethod yX12_isBarred ∈ zg_tb := zg_m7 (i := 182) rfl rfl
set_option maxRecDepth 100000 in
theorem zs_yX12_isBarred : Jvm.Cond.selects RX12 yX12_isBarred yX12_isBarred ∈ zg_tb := zg_mp (y := yX12_isBarred) (n := 71) (zw_privs_5 (List.mem_of_getElem? (i := 13) (by decide +kernel))) rfl
set_option maxRecDepth 100000 in
theorem zy_yX12_isBarred_V : (Jvm.Cond.instanceMethod yX12_isBarred ∈ zg_tb ∧ Jvm.Cond.selects yX12_isBarred.cls yX12_isBarred yX12_isBarred ∈ zg_tb ∧ Jvm.Cond.initialized yX12_isBarred.cls ∈ zg_tb ∧ Jvm.Cond.code yX12_isBarred prog_14_method_79_code 9 (some .boolean) ∈ zg_tb) ∧ zg_dm yX12_isBarred 4 := ⟨⟨zw7_182, zs_yX12_isBarred, zw1_12, zw7_183⟩, by decide +kernel, by decide +kernel, by decide +kernel⟩
set_option maxRecDepth 100000 in
theorem zw1_49 : Jvm.Cond.fieldLink RX11 172 RX4 "houses" "I" ∈ zg_tb := zg_m1 (i := 49) rfl rfl
set_option maxRecDepth 100000 in
theorem zw3_196 : Jvm.Cond.methodLink RX11 175 yX11_goodLettersFrom ∈ zg_tb := zg_m3 (i := 196) rfl rfl
set_option maxRecDepth 100000 in
theorem zw3_199 : Jvm.Cond.code yX11_goodLettersFrom prog_1_method_53_code 4 (some .int) ∈ zg_tb := zg_m3 (i := 199) rfl rfl
set_option maxRecDepth 100000 in
theorem zw3_198 : Jvm.Cond.instanceMethod yX11_goodLettersFrom ∈ zg_tb := zg_m3 (i := 198) rfl rfl
set_option maxRecDepth 100000 in
theorem zs_yX11_goodLettersFrom : Jvm.Cond.selects RX11 yX11_goodLettersFrom yX11_goodLettersFrom ∈ zg_tb := zg_mp (y := yX11_goodLettersFrom) (n := 17) (zw_privs_2 (List.mem_of_getElem? (i := 2) (by decide +kernel))) rfl
set_option maxRecDepth 100000 in
theorem zy_yX11_goodLettersFrom_V : (Jvm.Cond.instanceMethod yX11_goodLettersFrom ∈ zg_tb ∧ Jvm.Cond.selects yX11_goodLettersFrom.cls yX11_goodLettersFrom yX11_goodLettersFrom ∈ zg_tb ∧ Jvm.Cond.initialized yX11_goodLettersFrom.cls ∈ zg_tb ∧ Jvm.Cond.code yX11_goodLettersFrom prog_1_method_53_code 4 (some .int) ∈ zg_tb) ∧ zg_dm yX11_goodLettersFrom 1 := ⟨⟨zw3_198, zs_yX11_goodLettersFrom, zw1_1, zw3_199⟩, by decide +kernel, by decide +kernel, by decide +kernel⟩
set_option maxRecDepth 100000 in
theorem zw3_212 : Jvm.Cond.methodLink RX1 3 objectInit ∈ zg_tb := zg_m3 (i := 212) rfl rfl
set_option maxRecDepth 100000 in
theorem zw3_223 : Jvm.Cond.fieldLink RX1 11 RX1 "state" "I" ∈ zg_tb := zg_m3 (i := 223) rfl rfl
set_option maxRecDepth 100000 in
theorem zt1_5 : TX1 5 = (RX1, "state", "I", false) ∧ parseFieldDescriptor "I" = some FieldType.int := ⟨rfl, by decide +kernel⟩
set_option maxRecDepth 100000 in
theorem zw3_229 : Jvm.Cond.fieldLink RX1 15 RX1 "clause" "I" ∈ zg_tb := zg_m3 (i := 229) rfl rfl
set_option maxRecDepth 100000 in
theorem zt1_8 : TX1 8 = (RX1, "clause", "I", false) ∧ parseFieldDescriptor "I" = some FieldType.int := ⟨rfl, by decide +kernel⟩
set_option maxRecDepth 100000 in
theorem zw4_1 : Jvm.Cond.fieldLink RX1 18 RX1 "stepHouse" "[I" ∈ zg_tb := zg_m4 (i := 1) rfl rfl
set_option maxRecDepth 100000 in
theorem zt1_14 : TX1 14 = (RX1, "stepHouse", "[I", true) ∧ parseFieldDescriptor "[I" = some (FieldType.array FieldType.int) := ⟨rfl, by decide +kernel⟩
set_option maxRecDepth 100000 in
theorem zw4_3 : Jvm.Cond.fieldLink RX1 22 RX1 "stepMinute" "[I" ∈ zg_tb := zg_m4 (i := 3) rfl rfl
set_option maxRecDepth 100000 in
theorem zt1_15 : TX1 15 = (RX1, "stepMinute", "[I", true) ∧ parseFieldDescriptor "[I" = some (FieldType.array FieldType.int) := ⟨rfl, by decide +kernel⟩
set_option maxRecDepth 100000 in
theorem zw3_213 : Jvm.Cond.fieldLink RX1 25 RX1 "from" "I" ∈ zg_tb := zg_m3 (i := 213) rfl rfl
set_option maxRecDepth 100000 in
theorem zw3_215 : Jvm.Cond.fieldLink RX1 28 RX1 "to" "I" ∈ zg_tb := zg_m3 (i := 215) rfl rfl
set_option maxRecDepth 100000 in
theorem zw3_217 : Jvm.Cond.fieldLink RX1 31 RX1 "signed" "Z" ∈ zg_tb := zg_m3 (i := 217) rfl rfl
set_option maxRecDepth 100000 in
theorem zt1_2 : TX1 2 = (RX1, "signed", "Z", true) ∧ parseFieldDescriptor "Z" = some FieldType.boolean := ⟨rfl, by decide +kernel⟩
set_option maxRecDepth 100000 in
theorem zw3_219 : Jvm.Cond.fieldLink RX1 35 RX1 "stamp" "I" ∈ zg_tb := zg_m3 (i := 219) rfl rfl
set_option maxRecDepth 100000 in
theorem zt1_3 : TX1 3 = (RX1, "stamp", "I", true) ∧ parseFieldDescriptor "I" = some FieldType.int := ⟨rfl, by decide +kernel⟩
set_option maxRecDepth 100000 in
theorem zw3_221 : Jvm.Cond.fieldLink RX1 38 RX1 "minute" "I" ∈ zg_tb := zg_m3 (i := 221) rfl rfl
set_option maxRecDepth 100000 in
theorem zw3_227 : Jvm.Cond.fieldLink RX1 41 RX1 "due" "I" ∈ zg_tb := zg_m3 (i := 227) rfl rfl
set_option maxRecDepth 100000 in
theorem zt1_7 : TX1 7 = (RX1, "due", "I", false) ∧ parseFieldDescriptor "I" = some FieldType.int := ⟨rfl, by decide +kernel⟩
set_option maxRecDepth 100000 in
theorem zw4_53 : Jvm.Cond.constantLong RX9 19 (37) ∈ zg_tb := zg_m4 (i := 53) rfl rfl
set_option maxRecDepth 100000 in
theorem zw1_99 : Jvm.Cond.fieldLink RX2 41 RX2 "length" "I" ∈ zg_tb := zg_m1 (i := 99) rfl rfl
set_option maxRecDepth 100000 in
theorem zt2_3 : TX2 3 = (RX2, "length", "I", false) ∧ parseFieldDescriptor "I" = some FieldType.int := ⟨rfl, by decide +kernel⟩
set_option maxRecDepth 100000 in
theorem zw1_96 : Jvm.Cond.fieldLink RX2 34 RX2 "count" "I" ∈ zg_tb := zg_m1 (i := 96) rfl rfl
set_option maxRecDepth 100000 in
theorem zt2_1 : TX2 1 = (RX2, "count", "I", false) ∧ parseFieldDescriptor "I" = some FieldType.int := ⟨rfl, by decide +kernel⟩
set_option maxRecDepth 100000 in
theorem zw1_98 : Jvm.Cond.fieldLink RX2 37 RX2 "word" "J" ∈ zg_tb := zg_m1 (i := 98) rfl rfl
set_option maxRecDepth 100000 in
theorem zt2_2 : TX2 2 = (RX2, "word", "J", false) ∧ parseFieldDescriptor "J" = some FieldType.long := ⟨rfl, by decide +kernel⟩
set_option maxRecDepth 100000 in
theorem zw4_50 : Jvm.Cond.methodLink RX2 49 yX9_longer ∈ zg_tb := zg_m4 (i := 50) rfl rfl
set_option maxRecDepth 100000 in
theorem zw4_52 : Jvm.Cond.code yX9_longer prog_11_method_4_code 3 (some .long) ∈ zg_tb := zg_m4 (i := 52) rfl rfl
set_option maxRecDepth 100000 in
theorem zw4_51 : Jvm.Cond.static yX9_longer ∈ zg_tb := zg_m4 (i := 51) rfl rfl
set_option maxRecDepth 100000 in
theorem zy_yX9_longer_S : (Jvm.Cond.static yX9_longer ∈ zg_tb ∧ Jvm.Cond.initialized yX9_longer.cls ∈ zg_tb ∧ Jvm.Cond.code yX9_longer prog_11_method_4_code 3 (some .long) ∈ zg_tb) ∧ zg_dm yX9_longer 2 := ⟨⟨zw4_51, zw1_13, zw4_52⟩, by decide +kernel, by decide +kernel, by decide +kernel⟩
set_option maxRecDepth 100000 in
theorem zw4_68 : Jvm.Cond.methodLink RJ1 9 yJ0_checkIndex_df160 ∈ zg_tb := zg_m4 (i := 68) rfl rfl
set_option maxRecDepth 100000 in
theorem zw4_70 : Jvm.Cond.code yJ0_checkIndex_df160 prog_19_method_155_code 2 none ∈ zg_tb := zg_m4 (i := 70) rfl rfl
set_option maxRecDepth 100000 in
theorem zw4_69 : Jvm.Cond.static yJ0_checkIndex_df160 ∈ zg_tb := zg_m4 (i := 69) rfl rfl
set_option maxRecDepth 100000 in
theorem zy_yJ0_checkIndex_df160_S : (Jvm.Cond.static yJ0_checkIndex_df160 ∈ zg_tb ∧ Jvm.Cond.initialized yJ0_checkIndex_df160.cls ∈ zg_tb ∧ Jvm.Cond.code yJ0_checkIndex_df160 prog_19_method_155_code 2 none ∈ zg_tb) ∧ zg_dm yJ0_checkIndex_df160 2 := ⟨⟨zw4_69, zw1_7, zw4_70⟩, by decide +kernel, by decide +kernel, by decide +kernel⟩
set_option maxRecDepth 100000 in
theorem zw4_65 : Jvm.Cond.methodLink RJ0 495 yJ1_charAt_3b067 ∈ zg_tb := zg_m4 (i := 65) rfl rfl
set_option maxRecDepth 100000 in
theorem zw4_67 : Jvm.Cond.code yJ1_charAt_3b067 prog_20_method_2_code 2 (some .char) ∈ zg_tb := zg_m4 (i := 67) rfl rfl
set_option maxRecDepth 100000 in
theorem zw4_66 : Jvm.Cond.static yJ1_charAt_3b067 ∈ zg_tb := zg_m4 (i := 66) rfl rfl
set_option maxRecDepth 100000 in
theorem zy_yJ1_charAt_3b067_S : (Jvm.Cond.static yJ1_charAt_3b067 ∈ zg_tb ∧ Jvm.Cond.initialized yJ1_charAt_3b067.cls ∈ zg_tb ∧ Jvm.Cond.code yJ1_charAt_3b067 prog_20_method_2_code 2 (some .char) ∈ zg_tb) ∧ zg_dm yJ1_charAt_3b067 2 := ⟨⟨zw4_66, zw1_14, zw4_67⟩, by decide +kernel, by decide +kernel, by decide +kernel⟩
set_option maxRecDepth 100000 in
theorem zw4_58 : Jvm.Cond.methodLink RX2 55 yJ0_indexOf_0f7a4 ∈ zg_tb := zg_m4 (i := 58) rfl rfl
set_option maxRecDepth 100000 in
theorem zw4_60 : Jvm.Cond.methodLink RX2 62 yJ0_length_8abf5 ∈ zg_tb := zg_m4 (i := 60) rfl rfl
set_option maxRecDepth 100000 in
theorem zw4_61 : Jvm.Cond.methodLink RX2 65 yJ0_charAt_5068e ∈ zg_tb := zg_m4 (i := 61) rfl rfl
set_option maxRecDepth 100000 in
theorem zw4_64 : Jvm.Cond.code yJ0_charAt_5068e prog_19_method_56_code 2 (some .char) ∈ zg_tb := zg_m4 (i := 64) rfl rfl
set_option maxRecDepth 100000 in
theorem zw4_62 : Jvm.Cond.instanceMethod yJ0_charAt_5068e ∈ zg_tb := zg_m4 (i := 62) rfl rfl
set_option maxRecDepth 100000 in
theorem zw4_63 : Jvm.Cond.selects RJ0 yJ0_charAt_5068e yJ0_charAt_5068e ∈ zg_tb := zg_m4 (i := 63) rfl rfl
set_option maxRecDepth 100000 in
theorem zy_yJ0_charAt_5068e_V : (Jvm.Cond.instanceMethod yJ0_charAt_5068e ∈ zg_tb ∧ Jvm.Cond.selects yJ0_charAt_5068e.cls yJ0_charAt_5068e yJ0_charAt_5068e ∈ zg_tb ∧ Jvm.Cond.initialized yJ0_charAt_5068e.cls ∈ zg_tb ∧ Jvm.Cond.code yJ0_charAt_5068e prog_19_method_56_code 2 (some .char) ∈ zg_tb) ∧ zg_dm yJ0_charAt_5068e 1 := ⟨⟨zw4_62, zw4_63, zw1_7, zw4_64⟩, by decide +kernel, by decide +kernel, by decide +kernel⟩
set_option maxRecDepth 100000 in
theorem zw4_46 : Jvm.Cond.methodLink RX2 42 yX2_take ∈ zg_tb := zg_m4 (i := 46) rfl rfl
set_option maxRecDepth 100000 in
theorem zw4_49 : Jvm.Cond.code yX2_take prog_4_method_5_code 2 none ∈ zg_tb := zg_m4 (i := 49) rfl rfl
set_option maxRecDepth 100000 in
theorem zw4_48 : Jvm.Cond.instanceMethod yX2_take ∈ zg_tb := zg_m4 (i := 48) rfl rfl
set_option maxRecDepth 100000 in
theorem zs_yX2_take : Jvm.Cond.selects RX2 yX2_take yX2_take ∈ zg_tb := zg_mp (y := yX2_take) (n := 4) (zw_privs_2 (List.mem_of_getElem? (i := 3) (by decide +kernel))) rfl
set_option maxRecDepth 100000 in
theorem zy_yX2_take_V : (Jvm.Cond.instanceMethod yX2_take ∈ zg_tb ∧ Jvm.Cond.selects yX2_take.cls yX2_take yX2_take ∈ zg_tb ∧ Jvm.Cond.initialized yX2_take.cls ∈ zg_tb ∧ Jvm.Cond.code yX2_take prog_4_method_5_code 2 none ∈ zg_tb) ∧ zg_dm yX2_take 1 := ⟨⟨zw4_48, zs_yX2_take, zw1_4, zw4_49⟩, by decide +kernel, by decide +kernel, by decide +kernel⟩
set_option maxRecDepth 100000 in
theorem zw4_54 : Jvm.Cond.methodLink RX2 46 yX2_folded ∈ zg_tb := zg_m4 (i := 54) rfl rfl
set_option maxRecDepth 100000 in
theorem zw4_56 : Jvm.Cond.code yX2_folded prog_4_method_6_code 2 (some .int) ∈ zg_tb := zg_m4 (i := 56) rfl rfl
set_option maxRecDepth 100000 in
theorem zw4_55 : Jvm.Cond.static yX2_folded ∈ zg_tb := zg_m4 (i := 55) rfl rfl
set_option maxRecDepth 100000 in
theorem zy_yX2_folded_S : (Jvm.Cond.static yX2_folded ∈ zg_tb ∧ Jvm.Cond.initialized yX2_folded.cls ∈ zg_tb ∧ Jvm.Cond.code yX2_folded prog_4_method_6_code 2 (some .int) ∈ zg_tb) ∧ zg_dm yX2_folded 1 := ⟨⟨zw4_55, zw1_4, zw4_56⟩, by decide +kernel, by decide +kernel, by decide +kernel⟩
set_option maxRecDepth 100000 in
theorem zw4_84 : Jvm.Cond.methodLink RJ7 319 ⟨"[J", "clone", "()Ljava/lang/Object;"⟩ ∈ zg_tb := zg_m4 (i := 84) rfl rfl
set_option maxRecDepth 100000 in
theorem zw4_85 : Jvm.Cond.sameMethod "[J" "java/lang/Object" "clone" "()Ljava/lang/Object;" ∈ zg_tb := zg_m4 (i := 85) rfl rfl
set_option maxRecDepth 100000 in
theorem zw4_86 : Jvm.Cond.selects "[J" ⟨"[J", "clone", "()Ljava/lang/Object;"⟩ ⟨"java/lang/Object", "clone", "()Ljava/lang/Object;"⟩ ∈ zg_tb := zg_m4 (i := 86) rfl rfl
set_option maxRecDepth 100000 in
theorem zw4_88 : Jvm.Cond.classLink RJ7 320 "[J" ∈ zg_tb := zg_m4 (i := 88) rfl rfl
set_option maxRecDepth 100000 in
theorem zw1_226 : Jvm.Cond.fieldLink RX10 47 RX10 "look" "I" ∈ zg_tb := zg_m1 (i := 226) rfl rfl
set_option maxRecDepth 100000 in
theorem zt10_5 : TX10 5 = (RX10, "look", "I", false) ∧ parseFieldDescriptor "I" = some FieldType.int := ⟨rfl, by decide +kernel⟩
set_option maxRecDepth 100000 in
theorem zw4_110 : Jvm.Cond.methodLink RX9 3 objectInit ∈ zg_tb := zg_m4 (i := 110) rfl rfl
set_option maxRecDepth 100000 in
theorem zw4_111 : Jvm.Cond.fieldLink RX9 9 RX9 "text" "J" ∈ zg_tb := zg_m4 (i := 111) rfl rfl
set_option maxRecDepth 100000 in
theorem zt9_0 : TX9 0 = (RX9, "text", "J", true) ∧ parseFieldDescriptor "J" = some FieldType.long := ⟨rfl, by decide +kernel⟩
set_option maxRecDepth 100000 in
theorem zw4_115 : Jvm.Cond.fieldLink RX9 15 RX9 "next" "LUnaskedLetters$Word;" ∈ zg_tb := zg_m4 (i := 115) rfl rfl
set_option maxRecDepth 100000 in
theorem zt9_1 : TX9 1 = (RX9, "next", "LUnaskedLetters$Word;", true) ∧ parseFieldDescriptor "LUnaskedLetters$Word;" = some (FieldType.object "UnaskedLetters$Word") := ⟨rfl, by decide +kernel⟩
set_option maxRecDepth 100000 in
theorem zw4_102 : Jvm.Cond.constantLong RX10 28 (251) ∈ zg_tb := zg_m4 (i := 102) rfl rfl
set_option maxRecDepth 100000 in
theorem zw4_103 : Jvm.Cond.methodLink RX10 30 yJ9_floorMod_f86c9 ∈ zg_tb := zg_m4 (i := 103) rfl rfl
set_option maxRecDepth 100000 in
theorem zw4_105 : Jvm.Cond.code yJ9_floorMod_f86c9 prog_18_method_52_code 6 (some .long) ∈ zg_tb := zg_m4 (i := 105) rfl rfl
set_option maxRecDepth 100000 in
theorem zw4_104 : Jvm.Cond.static yJ9_floorMod_f86c9 ∈ zg_tb := zg_m4 (i := 104) rfl rfl
set_option maxRecDepth 100000 in
theorem zy_yJ9_floorMod_f86c9_S : (Jvm.Cond.static yJ9_floorMod_f86c9 ∈ zg_tb ∧ Jvm.Cond.initialized yJ9_floorMod_f86c9.cls ∈ zg_tb ∧ Jvm.Cond.code yJ9_floorMod_f86c9 prog_18_method_52_code 6 (some .long) ∈ zg_tb) ∧ zg_dm yJ9_floorMod_f86c9 2 := ⟨⟨zw4_104, zw1_15, zw4_105⟩, by decide +kernel, by decide +kernel, by decide +kernel⟩
set_option maxRecDepth 100000 in
theorem zw4_112 : Jvm.Cond.fieldLink RX10 36 RX9 "text" "J" ∈ zg_tb := zg_m4 (i := 112) rfl rfl
set_option maxRecDepth 100000 in
theorem zw4_116 : Jvm.Cond.fieldLink RX10 40 RX9 "next" "LUnaskedLetters$Word;" ∈ zg_tb := zg_m4 (i := 116) rfl rfl
set_option maxRecDepth 100000 in
theorem zw4_106 : Jvm.Cond.instantiable RX9 6 ∈ zg_tb := zg_m4 (i := 106) rfl rfl
set_option maxRecDepth 100000 in
theorem zw4_107 : Jvm.Cond.methodLink RX10 44 yX9_init ∈ zg_tb := zg_m4 (i := 107) rfl rfl
set_option maxRecDepth 100000 in
theorem zw4_109 : Jvm.Cond.code yX9_init prog_11_method_1_code 4 none ∈ zg_tb := zg_m4 (i := 109) rfl rfl
set_option maxRecDepth 100000 in
theorem zw4_108 : Jvm.Cond.instanceMethod yX9_init ∈ zg_tb := zg_m4 (i := 108) rfl rfl
set_option maxRecDepth 100000 in
theorem zy_yX9_init_I : (Jvm.Cond.instanceMethod yX9_init ∈ zg_tb ∧ Jvm.Cond.initialized yX9_init.cls ∈ zg_tb ∧ Jvm.Cond.code yX9_init prog_11_method_1_code 4 none ∈ zg_tb) ∧ zg_dm yX9_init 2 := ⟨⟨zw4_108, zw1_13, zw4_109⟩, by decide +kernel, by decide +kernel, by decide +kernel⟩
set_option maxRecDepth 100000 in
theorem zw4_118 : Jvm.Cond.fieldLink RX10 51 RX9 "seenIn" "I" ∈ zg_tb := zg_m4 (i := 118) rfl rfl
set_option maxRecDepth 100000 in
theorem zt9_3 : TX9 3 = (RX9, "seenIn", "I", false) ∧ parseFieldDescriptor "I" = some FieldType.int := ⟨rfl, by decide +kernel⟩
set_option maxRecDepth 100000 in
theorem zw1_97 : Jvm.Cond.fieldLink RX11 195 RX2 "count" "I" ∈ zg_tb := zg_m1 (i := 97) rfl rfl
set_option maxRecDepth 100000 in
theorem zw4_93 : Jvm.Cond.classLink RX11 220 "UnaskedLetters$Word" ∈ zg_tb := zg_m4 (i := 93) rfl rfl
set_option maxRecDepth 100000 in
theorem zw3_233 : Jvm.Cond.fieldLink RX11 215 RX1 "full" "[LUnaskedLetters$Word;" ∈ zg_tb := zg_m3 (i := 233) rfl rfl
set_option maxRecDepth 100000 in
theorem zt1_10 : TX1 10 = (RX1, "full", "[LUnaskedLetters$Word;", false) ∧ parseFieldDescriptor "[LUnaskedLetters$Word;" = some (FieldType.array (FieldType.object "UnaskedLetters$Word")) := ⟨rfl, by decide +kernel⟩
set_option maxRecDepth 100000 in
theorem zw3_236 : Jvm.Cond.fieldLink RX11 270 RX1 "own" "[LUnaskedLetters$Word;" ∈ zg_tb := zg_m3 (i := 236) rfl rfl
set_option maxRecDepth 100000 in
theorem zt1_11 : TX1 11 = (RX1, "own", "[LUnaskedLetters$Word;", false) ∧ parseFieldDescriptor "[LUnaskedLetters$Word;" = some (FieldType.array (FieldType.object "UnaskedLetters$Word")) := ⟨rfl, by decide +kernel⟩
set_option maxRecDepth 100000 in
theorem zw3_237 : Jvm.Cond.fieldLink RX11 283 RX1 "firstAt" "[I" ∈ zg_tb := zg_m3 (i := 237) rfl rfl
set_option maxRecDepth 100000 in
theorem zt1_12 : TX1 12 = (RX1, "firstAt", "[I", false) ∧ parseFieldDescriptor "[I" = some (FieldType.array FieldType.int) := ⟨rfl, by decide +kernel⟩
set_option maxRecDepth 100000 in
theorem zw4_94 : Jvm.Cond.methodLink RX11 401 yX10_lookAnew ∈ zg_tb := zg_m4 (i := 94) rfl rfl
set_option maxRecDepth 100000 in
theorem zw4_97 : Jvm.Cond.code yX10_lookAnew prog_12_method_3_code 1 none ∈ zg_tb := zg_m4 (i := 97) rfl rfl
set_option maxRecDepth 100000 in
theorem zw4_95 : Jvm.Cond.instanceMethod yX10_lookAnew ∈ zg_tb := zg_m4 (i := 95) rfl rfl
set_option maxRecDepth 100000 in
theorem zw4_96 : Jvm.Cond.selects RX10 yX10_lookAnew yX10_lookAnew ∈ zg_tb := zg_m4 (i := 96) rfl rfl
set_option maxRecDepth 100000 in
theorem zy_yX10_lookAnew_V : (Jvm.Cond.instanceMethod yX10_lookAnew ∈ zg_tb ∧ Jvm.Cond.selects yX10_lookAnew.cls yX10_lookAnew yX10_lookAnew ∈ zg_tb ∧ Jvm.Cond.initialized yX10_lookAnew.cls ∈ zg_tb ∧ Jvm.Cond.code yX10_lookAnew prog_12_method_3_code 1 none ∈ zg_tb) ∧ zg_dm yX10_lookAnew 0 := ⟨⟨zw4_95, zw4_96, zw1_9, zw4_97⟩, by decide +kernel, by decide +kernel, by decide +kernel⟩
set_option maxRecDepth 100000 in
theorem zw1_95 : Jvm.Cond.fieldLink RX11 191 RX2 "row" "[J" ∈ zg_tb := zg_m1 (i := 95) rfl rfl
set_option maxRecDepth 100000 in
theorem zw4_98 : Jvm.Cond.methodLink RX11 353 yX10_find ∈ zg_tb := zg_m4 (i := 98) rfl rfl
set_option maxRecDepth 100000 in
theorem zw4_101 : Jvm.Cond.code yX10_find prog_12_method_2_code 5 (some (.object "UnaskedLetters$Word")) ∈ zg_tb := zg_m4 (i := 101) rfl rfl
set_option maxRecDepth 100000 in
theorem zw4_99 : Jvm.Cond.instanceMethod yX10_find ∈ zg_tb := zg_m4 (i := 99) rfl rfl
set_option maxRecDepth 100000 in
theorem zw4_100 : Jvm.Cond.selects RX10 yX10_find yX10_find ∈ zg_tb := zg_m4 (i := 100) rfl rfl
set_option maxRecDepth 100000 in
theorem zy_yX10_find_V : (Jvm.Cond.instanceMethod yX10_find ∈ zg_tb ∧ Jvm.Cond.selects yX10_find.cls yX10_find yX10_find ∈ zg_tb ∧ Jvm.Cond.initialized yX10_find.cls ∈ zg_tb ∧ Jvm.Cond.code yX10_find prog_12_method_2_code 5 (some (.object "UnaskedLetters$Word")) ∈ zg_tb) ∧ zg_dm yX10_find 1 := ⟨⟨zw4_99, zw4_100, zw1_9, zw4_101⟩, by decide +kernel, by decide +kernel, by decide +kernel⟩
set_option maxRecDepth 100000 in
theorem zw4_134 : Jvm.Cond.methodLink RX11 404 yX10_isNew ∈ zg_tb := zg_m4 (i := 134) rfl rfl
set_option maxRecDepth 100000 in
theorem zw4_137 : Jvm.Cond.code yX10_isNew prog_12_method_4_code 2 (some .boolean) ∈ zg_tb := zg_m4 (i := 137) rfl rfl
set_option maxRecDepth 100000 in
theorem zw4_135 : Jvm.Cond.instanceMethod yX10_isNew ∈ zg_tb := zg_m4 (i := 135) rfl rfl
set_option maxRecDepth 100000 in
theorem zw4_136 : Jvm.Cond.selects RX10 yX10_isNew yX10_isNew ∈ zg_tb := zg_m4 (i := 136) rfl rfl
set_option maxRecDepth 100000 in
theorem zy_yX10_isNew_V : (Jvm.Cond.instanceMethod yX10_isNew ∈ zg_tb ∧ Jvm.Cond.selects yX10_isNew.cls yX10_isNew yX10_isNew ∈ zg_tb ∧ Jvm.Cond.initialized yX10_isNew.cls ∈ zg_tb ∧ Jvm.Cond.code yX10_isNew prog_12_method_4_code 2 (some .boolean) ∈ zg_tb) ∧ zg_dm yX10_isNew 1 := ⟨⟨zw4_135, zw4_136, zw1_9, zw4_137⟩, by decide +kernel, by decide +kernel, by decide +kernel⟩
set_option maxRecDepth 100000 in
theorem zw4_0 : Jvm.Cond.fieldLink RX11 273 RX1 "owned" "I" ∈ zg_tb := zg_m4 (i := 0) rfl rfl
set_option maxRecDepth 100000 in
theorem zt1_13 : TX1 13 = (RX1, "owned", "I", false) ∧ parseFieldDescriptor "I" = some FieldType.int := ⟨rfl, by decide +kernel⟩
set_option maxRecDepth 100000 in
theorem zw3_204 : Jvm.Cond.methodLink RX11 178 yX4_hasName ∈ zg_tb := zg_m3 (i := 204) rfl rfl
set_option maxRecDepth 100000 in
theorem zw3_207 : Jvm.Cond.code yX4_hasName prog_6_method_3_code 2 (some .boolean) ∈ zg_tb := zg_m3 (i := 207) rfl rfl
set_option maxRecDepth 100000 in
theorem zw3_205 : Jvm.Cond.instanceMethod yX4_hasName ∈ zg_tb := zg_m3 (i := 205) rfl rfl
set_option maxRecDepth 100000 in
theorem zw3_206 : Jvm.Cond.selects RX4 yX4_hasName yX4_hasName ∈ zg_tb := zg_m3 (i := 206) rfl rfl
set_option maxRecDepth 100000 in
theorem zy_yX4_hasName_V : (Jvm.Cond.instanceMethod yX4_hasName ∈ zg_tb ∧ Jvm.Cond.selects yX4_hasName.cls yX4_hasName yX4_hasName ∈ zg_tb ∧ Jvm.Cond.initialized yX4_hasName.cls ∈ zg_tb ∧ Jvm.Cond.code yX4_hasName prog_6_method_3_code 2 (some .boolean) ∈ zg_tb) ∧ zg_dm yX4_hasName 1 := ⟨⟨zw3_205, zw3_206, zw1_2, zw3_207⟩, by decide +kernel, by decide +kernel, by decide +kernel⟩
set_option maxRecDepth 100000 in
theorem zw3_208 : Jvm.Cond.instantiable RX1 17 ∈ zg_tb := zg_m3 (i := 208) rfl rfl
set_option maxRecDepth 100000 in
theorem zw1_21 : Jvm.Cond.initialized RX1 ∈ zg_tb := zg_m1 (i := 21) rfl rfl
set_option maxRecDepth 100000 in
theorem zw3_209 : Jvm.Cond.methodLink RX11 184 yX1_init ∈ zg_tb := zg_m3 (i := 209) rfl rfl
set_option maxRecDepth 100000 in
theorem zw3_211 : Jvm.Cond.code yX1_init prog_3_method_1_code 6 none ∈ zg_tb := zg_m3 (i := 211) rfl rfl
set_option maxRecDepth 100000 in
theorem zw3_210 : Jvm.Cond.instanceMethod yX1_init ∈ zg_tb := zg_m3 (i := 210) rfl rfl
set_option maxRecDepth 100000 in
theorem zy_yX1_init_I : (Jvm.Cond.instanceMethod yX1_init ∈ zg_tb ∧ Jvm.Cond.initialized yX1_init.cls ∈ zg_tb ∧ Jvm.Cond.code yX1_init prog_3_method_1_code 6 none ∈ zg_tb) ∧ zg_dm yX1_init 5 := ⟨⟨zw3_210, zw1_21, zw3_211⟩, by decide +kernel, by decide +kernel, by decide +kernel⟩
set_option maxRecDepth 100000 in
theorem zw4_42 : Jvm.Cond.methodLink RX11 187 yX2_see ∈ zg_tb := zg_m4 (i := 42) rfl rfl
set_option maxRecDepth 100000 in
theorem zw4_45 : Jvm.Cond.code yX2_see prog_4_method_4_code 7 none ∈ zg_tb := zg_m4 (i := 45) rfl rfl
set_option maxRecDepth 100000 in
theorem zw4_43 : Jvm.Cond.instanceMethod yX2_see ∈ zg_tb := zg_m4 (i := 43) rfl rfl
set_option maxRecDepth 100000 in
theorem zw4_44 : Jvm.Cond.selects RX2 yX2_see yX2_see ∈ zg_tb := zg_m4 (i := 44) rfl rfl
set_option maxRecDepth 100000 in
theorem zy_yX2_see_V : (Jvm.Cond.instanceMethod yX2_see ∈ zg_tb ∧ Jvm.Cond.selects yX2_see.cls yX2_see yX2_see ∈ zg_tb ∧ Jvm.Cond.initialized yX2_see.cls ∈ zg_tb ∧ Jvm.Cond.code yX2_see prog_4_method_4_code 7 none ∈ zg_tb) ∧ zg_dm yX2_see 2 := ⟨⟨zw4_43, zw4_44, zw1_4, zw4_45⟩, by decide +kernel, by decide +kernel, by decide +kernel⟩
set_option maxRecDepth 100000 in
theorem zw4_81 : Jvm.Cond.methodLink RX11 198 yJ7_copyOf_c38d5 ∈ zg_tb := zg_m4 (i := 81) rfl rfl
set_option maxRecDepth 100000 in
theorem zw4_83 : Jvm.Cond.code yJ7_copyOf_c38d5 prog_23_method_124_code 3 (some (.array .long)) ∈ zg_tb := zg_m4 (i := 83) rfl rfl
set_option maxRecDepth 100000 in
theorem zw4_82 : Jvm.Cond.static yJ7_copyOf_c38d5 ∈ zg_tb := zg_m4 (i := 82) rfl rfl
set_option maxRecDepth 100000 in
theorem zy_yJ7_copyOf_c38d5_S : (Jvm.Cond.static yJ7_copyOf_c38d5 ∈ zg_tb ∧ Jvm.Cond.initialized yJ7_copyOf_c38d5.cls ∈ zg_tb ∧ Jvm.Cond.code yJ7_copyOf_c38d5 prog_23_method_124_code 3 (some (.array .long)) ∈ zg_tb) ∧ zg_dm yJ7_copyOf_c38d5 2 := ⟨⟨zw4_82, zw1_19, zw4_83⟩, by decide +kernel, by decide +kernel, by decide +kernel⟩
set_option maxRecDepth 100000 in
theorem zw3_231 : Jvm.Cond.fieldLink RX11 204 RX1 "plain" "[J" ∈ zg_tb := zg_m3 (i := 231) rfl rfl
set_option maxRecDepth 100000 in
theorem zt1_9 : TX1 9 = (RX1, "plain", "[J", false) ∧ parseFieldDescriptor "[J" = some (FieldType.array FieldType.long) := ⟨rfl, by decide +kernel⟩
set_option maxRecDepth 100000 in
theorem zw4_89 : Jvm.Cond.methodLink RX11 207 yX11_takeWords ∈ zg_tb := zg_m4 (i := 89) rfl rfl
set_option maxRecDepth 100000 in
theorem zw4_92 : Jvm.Cond.code yX11_takeWords prog_1_method_46_code 5 none ∈ zg_tb := zg_m4 (i := 92) rfl rfl
set_option maxRecDepth 100000 in
theorem zw4_91 : Jvm.Cond.instanceMethod yX11_takeWords ∈ zg_tb := zg_m4 (i := 91) rfl rfl
set_option maxRecDepth 100000 in
theorem zs_yX11_takeWords : Jvm.Cond.selects RX11 yX11_takeWords yX11_takeWords ∈ zg_tb := zg_mp (y := yX11_takeWords) (n := 17) (zw_privs_2 (List.mem_of_getElem? (i := 4) (by decide +kernel))) rfl
set_option maxRecDepth 100000 in
theorem zy_yX11_takeWords_V : (Jvm.Cond.instanceMethod yX11_takeWords ∈ zg_tb ∧ Jvm.Cond.selects yX11_takeWords.cls yX11_takeWords yX11_takeWords ∈ zg_tb ∧ Jvm.Cond.initialized yX11_takeWords.cls ∈ zg_tb ∧ Jvm.Cond.code yX11_takeWords prog_1_method_46_code 5 none ∈ zg_tb) ∧ zg_dm yX11_takeWords 1 := ⟨⟨zw4_91, zs_yX11_takeWords, zw1_1, zw4_92⟩, by decide +kernel, by decide +kernel, by decide +kernel⟩
set_option maxRecDepth 100000 in
theorem zw7_72 : Jvm.Cond.constantLong RX12 344 (37) ∈ zg_tb := zg_m7 (i := 72) rfl rfl
set_option maxRecDepth 100000 in
theorem zw7_73 : Jvm.Cond.methodLink RX12 346 yX12_codeOf ∈ zg_tb := zg_m7 (i := 73) rfl rfl
set_option maxRecDepth 100000 in
theorem zw7_75 : Jvm.Cond.code yX12_codeOf prog_14_method_53_code 1 (some .int) ∈ zg_tb := zg_m7 (i := 75) rfl rfl
set_option maxRecDepth 100000 in
theorem zw7_74 : Jvm.Cond.static yX12_codeOf ∈ zg_tb := zg_m7 (i := 74) rfl rfl
set_option maxRecDepth 100000 in
theorem zy_yX12_codeOf_S : (Jvm.Cond.static yX12_codeOf ∈ zg_tb ∧ Jvm.Cond.initialized yX12_codeOf.cls ∈ zg_tb ∧ Jvm.Cond.code yX12_codeOf prog_14_method_53_code 1 (some .int) ∈ zg_tb) ∧ zg_dm yX12_codeOf 1 := ⟨⟨zw7_74, zw1_12, zw7_75⟩, by decide +kernel, by decide +kernel, by decide +kernel⟩
set_option maxRecDepth 100000 in
theorem zw6_160 : Jvm.Cond.methodLink RX12 174 yX12_isName ∈ zg_tb := zg_m6 (i := 160) rfl rfl
set_option maxRecDepth 100000 in
theorem zw6_163 : Jvm.Cond.code yX12_isName prog_14_method_5_code 2 (some .boolean) ∈ zg_tb := zg_m6 (i := 163) rfl rfl
set_option maxRecDepth 100000 in
theorem zw6_162 : Jvm.Cond.instanceMethod yX12_isName ∈ zg_tb := zg_m6 (i := 162) rfl rfl
set_option maxRecDepth 100000 in
theorem zs_yX12_isName : Jvm.Cond.selects RX12 yX12_isName yX12_isName ∈ zg_tb := zg_mp (y := yX12_isName) (n := 71) (zw_privs_3 (List.mem_of_getElem? (i := 9) (by decide +kernel))) rfl
set_option maxRecDepth 100000 in
theorem zy_yX12_isName_V : (Jvm.Cond.instanceMethod yX12_isName ∈ zg_tb ∧ Jvm.Cond.selects yX12_isName.cls yX12_isName yX12_isName ∈ zg_tb ∧ Jvm.Cond.initialized yX12_isName.cls ∈ zg_tb ∧ Jvm.Cond.code yX12_isName prog_14_method_5_code 2 (some .boolean) ∈ zg_tb) ∧ zg_dm yX12_isName 1 := ⟨⟨zw6_162, zs_yX12_isName, zw1_12, zw6_163⟩, by decide +kernel, by decide +kernel, by decide +kernel⟩
set_option maxRecDepth 100000 in
theorem zw7_69 : Jvm.Cond.methodLink RX12 349 yX12_cutUp ∈ zg_tb := zg_m7 (i := 69) rfl rfl
set_option maxRecDepth 100000 in
theorem zw7_71 : Jvm.Cond.code yX12_cutUp prog_14_method_54_code 7 (some .int) ∈ zg_tb := zg_m7 (i := 71) rfl rfl
set_option maxRecDepth 100000 in
theorem zw7_70 : Jvm.Cond.static yX12_cutUp ∈ zg_tb := zg_m7 (i := 70) rfl rfl
set_option maxRecDepth 100000 in
theorem zy_yX12_cutUp_S : (Jvm.Cond.static yX12_cutUp ∈ zg_tb ∧ Jvm.Cond.initialized yX12_cutUp.cls ∈ zg_tb ∧ Jvm.Cond.code yX12_cutUp prog_14_method_54_code 7 (some .int) ∈ zg_tb) ∧ zg_dm yX12_cutUp 4 := ⟨⟨zw7_70, zw1_12, zw7_71⟩, by decide +kernel, by decide +kernel, by decide +kernel⟩
set_option maxRecDepth 100000 in
theorem zw4_142 : Jvm.Cond.methodLink RX11 211 yX11_letterAt ∈ zg_tb := zg_m4 (i := 142) rfl rfl
set_option maxRecDepth 100000 in
theorem zw4_145 : Jvm.Cond.code yX11_letterAt prog_1_method_42_code 2 (some (.object "UnaskedLetters$Letter")) ∈ zg_tb := zg_m4 (i := 145) rfl rfl
set_option maxRecDepth 100000 in
theorem zw4_144 : Jvm.Cond.instanceMethod yX11_letterAt ∈ zg_tb := zg_m4 (i := 144) rfl rfl
set_option maxRecDepth 100000 in
theorem zs_yX11_letterAt : Jvm.Cond.selects RX11 yX11_letterAt yX11_letterAt ∈ zg_tb := zg_mp (y := yX11_letterAt) (n := 17) (zw_privs_2 (List.mem_of_getElem? (i := 5) (by decide +kernel))) rfl
set_option maxRecDepth 100000 in
theorem zy_yX11_letterAt_V : (Jvm.Cond.instanceMethod yX11_letterAt ∈ zg_tb ∧ Jvm.Cond.selects yX11_letterAt.cls yX11_letterAt yX11_letterAt ∈ zg_tb ∧ Jvm.Cond.initialized yX11_letterAt.cls ∈ zg_tb ∧ Jvm.Cond.code yX11_letterAt prog_1_method_42_code 2 (some (.object "UnaskedLetters$Letter")) ∈ zg_tb) ∧ zg_dm yX11_letterAt 1 := ⟨⟨zw4_144, zs_yX11_letterAt, zw1_1, zw4_145⟩, by decide +kernel, by decide +kernel, by decide +kernel⟩
set_option maxRecDepth 100000 in
theorem zw7_80 : Jvm.Cond.methodLink RX12 353 yX12_isLetter ∈ zg_tb := zg_m7 (i := 80) rfl rfl
set_option maxRecDepth 100000 in
theorem zw7_83 : Jvm.Cond.code yX12_isLetter prog_14_method_52_code 2 (some .boolean) ∈ zg_tb := zg_m7 (i := 83) rfl rfl
set_option maxRecDepth 100000 in
theorem zw7_82 : Jvm.Cond.instanceMethod yX12_isLetter ∈ zg_tb := zg_m7 (i := 82) rfl rfl
set_option maxRecDepth 100000 in
theorem zs_yX12_isLetter : Jvm.Cond.selects RX12 yX12_isLetter yX12_isLetter ∈ zg_tb := zg_mp (y := yX12_isLetter) (n := 71) (zw_privs_5 (List.mem_of_getElem? (i := 3) (by decide +kernel))) rfl
set_option maxRecDepth 100000 in
theorem zy_yX12_isLetter_V : (Jvm.Cond.instanceMethod yX12_isLetter ∈ zg_tb ∧ Jvm.Cond.selects yX12_isLetter.cls yX12_isLetter yX12_isLetter ∈ zg_tb ∧ Jvm.Cond.initialized yX12_isLetter.cls ∈ zg_tb ∧ Jvm.Cond.code yX12_isLetter prog_14_method_52_code 2 (some .boolean) ∈ zg_tb) ∧ zg_dm yX12_isLetter 1 := ⟨⟨zw7_82, zs_yX12_isLetter, zw1_12, zw7_83⟩, by decide +kernel, by decide +kernel, by decide +kernel⟩
set_option maxRecDepth 100000 in
theorem zw4_150 : Jvm.Cond.methodLink RX11 219 yX9_byteOf ∈ zg_tb := zg_m4 (i := 150) rfl rfl
set_option maxRecDepth 100000 in
theorem zw4_152 : Jvm.Cond.code yX9_byteOf prog_11_method_5_code 7 (some .int) ∈ zg_tb := zg_m4 (i := 152) rfl rfl
set_option maxRecDepth 100000 in
theorem zw4_151 : Jvm.Cond.static yX9_byteOf ∈ zg_tb := zg_m4 (i := 151) rfl rfl
set_option maxRecDepth 100000 in
theorem zy_yX9_byteOf_S : (Jvm.Cond.static yX9_byteOf ∈ zg_tb ∧ Jvm.Cond.initialized yX9_byteOf.cls ∈ zg_tb ∧ Jvm.Cond.code yX9_byteOf prog_11_method_5_code 7 (some .int) ∈ zg_tb) ∧ zg_dm yX9_byteOf 2 := ⟨⟨zw4_151, zw1_13, zw4_152⟩, by decide +kernel, by decide +kernel, by decide +kernel⟩
set_option maxRecDepth 100000 in
theorem zw4_114 : Jvm.Cond.fieldLink RX11 225 RX9 "text" "J" ∈ zg_tb := zg_m4 (i := 114) rfl rfl
set_option maxRecDepth 100000 in
theorem zw7_88 : Jvm.Cond.methodLink RX12 356 yX12_words ∈ zg_tb := zg_m7 (i := 88) rfl rfl
set_option maxRecDepth 100000 in
theorem zw7_79 : Jvm.Cond.code yX12_words prog_14_method_56_code 3 (some .int) ∈ zg_tb := zg_m7 (i := 79) rfl rfl
set_option maxRecDepth 100000 in
theorem zw7_77 : Jvm.Cond.instanceMethod yX12_words ∈ zg_tb := zg_m7 (i := 77) rfl rfl
set_option maxRecDepth 100000 in
theorem zw7_78 : Jvm.Cond.selects RX12 yX12_words yX12_words ∈ zg_tb := zg_m7 (i := 78) rfl rfl
set_option maxRecDepth 100000 in
theorem zy_yX12_words_V : (Jvm.Cond.instanceMethod yX12_words ∈ zg_tb ∧ Jvm.Cond.selects yX12_words.cls yX12_words yX12_words ∈ zg_tb ∧ Jvm.Cond.initialized yX12_words.cls ∈ zg_tb ∧ Jvm.Cond.code yX12_words prog_14_method_56_code 3 (some .int) ∈ zg_tb) ∧ zg_dm yX12_words 2 := ⟨⟨zw7_77, zw7_78, zw1_12, zw7_79⟩, by decide +kernel, by decide +kernel, by decide +kernel⟩
set_option maxRecDepth 100000 in
theorem zw7_89 : Jvm.Cond.methodLink RX12 360 yX12_wordAt ∈ zg_tb := zg_m7 (i := 89) rfl rfl
set_option maxRecDepth 100000 in
theorem zw7_92 : Jvm.Cond.code yX12_wordAt prog_14_method_57_code 4 (some .long) ∈ zg_tb := zg_m7 (i := 92) rfl rfl
set_option maxRecDepth 100000 in
theorem zw7_91 : Jvm.Cond.instanceMethod yX12_wordAt ∈ zg_tb := zg_m7 (i := 91) rfl rfl
set_option maxRecDepth 100000 in
theorem zs_yX12_wordAt : Jvm.Cond.selects RX12 yX12_wordAt yX12_wordAt ∈ zg_tb := zg_mp (y := yX12_wordAt) (n := 71) (zw_privs_5 (List.mem_of_getElem? (i := 4) (by decide +kernel))) rfl
set_option maxRecDepth 100000 in
theorem zy_yX12_wordAt_V : (Jvm.Cond.instanceMethod yX12_wordAt ∈ zg_tb ∧ Jvm.Cond.selects yX12_wordAt.cls yX12_wordAt yX12_wordAt ∈ zg_tb ∧ Jvm.Cond.initialized yX12_wordAt.cls ∈ zg_tb ∧ Jvm.Cond.code yX12_wordAt prog_14_method_57_code 4 (some .long) ∈ zg_tb) ∧ zg_dm yX12_wordAt 3 := ⟨⟨zw7_91, zs_yX12_wordAt, zw1_12, zw7_92⟩, by decide +kernel, by decide +kernel, by decide +kernel⟩
set_option maxRecDepth 100000 in
theorem zw3_224 : Jvm.Cond.fieldLink RX11 235 RX1 "state" "I" ∈ zg_tb := zg_m3 (i := 224) rfl rfl
set_option maxRecDepth 100000 in
theorem zw3_226 : Jvm.Cond.fieldLink RX11 238 RX1 "tries" "I" ∈ zg_tb := zg_m3 (i := 226) rfl rfl
set_option maxRecDepth 100000 in
theorem zt1_6 : TX1 6 = (RX1, "tries", "I", false) ∧ parseFieldDescriptor "I" = some FieldType.int := ⟨rfl, by decide +kernel⟩
set_option maxRecDepth 100000 in
theorem zw3_228 : Jvm.Cond.fieldLink RX11 241 RX1 "due" "I" ∈ zg_tb := zg_m3 (i := 228) rfl rfl
set_option maxRecDepth 100000 in
theorem zw3_230 : Jvm.Cond.fieldLink RX11 253 RX1 "clause" "I" ∈ zg_tb := zg_m3 (i := 230) rfl rfl
set_option maxRecDepth 100000 in
theorem zw2_37 : Jvm.Cond.fieldLink RX7 16 RX7 "lesson" "I" ∈ zg_tb := zg_m2 (i := 37) rfl rfl
set_option maxRecDepth 100000 in
theorem zt7_3 : TX7 3 = (RX7, "lesson", "I", false) ∧ parseFieldDescriptor "I" = some FieldType.int := ⟨rfl, by decide +kernel⟩
set_option maxRecDepth 100000 in
theorem zw2_38 : Jvm.Cond.fieldLink RX7 20 RX7 "goods" "I" ∈ zg_tb := zg_m2 (i := 38) rfl rfl
set_option maxRecDepth 100000 in
theorem zt7_4 : TX7 4 = (RX7, "goods", "I", false) ∧ parseFieldDescriptor "I" = some FieldType.int := ⟨rfl, by decide +kernel⟩
set_option maxRecDepth 100000 in
theorem zw2_39 : Jvm.Cond.fieldLink RX7 23 RX7 "bads" "I" ∈ zg_tb := zg_m2 (i := 39) rfl rfl
set_option maxRecDepth 100000 in
theorem zt7_5 : TX7 5 = (RX7, "bads", "I", false) ∧ parseFieldDescriptor "I" = some FieldType.int := ⟨rfl, by decide +kernel⟩
set_option maxRecDepth 100000 in
theorem zw3_238 : Jvm.Cond.fieldLink RX7 26 RX1 "owned" "I" ∈ zg_tb := zg_m3 (i := 238) rfl rfl
set_option maxRecDepth 100000 in
theorem zw3_234 : Jvm.Cond.fieldLink RX7 31 RX1 "own" "[LUnaskedLetters$Word;" ∈ zg_tb := zg_m3 (i := 234) rfl rfl
set_option maxRecDepth 100000 in
theorem zw4_117 : Jvm.Cond.fieldLink RX7 35 RX9 "learntIn" "I" ∈ zg_tb := zg_m4 (i := 117) rfl rfl
set_option maxRecDepth 100000 in
theorem zt9_2 : TX9 2 = (RX9, "learntIn", "I", false) ∧ parseFieldDescriptor "I" = some FieldType.int := ⟨rfl, by decide +kernel⟩
set_option maxRecDepth 100000 in
theorem zw4_119 : Jvm.Cond.fieldLink RX7 40 RX9 "good" "I" ∈ zg_tb := zg_m4 (i := 119) rfl rfl
set_option maxRecDepth 100000 in
theorem zt9_4 : TX9 4 = (RX9, "good", "I", false) ∧ parseFieldDescriptor "I" = some FieldType.int := ⟨rfl, by decide +kernel⟩
set_option maxRecDepth 100000 in
theorem zw4_120 : Jvm.Cond.fieldLink RX7 43 RX9 "bad" "I" ∈ zg_tb := zg_m4 (i := 120) rfl rfl
set_option maxRecDepth 100000 in
theorem zt9_5 : TX9 5 = (RX9, "bad", "I", false) ∧ parseFieldDescriptor "I" = some FieldType.int := ⟨rfl, by decide +kernel⟩
set_option maxRecDepth 100000 in
theorem zw4_177 : Jvm.Cond.methodLink RX11 457 yX7_forget ∈ zg_tb := zg_m4 (i := 177) rfl rfl
set_option maxRecDepth 100000 in
theorem zw4_180 : Jvm.Cond.code yX7_forget prog_9_method_2_code 1 none ∈ zg_tb := zg_m4 (i := 180) rfl rfl
set_option maxRecDepth 100000 in
theorem zw4_178 : Jvm.Cond.instanceMethod yX7_forget ∈ zg_tb := zg_m4 (i := 178) rfl rfl
set_option maxRecDepth 100000 in
theorem zw4_179 : Jvm.Cond.selects RX7 yX7_forget yX7_forget ∈ zg_tb := zg_m4 (i := 179) rfl rfl
set_option maxRecDepth 100000 in
theorem zy_yX7_forget_V : (Jvm.Cond.instanceMethod yX7_forget ∈ zg_tb ∧ Jvm.Cond.selects yX7_forget.cls yX7_forget yX7_forget ∈ zg_tb ∧ Jvm.Cond.initialized yX7_forget.cls ∈ zg_tb ∧ Jvm.Cond.code yX7_forget prog_9_method_2_code 1 none ∈ zg_tb) ∧ zg_dm yX7_forget 0 := ⟨⟨zw4_178, zw4_179, zw1_11, zw4_180⟩, by decide +kernel, by decide +kernel, by decide +kernel⟩
set_option maxRecDepth 100000 in
theorem zw4_181 : Jvm.Cond.methodLink RX11 460 yX7_learn ∈ zg_tb := zg_m4 (i := 181) rfl rfl
set_option maxRecDepth 100000 in
theorem zw4_184 : Jvm.Cond.code yX7_learn prog_9_method_3_code 5 none ∈ zg_tb := zg_m4 (i := 184) rfl rfl
set_option maxRecDepth 100000 in
theorem zw4_182 : Jvm.Cond.instanceMethod yX7_learn ∈ zg_tb := zg_m4 (i := 182) rfl rfl
set_option maxRecDepth 100000 in
theorem zw4_183 : Jvm.Cond.selects RX7 yX7_learn yX7_learn ∈ zg_tb := zg_m4 (i := 183) rfl rfl
set_option maxRecDepth 100000 in
theorem zy_yX7_learn_V : (Jvm.Cond.instanceMethod yX7_learn ∈ zg_tb ∧ Jvm.Cond.selects yX7_learn.cls yX7_learn yX7_learn ∈ zg_tb ∧ Jvm.Cond.initialized yX7_learn.cls ∈ zg_tb ∧ Jvm.Cond.code yX7_learn prog_9_method_3_code 5 none ∈ zg_tb) ∧ zg_dm yX7_learn 2 := ⟨⟨zw4_182, zw4_183, zw1_11, zw4_184⟩, by decide +kernel, by decide +kernel, by decide +kernel⟩
set_option maxRecDepth 100000 in
theorem zw4_173 : Jvm.Cond.methodLink RX11 292 yX11_learnMarked ∈ zg_tb := zg_m4 (i := 173) rfl rfl
set_option maxRecDepth 100000 in
theorem zw4_176 : Jvm.Cond.code yX11_learnMarked prog_1_method_55_code 2 none ∈ zg_tb := zg_m4 (i := 176) rfl rfl
set_option maxRecDepth 100000 in
theorem zw4_175 : Jvm.Cond.instanceMethod yX11_learnMarked ∈ zg_tb := zg_m4 (i := 175) rfl rfl
set_option maxRecDepth 100000 in
theorem zs_yX11_learnMarked : Jvm.Cond.selects RX11 yX11_learnMarked yX11_learnMarked ∈ zg_tb := zg_mp (y := yX11_learnMarked) (n := 17) (zw_privs_2 (List.mem_of_getElem? (i := 7) (by decide +kernel))) rfl
set_option maxRecDepth 100000 in
theorem zy_yX11_learnMarked_V : (Jvm.Cond.instanceMethod yX11_learnMarked ∈ zg_tb ∧ Jvm.Cond.selects yX11_learnMarked.cls yX11_learnMarked yX11_learnMarked ∈ zg_tb ∧ Jvm.Cond.initialized yX11_learnMarked.cls ∈ zg_tb ∧ Jvm.Cond.code yX11_learnMarked prog_1_method_55_code 2 none ∈ zg_tb) ∧ zg_dm yX11_learnMarked 0 := ⟨⟨zw4_175, zs_yX11_learnMarked, zw1_1, zw4_176⟩, by decide +kernel, by decide +kernel, by decide +kernel⟩
set_option maxRecDepth 100000 in
theorem zw3_225 : Jvm.Cond.fieldLink RX1 44 RX1 "tries" "I" ∈ zg_tb := zg_m3 (i := 225) rfl rfl
set_option maxRecDepth 100000 in
theorem zw4_193 : Jvm.Cond.methodLink RX1 47 yX1_settle ∈ zg_tb := zg_m4 (i := 193) rfl rfl
set_option maxRecDepth 100000 in
theorem zw4_196 : Jvm.Cond.code yX1_settle prog_3_method_2_code 2 none ∈ zg_tb := zg_m4 (i := 196) rfl rfl
set_option maxRecDepth 100000 in
theorem zw4_194 : Jvm.Cond.instanceMethod yX1_settle ∈ zg_tb := zg_m4 (i := 194) rfl rfl
set_option maxRecDepth 100000 in
theorem zw4_195 : Jvm.Cond.selects RX1 yX1_settle yX1_settle ∈ zg_tb := zg_m4 (i := 195) rfl rfl
set_option maxRecDepth 100000 in
theorem zy_yX1_settle_V : (Jvm.Cond.instanceMethod yX1_settle ∈ zg_tb ∧ Jvm.Cond.selects yX1_settle.cls yX1_settle yX1_settle ∈ zg_tb ∧ Jvm.Cond.initialized yX1_settle.cls ∈ zg_tb ∧ Jvm.Cond.code yX1_settle prog_3_method_2_code 2 none ∈ zg_tb) ∧ zg_dm yX1_settle 1 := ⟨⟨zw4_194, zw4_195, zw1_21, zw4_196⟩, by decide +kernel, by decide +kernel, by decide +kernel⟩
set_option maxRecDepth 100000 in
theorem zw2_35 : Jvm.Cond.fieldLink RX7 46 RX7 "picks" "I" ∈ zg_tb := zg_m2 (i := 35) rfl rfl
set_option maxRecDepth 100000 in
theorem zt7_2 : TX7 2 = (RX7, "picks", "I", false) ∧ parseFieldDescriptor "I" = some FieldType.int := ⟨rfl, by decide +kernel⟩
set_option maxRecDepth 100000 in
theorem zw4_218 : Jvm.Cond.methodLink RX7 57 Lib.Math.abs.name ∈ zg_tb := zg_m4 (i := 218) rfl rfl
set_option maxRecDepth 100000 in
theorem zw4_219 : Jvm.Cond.static Lib.Math.abs.name ∈ zg_tb := zg_m4 (i := 219) rfl rfl
set_option maxRecDepth 100000 in
theorem zw4_220 : Jvm.Cond.code Lib.Math.abs.name Lib.Math.abs.code 1 (some .int) ∈ zg_tb := zg_m4 (i := 220) rfl rfl
set_option maxRecDepth 100000 in
theorem zw4_221 : Jvm.Cond.methodLink RX7 63 Lib.Math.min.name ∈ zg_tb := zg_m4 (i := 221) rfl rfl
set_option maxRecDepth 100000 in
theorem zw4_210 : Jvm.Cond.methodLink RX7 49 yX7_worthOf ∈ zg_tb := zg_m4 (i := 210) rfl rfl
set_option maxRecDepth 100000 in
theorem zw4_213 : Jvm.Cond.code yX7_worthOf prog_9_method_5_code 4 (some .int) ∈ zg_tb := zg_m4 (i := 213) rfl rfl
set_option maxRecDepth 100000 in
theorem zw4_212 : Jvm.Cond.instanceMethod yX7_worthOf ∈ zg_tb := zg_m4 (i := 212) rfl rfl
set_option maxRecDepth 100000 in
theorem zs_yX7_worthOf : Jvm.Cond.selects RX7 yX7_worthOf yX7_worthOf ∈ zg_tb := zg_mp (y := yX7_worthOf) (n := 6) (zw_privs_2 (List.mem_of_getElem? (i := 11) (by decide +kernel))) rfl
set_option maxRecDepth 100000 in
theorem zy_yX7_worthOf_V : (Jvm.Cond.instanceMethod yX7_worthOf ∈ zg_tb ∧ Jvm.Cond.selects yX7_worthOf.cls yX7_worthOf yX7_worthOf ∈ zg_tb ∧ Jvm.Cond.initialized yX7_worthOf.cls ∈ zg_tb ∧ Jvm.Cond.code yX7_worthOf prog_9_method_5_code 4 (some .int) ∈ zg_tb) ∧ zg_dm yX7_worthOf 1 := ⟨⟨zw4_212, zs_yX7_worthOf, zw1_11, zw4_213⟩, by decide +kernel, by decide +kernel, by decide +kernel⟩
set_option maxRecDepth 100000 in
theorem zw4_214 : Jvm.Cond.methodLink RX7 53 yX7_pick ∈ zg_tb := zg_m4 (i := 214) rfl rfl
set_option maxRecDepth 100000 in
theorem zw4_217 : Jvm.Cond.code yX7_pick prog_9_method_6_code 5 none ∈ zg_tb := zg_m4 (i := 217) rfl rfl
set_option maxRecDepth 100000 in
theorem zw4_216 : Jvm.Cond.instanceMethod yX7_pick ∈ zg_tb := zg_m4 (i := 216) rfl rfl
set_option maxRecDepth 100000 in
theorem zs_yX7_pick : Jvm.Cond.selects RX7 yX7_pick yX7_pick ∈ zg_tb := zg_mp (y := yX7_pick) (n := 6) (zw_privs_2 (List.mem_of_getElem? (i := 12) (by decide +kernel))) rfl
set_option maxRecDepth 100000 in
theorem zy_yX7_pick_V : (Jvm.Cond.instanceMethod yX7_pick ∈ zg_tb ∧ Jvm.Cond.selects yX7_pick.cls yX7_pick yX7_pick ∈ zg_tb ∧ Jvm.Cond.initialized yX7_pick.cls ∈ zg_tb ∧ Jvm.Cond.code yX7_pick prog_9_method_6_code 5 none ∈ zg_tb) ∧ zg_dm yX7_pick 2 := ⟨⟨zw4_216, zs_yX7_pick, zw1_11, zw4_217⟩, by decide +kernel, by decide +kernel, by decide +kernel⟩
set_option maxRecDepth 100000 in
theorem zw4_206 : Jvm.Cond.methodLink RX11 276 yX7_weigh ∈ zg_tb := zg_m4 (i := 206) rfl rfl
set_option maxRecDepth 100000 in
theorem zw4_209 : Jvm.Cond.code yX7_weigh prog_9_method_4_code 5 (some .int) ∈ zg_tb := zg_m4 (i := 209) rfl rfl
set_option maxRecDepth 100000 in
theorem zw4_207 : Jvm.Cond.instanceMethod yX7_weigh ∈ zg_tb := zg_m4 (i := 207) rfl rfl
set_option maxRecDepth 100000 in
theorem zw4_208 : Jvm.Cond.selects RX7 yX7_weigh yX7_weigh ∈ zg_tb := zg_m4 (i := 208) rfl rfl
set_option maxRecDepth 100000 in
theorem zy_yX7_weigh_V : (Jvm.Cond.instanceMethod yX7_weigh ∈ zg_tb ∧ Jvm.Cond.selects yX7_weigh.cls yX7_weigh yX7_weigh ∈ zg_tb ∧ Jvm.Cond.initialized yX7_weigh.cls ∈ zg_tb ∧ Jvm.Cond.code yX7_weigh prog_9_method_4_code 5 (some .int) ∈ zg_tb) ∧ zg_dm yX7_weigh 2 := ⟨⟨zw4_207, zw4_208, zw1_11, zw4_209⟩, by decide +kernel, by decide +kernel, by decide +kernel⟩
set_option maxRecDepth 100000 in
theorem zw3_218 : Jvm.Cond.fieldLink RX11 443 RX1 "signed" "Z" ∈ zg_tb := zg_m3 (i := 218) rfl rfl
set_option maxRecDepth 100000 in
theorem zw3_220 : Jvm.Cond.fieldLink RX11 447 RX1 "stamp" "I" ∈ zg_tb := zg_m3 (i := 220) rfl rfl
set_option maxRecDepth 100000 in
theorem zw4_222 : Jvm.Cond.methodLink RX11 325 yX11_isAsked ∈ zg_tb := zg_m4 (i := 222) rfl rfl
set_option maxRecDepth 100000 in
theorem zw4_225 : Jvm.Cond.code yX11_isAsked prog_1_method_47_code 4 (some .boolean) ∈ zg_tb := zg_m4 (i := 225) rfl rfl
set_option maxRecDepth 100000 in
theorem zw4_224 : Jvm.Cond.instanceMethod yX11_isAsked ∈ zg_tb := zg_m4 (i := 224) rfl rfl
set_option maxRecDepth 100000 in
theorem zs_yX11_isAsked : Jvm.Cond.selects RX11 yX11_isAsked yX11_isAsked ∈ zg_tb := zg_mp (y := yX11_isAsked) (n := 17) (zw_privs_2 (List.mem_of_getElem? (i := 13) (by decide +kernel))) rfl
set_option maxRecDepth 100000 in
theorem zy_yX11_isAsked_V : (Jvm.Cond.instanceMethod yX11_isAsked ∈ zg_tb ∧ Jvm.Cond.selects yX11_isAsked.cls yX11_isAsked yX11_isAsked ∈ zg_tb ∧ Jvm.Cond.initialized yX11_isAsked.cls ∈ zg_tb ∧ Jvm.Cond.code yX11_isAsked prog_1_method_47_code 4 (some .boolean) ∈ zg_tb) ∧ zg_dm yX11_isAsked 1 := ⟨⟨zw4_224, zs_yX11_isAsked, zw1_1, zw4_225⟩, by decide +kernel, by decide +kernel, by decide +kernel⟩
set_option maxRecDepth 100000 in
theorem zw4_197 : Jvm.Cond.methodLink RX11 415 yX1_settle ∈ zg_tb := zg_m4 (i := 197) rfl rfl
set_option maxRecDepth 100000 in
theorem zw1_152 : Jvm.Cond.fieldLink RX11 432 RX0 "worth" "I" ∈ zg_tb := zg_m1 (i := 152) rfl rfl
set_option maxRecDepth 100000 in
theorem zw4_189 : Jvm.Cond.methodLink RX11 408 yX1_delay ∈ zg_tb := zg_m4 (i := 189) rfl rfl
set_option maxRecDepth 100000 in
theorem zw4_192 : Jvm.Cond.code yX1_delay prog_3_method_3_code 3 none ∈ zg_tb := zg_m4 (i := 192) rfl rfl
set_option maxRecDepth 100000 in
theorem zw4_190 : Jvm.Cond.instanceMethod yX1_delay ∈ zg_tb := zg_m4 (i := 190) rfl rfl
set_option maxRecDepth 100000 in
theorem zw4_191 : Jvm.Cond.selects RX1 yX1_delay yX1_delay ∈ zg_tb := zg_m4 (i := 191) rfl rfl
set_option maxRecDepth 100000 in
theorem zy_yX1_delay_V : (Jvm.Cond.instanceMethod yX1_delay ∈ zg_tb ∧ Jvm.Cond.selects yX1_delay.cls yX1_delay yX1_delay ∈ zg_tb ∧ Jvm.Cond.initialized yX1_delay.cls ∈ zg_tb ∧ Jvm.Cond.code yX1_delay prog_3_method_3_code 3 none ∈ zg_tb) ∧ zg_dm yX1_delay 2 := ⟨⟨zw4_190, zw4_191, zw1_21, zw4_192⟩, by decide +kernel, by decide +kernel, by decide +kernel⟩
set_option maxRecDepth 100000 in
theorem zw1_154 : Jvm.Cond.fieldLink RX11 435 RX0 "clause" "I" ∈ zg_tb := zg_m1 (i := 154) rfl rfl
set_option maxRecDepth 100000 in
theorem zw1_38 : Jvm.Cond.fieldLink RX11 100 RX4 "isUp" "[Z" ∈ zg_tb := zg_m1 (i := 38) rfl rfl
set_option maxRecDepth 100000 in
theorem zw4_198 : Jvm.Cond.methodLink RX11 418 yX11_listsBarring ∈ zg_tb := zg_m4 (i := 198) rfl rfl
set_option maxRecDepth 100000 in
theorem zw4_201 : Jvm.Cond.code yX11_listsBarring prog_1_method_51_code 4 (some .int) ∈ zg_tb := zg_m4 (i := 201) rfl rfl
set_option maxRecDepth 100000 in
theorem zw4_200 : Jvm.Cond.instanceMethod yX11_listsBarring ∈ zg_tb := zg_m4 (i := 200) rfl rfl
set_option maxRecDepth 100000 in
theorem zs_yX11_listsBarring : Jvm.Cond.selects RX11 yX11_listsBarring yX11_listsBarring ∈ zg_tb := zg_mp (y := yX11_listsBarring) (n := 17) (zw_privs_2 (List.mem_of_getElem? (i := 9) (by decide +kernel))) rfl
set_option maxRecDepth 100000 in
theorem zy_yX11_listsBarring_V : (Jvm.Cond.instanceMethod yX11_listsBarring ∈ zg_tb ∧ Jvm.Cond.selects yX11_listsBarring.cls yX11_listsBarring yX11_listsBarring ∈ zg_tb ∧ Jvm.Cond.initialized yX11_listsBarring.cls ∈ zg_tb ∧ Jvm.Cond.code yX11_listsBarring prog_1_method_51_code 4 (some .int) ∈ zg_tb) ∧ zg_dm yX11_listsBarring 1 := ⟨⟨zw4_200, zs_yX11_listsBarring, zw1_1, zw4_201⟩, by decide +kernel, by decide +kernel, by decide +kernel⟩
set_option maxRecDepth 100000 in
theorem zw4_202 : Jvm.Cond.methodLink RX11 421 yX11_setLetters ∈ zg_tb := zg_m4 (i := 202) rfl rfl
set_option maxRecDepth 100000 in
theorem zw4_205 : Jvm.Cond.code yX11_setLetters prog_1_method_50_code 4 none ∈ zg_tb := zg_m4 (i := 205) rfl rfl
set_option maxRecDepth 100000 in
theorem zw4_204 : Jvm.Cond.instanceMethod yX11_setLetters ∈ zg_tb := zg_m4 (i := 204) rfl rfl
set_option maxRecDepth 100000 in
theorem zs_yX11_setLetters : Jvm.Cond.selects RX11 yX11_setLetters yX11_setLetters ∈ zg_tb := zg_mp (y := yX11_setLetters) (n := 17) (zw_privs_2 (List.mem_of_getElem? (i := 10) (by decide +kernel))) rfl
set_option maxRecDepth 100000 in
theorem zy_yX11_setLetters_V : (Jvm.Cond.instanceMethod yX11_setLetters ∈ zg_tb ∧ Jvm.Cond.selects yX11_setLetters.cls yX11_setLetters yX11_setLetters ∈ zg_tb ∧ Jvm.Cond.initialized yX11_setLetters.cls ∈ zg_tb ∧ Jvm.Cond.code yX11_setLetters prog_1_method_50_code 4 none ∈ zg_tb) ∧ zg_dm yX11_setLetters 2 := ⟨⟨zw4_204, zs_yX11_setLetters, zw1_1, zw4_205⟩, by decide +kernel, by decide +kernel, by decide +kernel⟩
set_option maxRecDepth 100000 in
theorem zw4_226 : Jvm.Cond.methodLink RX11 424 yX11_sort ∈ zg_tb := zg_m4 (i := 226) rfl rfl
set_option maxRecDepth 100000 in
theorem zw4_229 : Jvm.Cond.code yX11_sort prog_1_method_49_code 3 none ∈ zg_tb := zg_m4 (i := 229) rfl rfl
set_option maxRecDepth 100000 in
theorem zw4_228 : Jvm.Cond.instanceMethod yX11_sort ∈ zg_tb := zg_m4 (i := 228) rfl rfl
set_option maxRecDepth 100000 in
theorem zs_yX11_sort : Jvm.Cond.selects RX11 yX11_sort yX11_sort ∈ zg_tb := zg_mp (y := yX11_sort) (n := 17) (zw_privs_2 (List.mem_of_getElem? (i := 14) (by decide +kernel))) rfl
set_option maxRecDepth 100000 in
theorem zy_yX11_sort_V : (Jvm.Cond.instanceMethod yX11_sort ∈ zg_tb ∧ Jvm.Cond.selects yX11_sort.cls yX11_sort yX11_sort ∈ zg_tb ∧ Jvm.Cond.initialized yX11_sort.cls ∈ zg_tb ∧ Jvm.Cond.code yX11_sort prog_1_method_49_code 3 none ∈ zg_tb) ∧ zg_dm yX11_sort 2 := ⟨⟨zw4_228, zs_yX11_sort, zw1_1, zw4_229⟩, by decide +kernel, by decide +kernel, by decide +kernel⟩
set_option maxRecDepth 100000 in
theorem zw4_169 : Jvm.Cond.methodLink RX11 256 yX11_learn ∈ zg_tb := zg_m4 (i := 169) rfl rfl
set_option maxRecDepth 100000 in
theorem zw4_172 : Jvm.Cond.code yX11_learn prog_1_method_54_code 2 none ∈ zg_tb := zg_m4 (i := 172) rfl rfl
set_option maxRecDepth 100000 in
theorem zw4_171 : Jvm.Cond.instanceMethod yX11_learn ∈ zg_tb := zg_m4 (i := 171) rfl rfl
set_option maxRecDepth 100000 in
theorem zs_yX11_learn : Jvm.Cond.selects RX11 yX11_learn yX11_learn ∈ zg_tb := zg_mp (y := yX11_learn) (n := 17) (zw_privs_2 (List.mem_of_getElem? (i := 6) (by decide +kernel))) rfl
set_option maxRecDepth 100000 in
theorem zy_yX11_learn_V : (Jvm.Cond.instanceMethod yX11_learn ∈ zg_tb ∧ Jvm.Cond.selects yX11_learn.cls yX11_learn yX11_learn ∈ zg_tb ∧ Jvm.Cond.initialized yX11_learn.cls ∈ zg_tb ∧ Jvm.Cond.code yX11_learn prog_1_method_54_code 2 none ∈ zg_tb) ∧ zg_dm yX11_learn 1 := ⟨⟨zw4_171, zs_yX11_learn, zw1_1, zw4_172⟩, by decide +kernel, by decide +kernel, by decide +kernel⟩
set_option maxRecDepth 100000 in
theorem zw4_185 : Jvm.Cond.methodLink RX11 259 yX11_tryLetter ∈ zg_tb := zg_m4 (i := 185) rfl rfl
set_option maxRecDepth 100000 in
theorem zw4_188 : Jvm.Cond.code yX11_tryLetter prog_1_method_48_code 6 none ∈ zg_tb := zg_m4 (i := 188) rfl rfl
set_option maxRecDepth 100000 in
theorem zw4_187 : Jvm.Cond.instanceMethod yX11_tryLetter ∈ zg_tb := zg_m4 (i := 187) rfl rfl
set_option maxRecDepth 100000 in
theorem zs_yX11_tryLetter : Jvm.Cond.selects RX11 yX11_tryLetter yX11_tryLetter ∈ zg_tb := zg_mp (y := yX11_tryLetter) (n := 17) (zw_privs_2 (List.mem_of_getElem? (i := 8) (by decide +kernel))) rfl
set_option maxRecDepth 100000 in
theorem zy_yX11_tryLetter_V : (Jvm.Cond.instanceMethod yX11_tryLetter ∈ zg_tb ∧ Jvm.Cond.selects yX11_tryLetter.cls yX11_tryLetter yX11_tryLetter ∈ zg_tb ∧ Jvm.Cond.initialized yX11_tryLetter.cls ∈ zg_tb ∧ Jvm.Cond.code yX11_tryLetter prog_1_method_48_code 6 none ∈ zg_tb) ∧ zg_dm yX11_tryLetter 1 := ⟨⟨zw4_187, zs_yX11_tryLetter, zw1_1, zw4_188⟩, by decide +kernel, by decide +kernel, by decide +kernel⟩
set_option maxRecDepth 100000 in
theorem zw7_222 : Jvm.Cond.methodLink RX12 422 yX12_settle ∈ zg_tb := zg_m7 (i := 222) rfl rfl
set_option maxRecDepth 100000 in
theorem zw7_225 : Jvm.Cond.code yX12_settle prog_14_method_82_code 3 none ∈ zg_tb := zg_m7 (i := 225) rfl rfl
set_option maxRecDepth 100000 in
theorem zw7_224 : Jvm.Cond.instanceMethod yX12_settle ∈ zg_tb := zg_m7 (i := 224) rfl rfl
set_option maxRecDepth 100000 in
theorem zs_yX12_settle : Jvm.Cond.selects RX12 yX12_settle yX12_settle ∈ zg_tb := zg_mp (y := yX12_settle) (n := 71) (zw_privs_6 (List.mem_of_getElem? (i := 3) (by decide +kernel))) rfl
set_option maxRecDepth 100000 in
theorem zy_yX12_settle_V : (Jvm.Cond.instanceMethod yX12_settle ∈ zg_tb ∧ Jvm.Cond.selects yX12_settle.cls yX12_settle yX12_settle ∈ zg_tb ∧ Jvm.Cond.initialized yX12_settle.cls ∈ zg_tb ∧ Jvm.Cond.code yX12_settle prog_14_method_82_code 3 none ∈ zg_tb) ∧ zg_dm yX12_settle 2 := ⟨⟨zw7_224, zs_yX12_settle, zw1_12, zw7_225⟩, by decide +kernel, by decide +kernel, by decide +kernel⟩
set_option maxRecDepth 100000 in
theorem zw5_211 : Jvm.Cond.fieldLink RX12 369 RX12 "fives" "I" ∈ zg_tb := zg_m5 (i := 211) rfl rfl
set_option maxRecDepth 100000 in
theorem zt12_52 : TX12 52 = (RX12, "fives", "I", false) ∧ parseFieldDescriptor "I" = some FieldType.int := ⟨rfl, by decide +kernel⟩
set_option maxRecDepth 100000 in
theorem zw7_139 : Jvm.Cond.methodLink RX12 382 yJ9_abs_0f7a4 ∈ zg_tb := zg_m7 (i := 139) rfl rfl
set_option maxRecDepth 100000 in
theorem zy_yJ9_abs_0f7a4_S : (Jvm.Cond.static yJ9_abs_0f7a4 ∈ zg_tb ∧ Jvm.Cond.initialized yJ9_abs_0f7a4.cls ∈ zg_tb ∧ Jvm.Cond.code yJ9_abs_0f7a4 prog_18_method_59_code 1 (some .int) ∈ zg_tb) ∧ zg_dm yJ9_abs_0f7a4 1 := ⟨⟨zw4_219, zw1_15, zw4_220⟩, by decide +kernel, by decide +kernel, by decide +kernel⟩
set_option maxRecDepth 100000 in
theorem zw7_131 : Jvm.Cond.methodLink RX12 372 yX12_has ∈ zg_tb := zg_m7 (i := 131) rfl rfl
set_option maxRecDepth 100000 in
theorem zw7_133 : Jvm.Cond.code yX12_has prog_14_method_64_code 6 (some .boolean) ∈ zg_tb := zg_m7 (i := 133) rfl rfl
set_option maxRecDepth 100000 in
theorem zw7_132 : Jvm.Cond.static yX12_has ∈ zg_tb := zg_m7 (i := 132) rfl rfl
set_option maxRecDepth 100000 in
theorem zy_yX12_has_S : (Jvm.Cond.static yX12_has ∈ zg_tb ∧ Jvm.Cond.initialized yX12_has.cls ∈ zg_tb ∧ Jvm.Cond.code yX12_has prog_14_method_64_code 6 (some .boolean) ∈ zg_tb) ∧ zg_dm yX12_has 4 := ⟨⟨zw7_132, zw1_12, zw7_133⟩, by decide +kernel, by decide +kernel, by decide +kernel⟩
set_option maxRecDepth 100000 in
theorem zw7_134 : Jvm.Cond.constantLong RX12 376 (1000) ∈ zg_tb := zg_m7 (i := 134) rfl rfl
set_option maxRecDepth 100000 in
theorem zw7_135 : Jvm.Cond.methodLink RX12 378 yX12_put ∈ zg_tb := zg_m7 (i := 135) rfl rfl
set_option maxRecDepth 100000 in
theorem zw7_138 : Jvm.Cond.code yX12_put prog_14_method_66_code 4 none ∈ zg_tb := zg_m7 (i := 138) rfl rfl
set_option maxRecDepth 100000 in
theorem zw7_137 : Jvm.Cond.instanceMethod yX12_put ∈ zg_tb := zg_m7 (i := 137) rfl rfl
set_option maxRecDepth 100000 in
theorem zs_yX12_put : Jvm.Cond.selects RX12 yX12_put yX12_put ∈ zg_tb := zg_mp (y := yX12_put) (n := 71) (zw_privs_5 (List.mem_of_getElem? (i := 9) (by decide +kernel))) rfl
set_option maxRecDepth 100000 in
theorem zy_yX12_put_V : (Jvm.Cond.instanceMethod yX12_put ∈ zg_tb ∧ Jvm.Cond.selects yX12_put.cls yX12_put yX12_put ∈ zg_tb ∧ Jvm.Cond.initialized yX12_put.cls ∈ zg_tb ∧ Jvm.Cond.code yX12_put prog_14_method_66_code 4 none ∈ zg_tb) ∧ zg_dm yX12_put 2 := ⟨⟨zw7_137, zs_yX12_put, zw1_12, zw7_138⟩, by decide +kernel, by decide +kernel, by decide +kernel⟩
set_option maxRecDepth 100000 in
theorem zw7_127 : Jvm.Cond.methodLink RX12 385 yX12_weigh ∈ zg_tb := zg_m7 (i := 127) rfl rfl
set_option maxRecDepth 100000 in
theorem zw7_130 : Jvm.Cond.code yX12_weigh prog_14_method_65_code 16 (some .int) ∈ zg_tb := zg_m7 (i := 130) rfl rfl
set_option maxRecDepth 100000 in
theorem zw7_129 : Jvm.Cond.instanceMethod yX12_weigh ∈ zg_tb := zg_m7 (i := 129) rfl rfl
set_option maxRecDepth 100000 in
theorem zs_yX12_weigh : Jvm.Cond.selects RX12 yX12_weigh yX12_weigh ∈ zg_tb := zg_mp (y := yX12_weigh) (n := 71) (zw_privs_5 (List.mem_of_getElem? (i := 8) (by decide +kernel))) rfl
set_option maxRecDepth 100000 in
theorem zy_yX12_weigh_V : (Jvm.Cond.instanceMethod yX12_weigh ∈ zg_tb ∧ Jvm.Cond.selects yX12_weigh.cls yX12_weigh yX12_weigh ∈ zg_tb ∧ Jvm.Cond.initialized yX12_weigh.cls ∈ zg_tb ∧ Jvm.Cond.code yX12_weigh prog_14_method_65_code 16 (some .int) ∈ zg_tb) ∧ zg_dm yX12_weigh 3 := ⟨⟨zw7_129, zs_yX12_weigh, zw1_12, zw7_130⟩, by decide +kernel, by decide +kernel, by decide +kernel⟩
set_option maxRecDepth 100000 in
theorem zw7_218 : Jvm.Cond.methodLink RX12 425 yX12_again ∈ zg_tb := zg_m7 (i := 218) rfl rfl
set_option maxRecDepth 100000 in
theorem zw7_221 : Jvm.Cond.code yX12_again prog_14_method_83_code 4 none ∈ zg_tb := zg_m7 (i := 221) rfl rfl
set_option maxRecDepth 100000 in
theorem zw7_220 : Jvm.Cond.instanceMethod yX12_again ∈ zg_tb := zg_m7 (i := 220) rfl rfl
set_option maxRecDepth 100000 in
theorem zs_yX12_again : Jvm.Cond.selects RX12 yX12_again yX12_again ∈ zg_tb := zg_mp (y := yX12_again) (n := 71) (zw_privs_6 (List.mem_of_getElem? (i := 2) (by decide +kernel))) rfl
set_option maxRecDepth 100000 in
theorem zy_yX12_again_V : (Jvm.Cond.instanceMethod yX12_again ∈ zg_tb ∧ Jvm.Cond.selects yX12_again.cls yX12_again yX12_again ∈ zg_tb ∧ Jvm.Cond.initialized yX12_again.cls ∈ zg_tb ∧ Jvm.Cond.code yX12_again prog_14_method_83_code 4 none ∈ zg_tb) ∧ zg_dm yX12_again 3 := ⟨⟨zw7_220, zs_yX12_again, zw1_12, zw7_221⟩, by decide +kernel, by decide +kernel, by decide +kernel⟩
set_option maxRecDepth 100000 in
theorem zw7_123 : Jvm.Cond.methodLink RX12 397 yX12_weightOf ∈ zg_tb := zg_m7 (i := 123) rfl rfl
set_option maxRecDepth 100000 in
theorem zw7_126 : Jvm.Cond.code yX12_weightOf prog_14_method_67_code 2 (some .int) ∈ zg_tb := zg_m7 (i := 126) rfl rfl
set_option maxRecDepth 100000 in
theorem zw7_125 : Jvm.Cond.instanceMethod yX12_weightOf ∈ zg_tb := zg_m7 (i := 125) rfl rfl
set_option maxRecDepth 100000 in
theorem zs_yX12_weightOf : Jvm.Cond.selects RX12 yX12_weightOf yX12_weightOf ∈ zg_tb := zg_mp (y := yX12_weightOf) (n := 71) (zw_privs_5 (List.mem_of_getElem? (i := 7) (by decide +kernel))) rfl
set_option maxRecDepth 100000 in
theorem zy_yX12_weightOf_V : (Jvm.Cond.instanceMethod yX12_weightOf ∈ zg_tb ∧ Jvm.Cond.selects yX12_weightOf.cls yX12_weightOf yX12_weightOf ∈ zg_tb ∧ Jvm.Cond.initialized yX12_weightOf.cls ∈ zg_tb ∧ Jvm.Cond.code yX12_weightOf prog_14_method_67_code 2 (some .int) ∈ zg_tb) ∧ zg_dm yX12_weightOf 1 := ⟨⟨zw7_125, zs_yX12_weightOf, zw1_12, zw7_126⟩, by decide +kernel, by decide +kernel, by decide +kernel⟩
set_option maxRecDepth 100000 in
theorem zw7_226 : Jvm.Cond.methodLink RX12 429 yX12_wroteAhead ∈ zg_tb := zg_m7 (i := 226) rfl rfl
set_option maxRecDepth 100000 in
theorem zw7_229 : Jvm.Cond.code yX12_wroteAhead prog_14_method_84_code 5 (some .boolean) ∈ zg_tb := zg_m7 (i := 229) rfl rfl
set_option maxRecDepth 100000 in
theorem zw7_228 : Jvm.Cond.instanceMethod yX12_wroteAhead ∈ zg_tb := zg_m7 (i := 228) rfl rfl
set_option maxRecDepth 100000 in
theorem zs_yX12_wroteAhead : Jvm.Cond.selects RX12 yX12_wroteAhead yX12_wroteAhead ∈ zg_tb := zg_mp (y := yX12_wroteAhead) (n := 71) (zw_privs_6 (List.mem_of_getElem? (i := 4) (by decide +kernel))) rfl
set_option maxRecDepth 100000 in
theorem zy_yX12_wroteAhead_V : (Jvm.Cond.instanceMethod yX12_wroteAhead ∈ zg_tb ∧ Jvm.Cond.selects yX12_wroteAhead.cls yX12_wroteAhead yX12_wroteAhead ∈ zg_tb ∧ Jvm.Cond.initialized yX12_wroteAhead.cls ∈ zg_tb ∧ Jvm.Cond.code yX12_wroteAhead prog_14_method_84_code 5 (some .boolean) ∈ zg_tb) ∧ zg_dm yX12_wroteAhead 3 := ⟨⟨zw7_228, zs_yX12_wroteAhead, zw1_12, zw7_229⟩, by decide +kernel, by decide +kernel, by decide +kernel⟩
set_option maxRecDepth 100000 in
theorem zw7_214 : Jvm.Cond.methodLink RX12 432 yX12_arrive ∈ zg_tb := zg_m7 (i := 214) rfl rfl
set_option maxRecDepth 100000 in
theorem zw7_217 : Jvm.Cond.code yX12_arrive prog_14_method_85_code 7 none ∈ zg_tb := zg_m7 (i := 217) rfl rfl
set_option maxRecDepth 100000 in
theorem zw7_216 : Jvm.Cond.instanceMethod yX12_arrive ∈ zg_tb := zg_m7 (i := 216) rfl rfl
set_option maxRecDepth 100000 in
theorem zs_yX12_arrive : Jvm.Cond.selects RX12 yX12_arrive yX12_arrive ∈ zg_tb := zg_mp (y := yX12_arrive) (n := 71) (zw_privs_6 (List.mem_of_getElem? (i := 1) (by decide +kernel))) rfl
set_option maxRecDepth 100000 in
theorem zy_yX12_arrive_V : (Jvm.Cond.instanceMethod yX12_arrive ∈ zg_tb ∧ Jvm.Cond.selects yX12_arrive.cls yX12_arrive yX12_arrive ∈ zg_tb ∧ Jvm.Cond.initialized yX12_arrive.cls ∈ zg_tb ∧ Jvm.Cond.code yX12_arrive prog_14_method_85_code 7 none ∈ zg_tb) ∧ zg_dm yX12_arrive 1 := ⟨⟨zw7_216, zs_yX12_arrive, zw1_12, zw7_217⟩, by decide +kernel, by decide +kernel, by decide +kernel⟩
set_option maxRecDepth 100000 in
theorem zw4_234 : Jvm.Cond.methodLink RX11 262 yX3_add ∈ zg_tb := zg_m4 (i := 234) rfl rfl
set_option maxRecDepth 100000 in
theorem zw4_237 : Jvm.Cond.code yX3_add prog_5_method_2_code 4 (some .boolean) ∈ zg_tb := zg_m4 (i := 237) rfl rfl
set_option maxRecDepth 100000 in
theorem zw4_235 : Jvm.Cond.instanceMethod yX3_add ∈ zg_tb := zg_m4 (i := 235) rfl rfl
set_option maxRecDepth 100000 in
theorem zw4_236 : Jvm.Cond.selects RX3 yX3_add yX3_add ∈ zg_tb := zg_m4 (i := 236) rfl rfl
set_option maxRecDepth 100000 in
theorem zy_yX3_add_V : (Jvm.Cond.instanceMethod yX3_add ∈ zg_tb ∧ Jvm.Cond.selects yX3_add.cls yX3_add yX3_add ∈ zg_tb ∧ Jvm.Cond.initialized yX3_add.cls ∈ zg_tb ∧ Jvm.Cond.code yX3_add prog_5_method_2_code 4 (some .boolean) ∈ zg_tb) ∧ zg_dm yX3_add 3 := ⟨⟨zw4_235, zw4_236, zw1_10, zw4_237⟩, by decide +kernel, by decide +kernel, by decide +kernel⟩
set_option maxRecDepth 100000 in
theorem zw5_2 : Jvm.Cond.methodLink RX11 265 yX11_knownLetter ∈ zg_tb := zg_m5 (i := 2) rfl rfl
set_option maxRecDepth 100000 in
theorem zw5_5 : Jvm.Cond.code yX11_knownLetter prog_1_method_43_code 4 (some (.object "UnaskedLetters$Letter")) ∈ zg_tb := zg_m5 (i := 5) rfl rfl
set_option maxRecDepth 100000 in
theorem zw5_4 : Jvm.Cond.instanceMethod yX11_knownLetter ∈ zg_tb := zg_m5 (i := 4) rfl rfl
set_option maxRecDepth 100000 in
theorem zs_yX11_knownLetter : Jvm.Cond.selects RX11 yX11_knownLetter yX11_knownLetter ∈ zg_tb := zg_mp (y := yX11_knownLetter) (n := 17) (zw_privs_2 (List.mem_of_getElem? (i := 15) (by decide +kernel))) rfl
set_option maxRecDepth 100000 in
theorem zy_yX11_knownLetter_V : (Jvm.Cond.instanceMethod yX11_knownLetter ∈ zg_tb ∧ Jvm.Cond.selects yX11_knownLetter.cls yX11_knownLetter yX11_knownLetter ∈ zg_tb ∧ Jvm.Cond.initialized yX11_knownLetter.cls ∈ zg_tb ∧ Jvm.Cond.code yX11_knownLetter prog_1_method_43_code 4 (some (.object "UnaskedLetters$Letter")) ∈ zg_tb) ∧ zg_dm yX11_knownLetter 2 := ⟨⟨zw5_4, zs_yX11_knownLetter, zw1_1, zw5_5⟩, by decide +kernel, by decide +kernel, by decide +kernel⟩
set_option maxRecDepth 100000 in
theorem zw5_6 : Jvm.Cond.constant RX11 269 (-1000000) ∈ zg_tb := zg_m5 (i := 6) rfl rfl
set_option maxRecDepth 100000 in
theorem zw7_114 : Jvm.Cond.methodLink RX12 389 yX12_isKnown ∈ zg_tb := zg_m7 (i := 114) rfl rfl
set_option maxRecDepth 100000 in
theorem zw7_117 : Jvm.Cond.code yX12_isKnown prog_14_method_68_code 3 (some .boolean) ∈ zg_tb := zg_m7 (i := 117) rfl rfl
set_option maxRecDepth 100000 in
theorem zw7_116 : Jvm.Cond.instanceMethod yX12_isKnown ∈ zg_tb := zg_m7 (i := 116) rfl rfl
set_option maxRecDepth 100000 in
theorem zs_yX12_isKnown : Jvm.Cond.selects RX12 yX12_isKnown yX12_isKnown ∈ zg_tb := zg_mp (y := yX12_isKnown) (n := 71) (zw_privs_5 (List.mem_of_getElem? (i := 5) (by decide +kernel))) rfl
set_option maxRecDepth 100000 in
theorem zy_yX12_isKnown_V : (Jvm.Cond.instanceMethod yX12_isKnown ∈ zg_tb ∧ Jvm.Cond.selects yX12_isKnown.cls yX12_isKnown yX12_isKnown ∈ zg_tb ∧ Jvm.Cond.initialized yX12_isKnown.cls ∈ zg_tb ∧ Jvm.Cond.code yX12_isKnown prog_14_method_68_code 3 (some .boolean) ∈ zg_tb) ∧ zg_dm yX12_isKnown 2 := ⟨⟨zw7_116, zs_yX12_isKnown, zw1_12, zw7_117⟩, by decide +kernel, by decide +kernel, by decide +kernel⟩
set_option maxRecDepth 100000 in
theorem zw7_118 : Jvm.Cond.constant RX12 393 (-1000000) ∈ zg_tb := zg_m7 (i := 118) rfl rfl
set_option maxRecDepth 100000 in
theorem zw2_36 : Jvm.Cond.fieldLink RX11 280 RX7 "picks" "I" ∈ zg_tb := zg_m2 (i := 36) rfl rfl
set_option maxRecDepth 100000 in
theorem zw2_34 : Jvm.Cond.fieldLink RX11 286 RX7 "pickAt" "[I" ∈ zg_tb := zg_m2 (i := 34) rfl rfl
set_option maxRecDepth 100000 in
theorem zw5_19 : Jvm.Cond.methodLink RX11 295 yX11_weighMarked ∈ zg_tb := zg_m5 (i := 19) rfl rfl
set_option maxRecDepth 100000 in
theorem zw5_22 : Jvm.Cond.code yX11_weighMarked prog_1_method_56_code 3 none ∈ zg_tb := zg_m5 (i := 22) rfl rfl
set_option maxRecDepth 100000 in
theorem zw5_21 : Jvm.Cond.instanceMethod yX11_weighMarked ∈ zg_tb := zg_m5 (i := 21) rfl rfl
set_option maxRecDepth 100000 in
theorem zs_yX11_weighMarked : Jvm.Cond.selects RX11 yX11_weighMarked yX11_weighMarked ∈ zg_tb := zg_mp (y := yX11_weighMarked) (n := 17) (zw_privs_3 (List.mem_of_getElem? (i := 0) (by decide +kernel))) rfl
set_option maxRecDepth 100000 in
theorem zy_yX11_weighMarked_V : (Jvm.Cond.instanceMethod yX11_weighMarked ∈ zg_tb ∧ Jvm.Cond.selects yX11_weighMarked.cls yX11_weighMarked yX11_weighMarked ∈ zg_tb ∧ Jvm.Cond.initialized yX11_weighMarked.cls ∈ zg_tb ∧ Jvm.Cond.code yX11_weighMarked prog_1_method_56_code 3 none ∈ zg_tb) ∧ zg_dm yX11_weighMarked 1 := ⟨⟨zw5_21, zs_yX11_weighMarked, zw1_1, zw5_22⟩, by decide +kernel, by decide +kernel, by decide +kernel⟩
set_option maxRecDepth 100000 in
theorem zw5_23 : Jvm.Cond.methodLink RX11 298 yX11_lostAbove ∈ zg_tb := zg_m5 (i := 23) rfl rfl
set_option maxRecDepth 100000 in
theorem zw5_26 : Jvm.Cond.code yX11_lostAbove prog_1_method_57_code 4 (some .int) ∈ zg_tb := zg_m5 (i := 26) rfl rfl
set_option maxRecDepth 100000 in
theorem zw5_25 : Jvm.Cond.instanceMethod yX11_lostAbove ∈ zg_tb := zg_m5 (i := 25) rfl rfl
set_option maxRecDepth 100000 in
theorem zs_yX11_lostAbove : Jvm.Cond.selects RX11 yX11_lostAbove yX11_lostAbove ∈ zg_tb := zg_mp (y := yX11_lostAbove) (n := 17) (zw_privs_3 (List.mem_of_getElem? (i := 1) (by decide +kernel))) rfl
set_option maxRecDepth 100000 in
theorem zy_yX11_lostAbove_V : (Jvm.Cond.instanceMethod yX11_lostAbove ∈ zg_tb ∧ Jvm.Cond.selects yX11_lostAbove.cls yX11_lostAbove yX11_lostAbove ∈ zg_tb ∧ Jvm.Cond.initialized yX11_lostAbove.cls ∈ zg_tb ∧ Jvm.Cond.code yX11_lostAbove prog_1_method_57_code 4 (some .int) ∈ zg_tb) ∧ zg_dm yX11_lostAbove 1 := ⟨⟨zw5_25, zs_yX11_lostAbove, zw1_1, zw5_26⟩, by decide +kernel, by decide +kernel, by decide +kernel⟩
set_option maxRecDepth 100000 in
theorem zw5_27 : Jvm.Cond.methodLink RX11 301 yX11_letBelow ∈ zg_tb := zg_m5 (i := 27) rfl rfl
set_option maxRecDepth 100000 in
theorem zw5_30 : Jvm.Cond.code yX11_letBelow prog_1_method_58_code 4 (some .int) ∈ zg_tb := zg_m5 (i := 30) rfl rfl
set_option maxRecDepth 100000 in
theorem zw5_29 : Jvm.Cond.instanceMethod yX11_letBelow ∈ zg_tb := zg_m5 (i := 29) rfl rfl
set_option maxRecDepth 100000 in
theorem zs_yX11_letBelow : Jvm.Cond.selects RX11 yX11_letBelow yX11_letBelow ∈ zg_tb := zg_mp (y := yX11_letBelow) (n := 17) (zw_privs_3 (List.mem_of_getElem? (i := 2) (by decide +kernel))) rfl
set_option maxRecDepth 100000 in
theorem zy_yX11_letBelow_V : (Jvm.Cond.instanceMethod yX11_letBelow ∈ zg_tb ∧ Jvm.Cond.selects yX11_letBelow.cls yX11_letBelow yX11_letBelow ∈ zg_tb ∧ Jvm.Cond.initialized yX11_letBelow.cls ∈ zg_tb ∧ Jvm.Cond.code yX11_letBelow prog_1_method_58_code 4 (some .int) ∈ zg_tb) ∧ zg_dm yX11_letBelow 1 := ⟨⟨zw5_29, zs_yX11_letBelow, zw1_1, zw5_30⟩, by decide +kernel, by decide +kernel, by decide +kernel⟩
set_option maxRecDepth 100000 in
theorem zw7_152 : Jvm.Cond.methodLink RX12 400 yX12_weighMarked ∈ zg_tb := zg_m7 (i := 152) rfl rfl
set_option maxRecDepth 100000 in
theorem zw7_155 : Jvm.Cond.code yX12_weighMarked prog_14_method_73_code 3 none ∈ zg_tb := zg_m7 (i := 155) rfl rfl
set_option maxRecDepth 100000 in
theorem zw7_154 : Jvm.Cond.instanceMethod yX12_weighMarked ∈ zg_tb := zg_m7 (i := 154) rfl rfl
set_option maxRecDepth 100000 in
theorem zs_yX12_weighMarked : Jvm.Cond.selects RX12 yX12_weighMarked yX12_weighMarked ∈ zg_tb := zg_mp (y := yX12_weighMarked) (n := 71) (zw_privs_5 (List.mem_of_getElem? (i := 10) (by decide +kernel))) rfl
set_option maxRecDepth 100000 in
theorem zy_yX12_weighMarked_V : (Jvm.Cond.instanceMethod yX12_weighMarked ∈ zg_tb ∧ Jvm.Cond.selects yX12_weighMarked.cls yX12_weighMarked yX12_weighMarked ∈ zg_tb ∧ Jvm.Cond.initialized yX12_weighMarked.cls ∈ zg_tb ∧ Jvm.Cond.code yX12_weighMarked prog_14_method_73_code 3 none ∈ zg_tb) ∧ zg_dm yX12_weighMarked 1 := ⟨⟨zw7_154, zs_yX12_weighMarked, zw1_12, zw7_155⟩, by decide +kernel, by decide +kernel, by decide +kernel⟩
set_option maxRecDepth 100000 in
theorem zw7_156 : Jvm.Cond.methodLink RX12 403 yX12_lostOrLet ∈ zg_tb := zg_m7 (i := 156) rfl rfl
set_option maxRecDepth 100000 in
theorem zw7_159 : Jvm.Cond.code yX12_lostOrLet prog_14_method_72_code 6 (some .int) ∈ zg_tb := zg_m7 (i := 159) rfl rfl
set_option maxRecDepth 100000 in
theorem zw7_158 : Jvm.Cond.instanceMethod yX12_lostOrLet ∈ zg_tb := zg_m7 (i := 158) rfl rfl
set_option maxRecDepth 100000 in
theorem zs_yX12_lostOrLet : Jvm.Cond.selects RX12 yX12_lostOrLet yX12_lostOrLet ∈ zg_tb := zg_mp (y := yX12_lostOrLet) (n := 71) (zw_privs_5 (List.mem_of_getElem? (i := 11) (by decide +kernel))) rfl
set_option maxRecDepth 100000 in
theorem zy_yX12_lostOrLet_V : (Jvm.Cond.instanceMethod yX12_lostOrLet ∈ zg_tb ∧ Jvm.Cond.selects yX12_lostOrLet.cls yX12_lostOrLet yX12_lostOrLet ∈ zg_tb ∧ Jvm.Cond.initialized yX12_lostOrLet.cls ∈ zg_tb ∧ Jvm.Cond.code yX12_lostOrLet prog_14_method_72_code 6 (some .int) ∈ zg_tb) ∧ zg_dm yX12_lostOrLet 2 := ⟨⟨zw7_158, zs_yX12_lostOrLet, zw1_12, zw7_159⟩, by decide +kernel, by decide +kernel, by decide +kernel⟩
set_option maxRecDepth 100000 in
theorem zw4_5 : Jvm.Cond.fieldLink RX1 51 RX1 "steps" "I" ∈ zg_tb := zg_m4 (i := 5) rfl rfl
set_option maxRecDepth 100000 in
theorem zt1_16 : TX1 16 = (RX1, "steps", "I", false) ∧ parseFieldDescriptor "I" = some FieldType.int := ⟨rfl, by decide +kernel⟩
set_option maxRecDepth 100000 in
theorem zw5_39 : Jvm.Cond.methodLink RX11 304 yX1_addStep ∈ zg_tb := zg_m5 (i := 39) rfl rfl
set_option maxRecDepth 100000 in
theorem zw5_42 : Jvm.Cond.code yX1_addStep prog_3_method_4_code 3 (some .int) ∈ zg_tb := zg_m5 (i := 42) rfl rfl
set_option maxRecDepth 100000 in
theorem zw5_40 : Jvm.Cond.instanceMethod yX1_addStep ∈ zg_tb := zg_m5 (i := 40) rfl rfl
set_option maxRecDepth 100000 in
theorem zw5_41 : Jvm.Cond.selects RX1 yX1_addStep yX1_addStep ∈ zg_tb := zg_m5 (i := 41) rfl rfl
set_option maxRecDepth 100000 in
theorem zy_yX1_addStep_V : (Jvm.Cond.instanceMethod yX1_addStep ∈ zg_tb ∧ Jvm.Cond.selects yX1_addStep.cls yX1_addStep yX1_addStep ∈ zg_tb ∧ Jvm.Cond.initialized yX1_addStep.cls ∈ zg_tb ∧ Jvm.Cond.code yX1_addStep prog_3_method_4_code 3 (some .int) ∈ zg_tb) ∧ zg_dm yX1_addStep 2 := ⟨⟨zw5_40, zw5_41, zw1_21, zw5_42⟩, by decide +kernel, by decide +kernel, by decide +kernel⟩
set_option maxRecDepth 100000 in
theorem zw4_6 : Jvm.Cond.fieldLink RX11 307 RX1 "steps" "I" ∈ zg_tb := zg_m4 (i := 6) rfl rfl
set_option maxRecDepth 100000 in
theorem zw4_2 : Jvm.Cond.fieldLink RX11 310 RX1 "stepHouse" "[I" ∈ zg_tb := zg_m4 (i := 2) rfl rfl
set_option maxRecDepth 100000 in
theorem zw4_4 : Jvm.Cond.fieldLink RX11 313 RX1 "stepMinute" "[I" ∈ zg_tb := zg_m4 (i := 4) rfl rfl
set_option maxRecDepth 100000 in
theorem zw1_45 : Jvm.Cond.fieldLink RX11 319 RX4 "shops" "[I" ∈ zg_tb := zg_m1 (i := 45) rfl rfl
set_option maxRecDepth 100000 in
theorem zw5_69 : Jvm.Cond.constant RJ6 265 (1431655765) ∈ zg_tb := zg_m5 (i := 69) rfl rfl
set_option maxRecDepth 100000 in
theorem zw5_70 : Jvm.Cond.constant RJ6 266 (858993459) ∈ zg_tb := zg_m5 (i := 70) rfl rfl
set_option maxRecDepth 100000 in
theorem zw5_71 : Jvm.Cond.constant RJ6 267 (252645135) ∈ zg_tb := zg_m5 (i := 71) rfl rfl
set_option maxRecDepth 100000 in
theorem zw5_66 : Jvm.Cond.methodLink RX11 368 yJ6_bitCount_0f7a4 ∈ zg_tb := zg_m5 (i := 66) rfl rfl
set_option maxRecDepth 100000 in
theorem zw5_68 : Jvm.Cond.code yJ6_bitCount_0f7a4 prog_17_method_49_code 1 (some .int) ∈ zg_tb := zg_m5 (i := 68) rfl rfl
set_option maxRecDepth 100000 in
theorem zw1_22 : Jvm.Cond.initialized RJ6 ∈ zg_tb := zg_m1 (i := 22) rfl rfl
set_option maxRecDepth 100000 in
theorem zw5_67 : Jvm.Cond.static yJ6_bitCount_0f7a4 ∈ zg_tb := zg_m5 (i := 67) rfl rfl
set_option maxRecDepth 100000 in
theorem zy_yJ6_bitCount_0f7a4_S : (Jvm.Cond.static yJ6_bitCount_0f7a4 ∈ zg_tb ∧ Jvm.Cond.initialized yJ6_bitCount_0f7a4.cls ∈ zg_tb ∧ Jvm.Cond.code yJ6_bitCount_0f7a4 prog_17_method_49_code 1 (some .int) ∈ zg_tb) ∧ zg_dm yJ6_bitCount_0f7a4 1 := ⟨⟨zw5_67, zw1_22, zw5_68⟩, by decide +kernel, by decide +kernel, by decide +kernel⟩
set_option maxRecDepth 100000 in
theorem zw5_55 : Jvm.Cond.methodLink RX11 322 yX4_clearReached ∈ zg_tb := zg_m5 (i := 55) rfl rfl
set_option maxRecDepth 100000 in
theorem zw5_58 : Jvm.Cond.code yX4_clearReached prog_6_method_8_code 2 none ∈ zg_tb := zg_m5 (i := 58) rfl rfl
set_option maxRecDepth 100000 in
theorem zw5_56 : Jvm.Cond.instanceMethod yX4_clearReached ∈ zg_tb := zg_m5 (i := 56) rfl rfl
set_option maxRecDepth 100000 in
theorem zw5_57 : Jvm.Cond.selects RX4 yX4_clearReached yX4_clearReached ∈ zg_tb := zg_m5 (i := 57) rfl rfl
set_option maxRecDepth 100000 in
theorem zy_yX4_clearReached_V : (Jvm.Cond.instanceMethod yX4_clearReached ∈ zg_tb ∧ Jvm.Cond.selects yX4_clearReached.cls yX4_clearReached yX4_clearReached ∈ zg_tb ∧ Jvm.Cond.initialized yX4_clearReached.cls ∈ zg_tb ∧ Jvm.Cond.code yX4_clearReached prog_6_method_8_code 2 none ∈ zg_tb) ∧ zg_dm yX4_clearReached 0 := ⟨⟨zw5_56, zw5_57, zw1_2, zw5_58⟩, by decide +kernel, by decide +kernel, by decide +kernel⟩
set_option maxRecDepth 100000 in
theorem zw1_47 : Jvm.Cond.fieldLink RX11 328 RX4 "reached" "[Z" ∈ zg_tb := zg_m1 (i := 47) rfl rfl
set_option maxRecDepth 100000 in
theorem zw5_59 : Jvm.Cond.methodLink RX11 331 yX4_explains ∈ zg_tb := zg_m5 (i := 59) rfl rfl
set_option maxRecDepth 100000 in
theorem zw5_62 : Jvm.Cond.code yX4_explains prog_6_method_9_code 3 (some .boolean) ∈ zg_tb := zg_m5 (i := 62) rfl rfl
set_option maxRecDepth 100000 in
theorem zw5_60 : Jvm.Cond.instanceMethod yX4_explains ∈ zg_tb := zg_m5 (i := 60) rfl rfl
set_option maxRecDepth 100000 in
theorem zw5_61 : Jvm.Cond.selects RX4 yX4_explains yX4_explains ∈ zg_tb := zg_m5 (i := 61) rfl rfl
set_option maxRecDepth 100000 in
theorem zy_yX4_explains_V : (Jvm.Cond.instanceMethod yX4_explains ∈ zg_tb ∧ Jvm.Cond.selects yX4_explains.cls yX4_explains yX4_explains ∈ zg_tb ∧ Jvm.Cond.initialized yX4_explains.cls ∈ zg_tb ∧ Jvm.Cond.code yX4_explains prog_6_method_9_code 3 (some .boolean) ∈ zg_tb) ∧ zg_dm yX4_explains 1 := ⟨⟨zw5_60, zw5_61, zw1_2, zw5_62⟩, by decide +kernel, by decide +kernel, by decide +kernel⟩
set_option maxRecDepth 100000 in
theorem zw5_63 : Jvm.Cond.methodLink RX11 334 yX11_isAhead ∈ zg_tb := zg_m5 (i := 63) rfl rfl
set_option maxRecDepth 100000 in
theorem zw5_65 : Jvm.Cond.code yX11_isAhead prog_1_method_45_code 5 (some .boolean) ∈ zg_tb := zg_m5 (i := 65) rfl rfl
set_option maxRecDepth 100000 in
theorem zw5_64 : Jvm.Cond.static yX11_isAhead ∈ zg_tb := zg_m5 (i := 64) rfl rfl
set_option maxRecDepth 100000 in
theorem zy_yX11_isAhead_S : (Jvm.Cond.static yX11_isAhead ∈ zg_tb ∧ Jvm.Cond.initialized yX11_isAhead.cls ∈ zg_tb ∧ Jvm.Cond.code yX11_isAhead prog_1_method_45_code 5 (some .boolean) ∈ zg_tb) ∧ zg_dm yX11_isAhead 2 := ⟨⟨zw5_64, zw1_1, zw5_65⟩, by decide +kernel, by decide +kernel, by decide +kernel⟩
set_option maxRecDepth 100000 in
theorem zw8_2 : Jvm.Cond.methodLink RX12 435 yJ6_bitCount_0f7a4 ∈ zg_tb := zg_m8 (i := 2) rfl rfl
set_option maxRecDepth 100000 in
theorem zw8_3 : Jvm.Cond.methodLink RX12 440 yX12_explains ∈ zg_tb := zg_m8 (i := 3) rfl rfl
set_option maxRecDepth 100000 in
theorem zw8_6 : Jvm.Cond.code yX12_explains prog_14_method_90_code 4 (some .boolean) ∈ zg_tb := zg_m8 (i := 6) rfl rfl
set_option maxRecDepth 100000 in
theorem zw8_5 : Jvm.Cond.instanceMethod yX12_explains ∈ zg_tb := zg_m8 (i := 5) rfl rfl
set_option maxRecDepth 100000 in
theorem zs_yX12_explains : Jvm.Cond.selects RX12 yX12_explains yX12_explains ∈ zg_tb := zg_mp (y := yX12_explains) (n := 71) (zw_privs_6 (List.mem_of_getElem? (i := 5) (by decide +kernel))) rfl
set_option maxRecDepth 100000 in
theorem zy_yX12_explains_V : (Jvm.Cond.instanceMethod yX12_explains ∈ zg_tb ∧ Jvm.Cond.selects yX12_explains.cls yX12_explains yX12_explains ∈ zg_tb ∧ Jvm.Cond.initialized yX12_explains.cls ∈ zg_tb ∧ Jvm.Cond.code yX12_explains prog_14_method_90_code 4 (some .boolean) ∈ zg_tb) ∧ zg_dm yX12_explains 2 := ⟨⟨zw8_5, zs_yX12_explains, zw1_12, zw8_6⟩, by decide +kernel, by decide +kernel, by decide +kernel⟩
set_option maxRecDepth 100000 in
theorem zw5_80 : Jvm.Cond.methodLink RX8 19 yX8_at ∈ zg_tb := zg_m5 (i := 80) rfl rfl
set_option maxRecDepth 100000 in
theorem zw5_81 : Jvm.Cond.methodLink RX8 23 yX9_isByte ∈ zg_tb := zg_m5 (i := 81) rfl rfl
set_option maxRecDepth 100000 in
theorem zw5_90 : Jvm.Cond.methodLink RX8 29 yX9_longer ∈ zg_tb := zg_m5 (i := 90) rfl rfl
set_option maxRecDepth 100000 in
theorem zw1_224 : Jvm.Cond.fieldLink RX10 54 RX10 "swaps" "I" ∈ zg_tb := zg_m1 (i := 224) rfl rfl
set_option maxRecDepth 100000 in
theorem zt10_4 : TX10 4 = (RX10, "swaps", "I", false) ∧ parseFieldDescriptor "I" = some FieldType.int := ⟨rfl, by decide +kernel⟩
set_option maxRecDepth 100000 in
theorem zw5_76 : Jvm.Cond.methodLink RX11 337 yX8_wordEnd ∈ zg_tb := zg_m5 (i := 76) rfl rfl
set_option maxRecDepth 100000 in
theorem zw5_79 : Jvm.Cond.code yX8_wordEnd prog_10_method_5_code 3 (some .int) ∈ zg_tb := zg_m5 (i := 79) rfl rfl
set_option maxRecDepth 100000 in
theorem zw5_77 : Jvm.Cond.instanceMethod yX8_wordEnd ∈ zg_tb := zg_m5 (i := 77) rfl rfl
set_option maxRecDepth 100000 in
theorem zw5_78 : Jvm.Cond.selects RX8 yX8_wordEnd yX8_wordEnd ∈ zg_tb := zg_m5 (i := 78) rfl rfl
set_option maxRecDepth 100000 in
theorem zy_yX8_wordEnd_V : (Jvm.Cond.instanceMethod yX8_wordEnd ∈ zg_tb ∧ Jvm.Cond.selects yX8_wordEnd.cls yX8_wordEnd yX8_wordEnd ∈ zg_tb ∧ Jvm.Cond.initialized yX8_wordEnd.cls ∈ zg_tb ∧ Jvm.Cond.code yX8_wordEnd prog_10_method_5_code 3 (some .int) ∈ zg_tb) ∧ zg_dm yX8_wordEnd 1 := ⟨⟨zw5_77, zw5_78, zw1_3, zw5_79⟩, by decide +kernel, by decide +kernel, by decide +kernel⟩
set_option maxRecDepth 100000 in
theorem zw1_225 : Jvm.Cond.fieldLink RX11 340 RX10 "swaps" "I" ∈ zg_tb := zg_m1 (i := 225) rfl rfl
set_option maxRecDepth 100000 in
theorem zw5_82 : Jvm.Cond.methodLink RX11 343 yX8_at ∈ zg_tb := zg_m5 (i := 82) rfl rfl
set_option maxRecDepth 100000 in
theorem zw5_83 : Jvm.Cond.methodLink RX11 346 yX9_isLength ∈ zg_tb := zg_m5 (i := 83) rfl rfl
set_option maxRecDepth 100000 in
theorem zw5_85 : Jvm.Cond.code yX9_isLength prog_11_method_2_code 1 (some .boolean) ∈ zg_tb := zg_m5 (i := 85) rfl rfl
set_option maxRecDepth 100000 in
theorem zw5_84 : Jvm.Cond.static yX9_isLength ∈ zg_tb := zg_m5 (i := 84) rfl rfl
set_option maxRecDepth 100000 in
theorem zy_yX9_isLength_S : (Jvm.Cond.static yX9_isLength ∈ zg_tb ∧ Jvm.Cond.initialized yX9_isLength.cls ∈ zg_tb ∧ Jvm.Cond.code yX9_isLength prog_11_method_2_code 1 (some .boolean) ∈ zg_tb) ∧ zg_dm yX9_isLength 1 := ⟨⟨zw5_84, zw1_13, zw5_85⟩, by decide +kernel, by decide +kernel, by decide +kernel⟩
set_option maxRecDepth 100000 in
theorem zw5_86 : Jvm.Cond.methodLink RX11 349 yX8_spell ∈ zg_tb := zg_m5 (i := 86) rfl rfl
set_option maxRecDepth 100000 in
theorem zw5_89 : Jvm.Cond.code yX8_spell prog_10_method_6_code 6 (some .long) ∈ zg_tb := zg_m5 (i := 89) rfl rfl
set_option maxRecDepth 100000 in
theorem zw5_87 : Jvm.Cond.instanceMethod yX8_spell ∈ zg_tb := zg_m5 (i := 87) rfl rfl
set_option maxRecDepth 100000 in
theorem zw5_88 : Jvm.Cond.selects RX8 yX8_spell yX8_spell ∈ zg_tb := zg_m5 (i := 88) rfl rfl
set_option maxRecDepth 100000 in
theorem zy_yX8_spell_V : (Jvm.Cond.instanceMethod yX8_spell ∈ zg_tb ∧ Jvm.Cond.selects yX8_spell.cls yX8_spell yX8_spell ∈ zg_tb ∧ Jvm.Cond.initialized yX8_spell.cls ∈ zg_tb ∧ Jvm.Cond.code yX8_spell prog_10_method_6_code 6 (some .long) ∈ zg_tb) ∧ zg_dm yX8_spell 2 := ⟨⟨zw5_87, zw5_88, zw1_3, zw5_89⟩, by decide +kernel, by decide +kernel, by decide +kernel⟩
set_option maxRecDepth 100000 in
theorem zw5_91 : Jvm.Cond.methodLink RX11 357 yX10_addSwap ∈ zg_tb := zg_m5 (i := 91) rfl rfl
set_option maxRecDepth 100000 in
theorem zw5_94 : Jvm.Cond.code yX10_addSwap prog_12_method_5_code 3 (some .int) ∈ zg_tb := zg_m5 (i := 94) rfl rfl
set_option maxRecDepth 100000 in
theorem zw5_92 : Jvm.Cond.instanceMethod yX10_addSwap ∈ zg_tb := zg_m5 (i := 92) rfl rfl
set_option maxRecDepth 100000 in
theorem zw5_93 : Jvm.Cond.selects RX10 yX10_addSwap yX10_addSwap ∈ zg_tb := zg_m5 (i := 93) rfl rfl
set_option maxRecDepth 100000 in
theorem zy_yX10_addSwap_V : (Jvm.Cond.instanceMethod yX10_addSwap ∈ zg_tb ∧ Jvm.Cond.selects yX10_addSwap.cls yX10_addSwap yX10_addSwap ∈ zg_tb ∧ Jvm.Cond.initialized yX10_addSwap.cls ∈ zg_tb ∧ Jvm.Cond.code yX10_addSwap prog_12_method_5_code 3 (some .int) ∈ zg_tb) ∧ zg_dm yX10_addSwap 2 := ⟨⟨zw5_92, zw5_93, zw1_9, zw5_94⟩, by decide +kernel, by decide +kernel, by decide +kernel⟩
set_option maxRecDepth 100000 in
theorem zw5_224 : Jvm.Cond.fieldLink RX12 443 RX12 "swaps" "I" ∈ zg_tb := zg_m5 (i := 224) rfl rfl
set_option maxRecDepth 100000 in
theorem zt12_65 : TX12 65 = (RX12, "swaps", "I", false) ∧ parseFieldDescriptor "I" = some FieldType.int := ⟨rfl, by decide +kernel⟩
set_option maxRecDepth 100000 in
theorem zw5_103 : Jvm.Cond.methodLink RX10 57 yX10_lookAnew ∈ zg_tb := zg_m5 (i := 103) rfl rfl
set_option maxRecDepth 100000 in
theorem zw3_239 : Jvm.Cond.fieldLink RX10 60 RX1 "owned" "I" ∈ zg_tb := zg_m3 (i := 239) rfl rfl
set_option maxRecDepth 100000 in
theorem zw3_235 : Jvm.Cond.fieldLink RX10 65 RX1 "own" "[LUnaskedLetters$Word;" ∈ zg_tb := zg_m3 (i := 235) rfl rfl
set_option maxRecDepth 100000 in
theorem zw5_104 : Jvm.Cond.methodLink RX10 68 yX10_inPlaceOf ∈ zg_tb := zg_m5 (i := 104) rfl rfl
set_option maxRecDepth 100000 in
theorem zw5_107 : Jvm.Cond.code yX10_inPlaceOf prog_12_method_7_code 4 (some (.object "UnaskedLetters$Word")) ∈ zg_tb := zg_m5 (i := 107) rfl rfl
set_option maxRecDepth 100000 in
theorem zw5_106 : Jvm.Cond.instanceMethod yX10_inPlaceOf ∈ zg_tb := zg_m5 (i := 106) rfl rfl
set_option maxRecDepth 100000 in
theorem zs_yX10_inPlaceOf : Jvm.Cond.selects RX10 yX10_inPlaceOf yX10_inPlaceOf ∈ zg_tb := zg_mp (y := yX10_inPlaceOf) (n := 6) (zw_privs_3 (List.mem_of_getElem? (i := 3) (by decide +kernel))) rfl
set_option maxRecDepth 100000 in
theorem zy_yX10_inPlaceOf_V : (Jvm.Cond.instanceMethod yX10_inPlaceOf ∈ zg_tb ∧ Jvm.Cond.selects yX10_inPlaceOf.cls yX10_inPlaceOf yX10_inPlaceOf ∈ zg_tb ∧ Jvm.Cond.initialized yX10_inPlaceOf.cls ∈ zg_tb ∧ Jvm.Cond.code yX10_inPlaceOf prog_12_method_7_code 4 (some (.object "UnaskedLetters$Word")) ∈ zg_tb) ∧ zg_dm yX10_inPlaceOf 2 := ⟨⟨zw5_106, zs_yX10_inPlaceOf, zw1_9, zw5_107⟩, by decide +kernel, by decide +kernel, by decide +kernel⟩
set_option maxRecDepth 100000 in
theorem zw5_108 : Jvm.Cond.methodLink RX10 72 yX10_isNew ∈ zg_tb := zg_m5 (i := 108) rfl rfl
set_option maxRecDepth 100000 in
theorem zw1_223 : Jvm.Cond.fieldLink RX11 361 RX10 "changed" "[LUnaskedLetters$Word;" ∈ zg_tb := zg_m1 (i := 223) rfl rfl
set_option maxRecDepth 100000 in
theorem zw5_99 : Jvm.Cond.methodLink RX11 364 yX10_change ∈ zg_tb := zg_m5 (i := 99) rfl rfl
set_option maxRecDepth 100000 in
theorem zw5_102 : Jvm.Cond.code yX10_change prog_12_method_6_code 6 (some .int) ∈ zg_tb := zg_m5 (i := 102) rfl rfl
set_option maxRecDepth 100000 in
theorem zw5_100 : Jvm.Cond.instanceMethod yX10_change ∈ zg_tb := zg_m5 (i := 100) rfl rfl
set_option maxRecDepth 100000 in
theorem zw5_101 : Jvm.Cond.selects RX10 yX10_change yX10_change ∈ zg_tb := zg_m5 (i := 101) rfl rfl
set_option maxRecDepth 100000 in
theorem zy_yX10_change_V : (Jvm.Cond.instanceMethod yX10_change ∈ zg_tb ∧ Jvm.Cond.selects yX10_change.cls yX10_change yX10_change ∈ zg_tb ∧ Jvm.Cond.initialized yX10_change.cls ∈ zg_tb ∧ Jvm.Cond.code yX10_change prog_12_method_6_code 6 (some .int) ∈ zg_tb) ∧ zg_dm yX10_change 2 := ⟨⟨zw5_100, zw5_101, zw1_9, zw5_102⟩, by decide +kernel, by decide +kernel, by decide +kernel⟩
set_option maxRecDepth 100000 in
theorem zw5_225 : Jvm.Cond.fieldLink RX12 446 RX12 "roundSet" "I" ∈ zg_tb := zg_m5 (i := 225) rfl rfl
set_option maxRecDepth 100000 in
theorem zt12_66 : TX12 66 = (RX12, "roundSet", "I", false) ∧ parseFieldDescriptor "I" = some FieldType.int := ⟨rfl, by decide +kernel⟩
set_option maxRecDepth 100000 in
theorem zw5_226 : Jvm.Cond.fieldLink RX12 449 RX12 "roundWays" "I" ∈ zg_tb := zg_m5 (i := 226) rfl rfl
set_option maxRecDepth 100000 in
theorem zt12_67 : TX12 67 = (RX12, "roundWays", "I", false) ∧ parseFieldDescriptor "I" = some FieldType.int := ⟨rfl, by decide +kernel⟩
set_option maxRecDepth 100000 in
theorem zw8_19 : Jvm.Cond.methodLink RX12 452 yX12_weighSwapped ∈ zg_tb := zg_m8 (i := 19) rfl rfl
set_option maxRecDepth 100000 in
theorem zw8_22 : Jvm.Cond.code yX12_weighSwapped prog_14_method_92_code 7 (some .int) ∈ zg_tb := zg_m8 (i := 22) rfl rfl
set_option maxRecDepth 100000 in
theorem zw8_21 : Jvm.Cond.instanceMethod yX12_weighSwapped ∈ zg_tb := zg_m8 (i := 21) rfl rfl
set_option maxRecDepth 100000 in
theorem zs_yX12_weighSwapped : Jvm.Cond.selects RX12 yX12_weighSwapped yX12_weighSwapped ∈ zg_tb := zg_mp (y := yX12_weighSwapped) (n := 71) (zw_privs_6 (List.mem_of_getElem? (i := 7) (by decide +kernel))) rfl
set_option maxRecDepth 100000 in
theorem zy_yX12_weighSwapped_V : (Jvm.Cond.instanceMethod yX12_weighSwapped ∈ zg_tb ∧ Jvm.Cond.selects yX12_weighSwapped.cls yX12_weighSwapped yX12_weighSwapped ∈ zg_tb ∧ Jvm.Cond.initialized yX12_weighSwapped.cls ∈ zg_tb ∧ Jvm.Cond.code yX12_weighSwapped prog_14_method_92_code 7 (some .int) ∈ zg_tb) ∧ zg_dm yX12_weighSwapped 2 := ⟨⟨zw8_21, zs_yX12_weighSwapped, zw1_12, zw8_22⟩, by decide +kernel, by decide +kernel, by decide +kernel⟩
set_option maxRecDepth 100000 in
theorem zw8_15 : Jvm.Cond.methodLink RX12 455 yX12_findRound ∈ zg_tb := zg_m8 (i := 15) rfl rfl
set_option maxRecDepth 100000 in
theorem zw8_18 : Jvm.Cond.code yX12_findRound prog_14_method_93_code 7 (some .boolean) ∈ zg_tb := zg_m8 (i := 18) rfl rfl
set_option maxRecDepth 100000 in
theorem zw8_17 : Jvm.Cond.instanceMethod yX12_findRound ∈ zg_tb := zg_m8 (i := 17) rfl rfl
set_option maxRecDepth 100000 in
theorem zs_yX12_findRound : Jvm.Cond.selects RX12 yX12_findRound yX12_findRound ∈ zg_tb := zg_mp (y := yX12_findRound) (n := 71) (zw_privs_6 (List.mem_of_getElem? (i := 6) (by decide +kernel))) rfl
set_option maxRecDepth 100000 in
theorem zy_yX12_findRound_V : (Jvm.Cond.instanceMethod yX12_findRound ∈ zg_tb ∧ Jvm.Cond.selects yX12_findRound.cls yX12_findRound yX12_findRound ∈ zg_tb ∧ Jvm.Cond.initialized yX12_findRound.cls ∈ zg_tb ∧ Jvm.Cond.code yX12_findRound prog_14_method_93_code 7 (some .boolean) ∈ zg_tb) ∧ zg_dm yX12_findRound 2 := ⟨⟨zw8_17, zs_yX12_findRound, zw1_12, zw8_18⟩, by decide +kernel, by decide +kernel, by decide +kernel⟩
set_option maxRecDepth 100000 in
theorem zw5_113 : Jvm.Cond.constant RX11 373 (1000000) ∈ zg_tb := zg_m5 (i := 113) rfl rfl
set_option maxRecDepth 100000 in
theorem zw8_27 : Jvm.Cond.constant RX12 458 (1000000) ∈ zg_tb := zg_m8 (i := 27) rfl rfl
set_option maxRecDepth 100000 in
theorem zw3_232 : Jvm.Cond.fieldLink RX1 54 RX1 "full" "[LUnaskedLetters$Word;" ∈ zg_tb := zg_m3 (i := 232) rfl rfl
set_option maxRecDepth 100000 in
theorem zw4_113 : Jvm.Cond.fieldLink RX1 58 RX9 "text" "J" ∈ zg_tb := zg_m4 (i := 113) rfl rfl
set_option maxRecDepth 100000 in
theorem zw5_123 : Jvm.Cond.methodLink RX11 463 yX1_readsAs ∈ zg_tb := zg_m5 (i := 123) rfl rfl
set_option maxRecDepth 100000 in
theorem zw5_126 : Jvm.Cond.code yX1_readsAs prog_3_method_5_code 3 (some .boolean) ∈ zg_tb := zg_m5 (i := 126) rfl rfl
set_option maxRecDepth 100000 in
theorem zw5_124 : Jvm.Cond.instanceMethod yX1_readsAs ∈ zg_tb := zg_m5 (i := 124) rfl rfl
set_option maxRecDepth 100000 in
theorem zw5_125 : Jvm.Cond.selects RX1 yX1_readsAs yX1_readsAs ∈ zg_tb := zg_m5 (i := 125) rfl rfl
set_option maxRecDepth 100000 in
theorem zy_yX1_readsAs_V : (Jvm.Cond.instanceMethod yX1_readsAs ∈ zg_tb ∧ Jvm.Cond.selects yX1_readsAs.cls yX1_readsAs yX1_readsAs ∈ zg_tb ∧ Jvm.Cond.initialized yX1_readsAs.cls ∈ zg_tb ∧ Jvm.Cond.code yX1_readsAs prog_3_method_5_code 3 (some .boolean) ∈ zg_tb) ∧ zg_dm yX1_readsAs 1 := ⟨⟨zw5_124, zw5_125, zw1_21, zw5_126⟩, by decide +kernel, by decide +kernel, by decide +kernel⟩
set_option maxRecDepth 100000 in
theorem zw5_127 : Jvm.Cond.methodLink RX11 467 yJ9_max_7cf53 ∈ zg_tb := zg_m5 (i := 127) rfl rfl
set_option maxRecDepth 100000 in
theorem zw5_118 : Jvm.Cond.methodLink RX11 374 yJ7_fill_53178 ∈ zg_tb := zg_m5 (i := 118) rfl rfl
set_option maxRecDepth 100000 in
theorem zw5_119 : Jvm.Cond.methodLink RX11 378 yX11_joinHands ∈ zg_tb := zg_m5 (i := 119) rfl rfl
set_option maxRecDepth 100000 in
theorem zw5_122 : Jvm.Cond.code yX11_joinHands prog_1_method_59_code 8 none ∈ zg_tb := zg_m5 (i := 122) rfl rfl
set_option maxRecDepth 100000 in
theorem zw5_121 : Jvm.Cond.instanceMethod yX11_joinHands ∈ zg_tb := zg_m5 (i := 121) rfl rfl
set_option maxRecDepth 100000 in
theorem zs_yX11_joinHands : Jvm.Cond.selects RX11 yX11_joinHands yX11_joinHands ∈ zg_tb := zg_mp (y := yX11_joinHands) (n := 17) (zw_privs_3 (List.mem_of_getElem? (i := 4) (by decide +kernel))) rfl
set_option maxRecDepth 100000 in
theorem zy_yX11_joinHands_V : (Jvm.Cond.instanceMethod yX11_joinHands ∈ zg_tb ∧ Jvm.Cond.selects yX11_joinHands.cls yX11_joinHands yX11_joinHands ∈ zg_tb ∧ Jvm.Cond.initialized yX11_joinHands.cls ∈ zg_tb ∧ Jvm.Cond.code yX11_joinHands prog_1_method_59_code 8 none ∈ zg_tb) ∧ zg_dm yX11_joinHands 1 := ⟨⟨zw5_121, zs_yX11_joinHands, zw1_1, zw5_122⟩, by decide +kernel, by decide +kernel, by decide +kernel⟩
set_option maxRecDepth 100000 in
theorem zw8_32 : Jvm.Cond.methodLink RX12 459 yX12_areAlike ∈ zg_tb := zg_m8 (i := 32) rfl rfl
set_option maxRecDepth 100000 in
theorem zw8_35 : Jvm.Cond.code yX12_areAlike prog_14_method_96_code 4 (some .boolean) ∈ zg_tb := zg_m8 (i := 35) rfl rfl
set_option maxRecDepth 100000 in
theorem zw8_34 : Jvm.Cond.instanceMethod yX12_areAlike ∈ zg_tb := zg_m8 (i := 34) rfl rfl
set_option maxRecDepth 100000 in
theorem zs_yX12_areAlike : Jvm.Cond.selects RX12 yX12_areAlike yX12_areAlike ∈ zg_tb := zg_mp (y := yX12_areAlike) (n := 71) (zw_privs_6 (List.mem_of_getElem? (i := 8) (by decide +kernel))) rfl
set_option maxRecDepth 100000 in
theorem zy_yX12_areAlike_V : (Jvm.Cond.instanceMethod yX12_areAlike ∈ zg_tb ∧ Jvm.Cond.selects yX12_areAlike.cls yX12_areAlike yX12_areAlike ∈ zg_tb ∧ Jvm.Cond.initialized yX12_areAlike.cls ∈ zg_tb ∧ Jvm.Cond.code yX12_areAlike prog_14_method_96_code 4 (some .boolean) ∈ zg_tb) ∧ zg_dm yX12_areAlike 2 := ⟨⟨zw8_34, zs_yX12_areAlike, zw1_12, zw8_35⟩, by decide +kernel, by decide +kernel, by decide +kernel⟩
set_option maxRecDepth 100000 in
theorem zw5_132 : Jvm.Cond.constant RX11 381 (1073741824) ∈ zg_tb := zg_m5 (i := 132) rfl rfl
set_option maxRecDepth 100000 in
theorem zw2_69 : Jvm.Cond.fieldLink RX11 382 RX11 "measured" "I" ∈ zg_tb := zg_m2 (i := 69) rfl rfl
set_option maxRecDepth 100000 in
theorem zt11_16 : TX11 16 = (RX11, "measured", "I", false) ∧ parseFieldDescriptor "I" = some FieldType.int := ⟨rfl, by decide +kernel⟩
set_option maxRecDepth 100000 in
theorem zw8_40 : Jvm.Cond.constant RX12 462 (1073741823) ∈ zg_tb := zg_m8 (i := 40) rfl rfl
set_option maxRecDepth 100000 in
theorem zw5_229 : Jvm.Cond.fieldLink RX12 463 RX12 "measures" "I" ∈ zg_tb := zg_m5 (i := 229) rfl rfl
set_option maxRecDepth 100000 in
theorem zt12_70 : TX12 70 = (RX12, "measures", "I", false) ∧ parseFieldDescriptor "I" = some FieldType.int := ⟨rfl, by decide +kernel⟩
set_option maxRecDepth 100000 in
theorem zw5_137 : Jvm.Cond.methodLink RX11 385 yX11_markedBits ∈ zg_tb := zg_m5 (i := 137) rfl rfl
set_option maxRecDepth 100000 in
theorem zw5_140 : Jvm.Cond.code yX11_markedBits prog_1_method_60_code 4 (some .int) ∈ zg_tb := zg_m5 (i := 140) rfl rfl
set_option maxRecDepth 100000 in
theorem zw5_139 : Jvm.Cond.instanceMethod yX11_markedBits ∈ zg_tb := zg_m5 (i := 139) rfl rfl
set_option maxRecDepth 100000 in
theorem zs_yX11_markedBits : Jvm.Cond.selects RX11 yX11_markedBits yX11_markedBits ∈ zg_tb := zg_mp (y := yX11_markedBits) (n := 17) (zw_privs_3 (List.mem_of_getElem? (i := 5) (by decide +kernel))) rfl
set_option maxRecDepth 100000 in
theorem zy_yX11_markedBits_V : (Jvm.Cond.instanceMethod yX11_markedBits ∈ zg_tb ∧ Jvm.Cond.selects yX11_markedBits.cls yX11_markedBits yX11_markedBits ∈ zg_tb ∧ Jvm.Cond.initialized yX11_markedBits.cls ∈ zg_tb ∧ Jvm.Cond.code yX11_markedBits prog_1_method_60_code 4 (some .int) ∈ zg_tb) ∧ zg_dm yX11_markedBits 1 := ⟨⟨zw5_139, zs_yX11_markedBits, zw1_1, zw5_140⟩, by decide +kernel, by decide +kernel, by decide +kernel⟩
set_option maxRecDepth 100000 in
theorem zw5_141 : Jvm.Cond.methodLink RX11 388 yX11_stoppedBy ∈ zg_tb := zg_m5 (i := 141) rfl rfl
set_option maxRecDepth 100000 in
theorem zw5_144 : Jvm.Cond.code yX11_stoppedBy prog_1_method_61_code 4 (some .int) ∈ zg_tb := zg_m5 (i := 144) rfl rfl
set_option maxRecDepth 100000 in
theorem zw5_143 : Jvm.Cond.instanceMethod yX11_stoppedBy ∈ zg_tb := zg_m5 (i := 143) rfl rfl
set_option maxRecDepth 100000 in
theorem zs_yX11_stoppedBy : Jvm.Cond.selects RX11 yX11_stoppedBy yX11_stoppedBy ∈ zg_tb := zg_mp (y := yX11_stoppedBy) (n := 17) (zw_privs_3 (List.mem_of_getElem? (i := 6) (by decide +kernel))) rfl
set_option maxRecDepth 100000 in
theorem zy_yX11_stoppedBy_V : (Jvm.Cond.instanceMethod yX11_stoppedBy ∈ zg_tb ∧ Jvm.Cond.selects yX11_stoppedBy.cls yX11_stoppedBy yX11_stoppedBy ∈ zg_tb ∧ Jvm.Cond.initialized yX11_stoppedBy.cls ∈ zg_tb ∧ Jvm.Cond.code yX11_stoppedBy prog_1_method_61_code 4 (some .int) ∈ zg_tb) ∧ zg_dm yX11_stoppedBy 1 := ⟨⟨zw5_143, zs_yX11_stoppedBy, zw1_1, zw5_144⟩, by decide +kernel, by decide +kernel, by decide +kernel⟩
set_option maxRecDepth 100000 in
theorem zw8_45 : Jvm.Cond.methodLink RX12 466 yX12_stopped ∈ zg_tb := zg_m8 (i := 45) rfl rfl
set_option maxRecDepth 100000 in
theorem zw8_48 : Jvm.Cond.code yX12_stopped prog_14_method_99_code 6 (some .int) ∈ zg_tb := zg_m8 (i := 48) rfl rfl
set_option maxRecDepth 100000 in
theorem zw8_47 : Jvm.Cond.instanceMethod yX12_stopped ∈ zg_tb := zg_m8 (i := 47) rfl rfl
set_option maxRecDepth 100000 in
theorem zs_yX12_stopped : Jvm.Cond.selects RX12 yX12_stopped yX12_stopped ∈ zg_tb := zg_mp (y := yX12_stopped) (n := 71) (zw_privs_6 (List.mem_of_getElem? (i := 9) (by decide +kernel))) rfl
set_option maxRecDepth 100000 in
theorem zy_yX12_stopped_V : (Jvm.Cond.instanceMethod yX12_stopped ∈ zg_tb ∧ Jvm.Cond.selects yX12_stopped.cls yX12_stopped yX12_stopped ∈ zg_tb ∧ Jvm.Cond.initialized yX12_stopped.cls ∈ zg_tb ∧ Jvm.Cond.code yX12_stopped prog_14_method_99_code 6 (some .int) ∈ zg_tb) ∧ zg_dm yX12_stopped 2 := ⟨⟨zw8_47, zs_yX12_stopped, zw1_12, zw8_48⟩, by decide +kernel, by decide +kernel, by decide +kernel⟩
set_option maxRecDepth 100000 in
theorem zw1_51 : Jvm.Cond.fieldLink RX11 391 RX4 "names" "I" ∈ zg_tb := zg_m1 (i := 51) rfl rfl
set_option maxRecDepth 100000 in
theorem zw5_149 : Jvm.Cond.methodLink RX11 394 yX11_inState ∈ zg_tb := zg_m5 (i := 149) rfl rfl
set_option maxRecDepth 100000 in
theorem zw5_152 : Jvm.Cond.code yX11_inState prog_1_method_44_code 4 (some .int) ∈ zg_tb := zg_m5 (i := 152) rfl rfl
set_option maxRecDepth 100000 in
theorem zw5_151 : Jvm.Cond.instanceMethod yX11_inState ∈ zg_tb := zg_m5 (i := 151) rfl rfl
set_option maxRecDepth 100000 in
theorem zs_yX11_inState : Jvm.Cond.selects RX11 yX11_inState yX11_inState ∈ zg_tb := zg_mp (y := yX11_inState) (n := 17) (zw_privs_3 (List.mem_of_getElem? (i := 7) (by decide +kernel))) rfl
set_option maxRecDepth 100000 in
theorem zy_yX11_inState_V : (Jvm.Cond.instanceMethod yX11_inState ∈ zg_tb ∧ Jvm.Cond.selects yX11_inState.cls yX11_inState yX11_inState ∈ zg_tb ∧ Jvm.Cond.initialized yX11_inState.cls ∈ zg_tb ∧ Jvm.Cond.code yX11_inState prog_1_method_44_code 4 (some .int) ∈ zg_tb) ∧ zg_dm yX11_inState 1 := ⟨⟨zw5_151, zs_yX11_inState, zw1_1, zw5_152⟩, by decide +kernel, by decide +kernel, by decide +kernel⟩
set_option maxRecDepth 100000 in
theorem zw1_185 : Jvm.Cond.fieldLink RX11 397 RX5 "told" "I" ∈ zg_tb := zg_m1 (i := 185) rfl rfl
set_option maxRecDepth 100000 in
theorem zw2_14 : Jvm.Cond.fieldLink RX11 400 RX3 "told" "I" ∈ zg_tb := zg_m2 (i := 14) rfl rfl
set_option maxRecDepth 100000 in
theorem zw8_53 : Jvm.Cond.methodLink RX12 469 yX12_inState ∈ zg_tb := zg_m8 (i := 53) rfl rfl
set_option maxRecDepth 100000 in
theorem zw8_56 : Jvm.Cond.code yX12_inState prog_14_method_101_code 4 (some .int) ∈ zg_tb := zg_m8 (i := 56) rfl rfl
set_option maxRecDepth 100000 in
theorem zw8_55 : Jvm.Cond.instanceMethod yX12_inState ∈ zg_tb := zg_m8 (i := 55) rfl rfl
set_option maxRecDepth 100000 in
theorem zs_yX12_inState : Jvm.Cond.selects RX12 yX12_inState yX12_inState ∈ zg_tb := zg_mp (y := yX12_inState) (n := 71) (zw_privs_6 (List.mem_of_getElem? (i := 10) (by decide +kernel))) rfl
set_option maxRecDepth 100000 in
theorem zy_yX12_inState_V : (Jvm.Cond.instanceMethod yX12_inState ∈ zg_tb ∧ Jvm.Cond.selects yX12_inState.cls yX12_inState yX12_inState ∈ zg_tb ∧ Jvm.Cond.initialized yX12_inState.cls ∈ zg_tb ∧ Jvm.Cond.code yX12_inState prog_14_method_101_code 4 (some .int) ∈ zg_tb) ∧ zg_dm yX12_inState 1 := ⟨⟨zw8_55, zs_yX12_inState, zw1_12, zw8_56⟩, by decide +kernel, by decide +kernel, by decide +kernel⟩
set_option maxRecDepth 100000 in
theorem zw1_23 : Jvm.Cond.classLink RL 7 RX11 ∈ zg_tb := zg_m1 (i := 23) rfl rfl
set_option maxRecDepth 100000 in
theorem zw1_24 : Jvm.Cond.instantiable RX11 17 ∈ zg_tb := zg_m1 (i := 24) rfl rfl
set_option maxRecDepth 100000 in
theorem zw1_25 : Jvm.Cond.methodLink RL 9 yX11_init ∈ zg_tb := zg_m1 (i := 25) rfl rfl
set_option maxRecDepth 100000 in
theorem zw1_27 : Jvm.Cond.code yX11_init prog_1_method_1_code 1 none ∈ zg_tb := zg_m1 (i := 27) rfl rfl
set_option maxRecDepth 100000 in
theorem zw1_26 : Jvm.Cond.instanceMethod yX11_init ∈ zg_tb := zg_m1 (i := 26) rfl rfl
set_option maxRecDepth 100000 in
theorem zy_yX11_init_I : (Jvm.Cond.instanceMethod yX11_init ∈ zg_tb ∧ Jvm.Cond.initialized yX11_init.cls ∈ zg_tb ∧ Jvm.Cond.code yX11_init prog_1_method_1_code 1 none ∈ zg_tb) ∧ zg_dm yX11_init 0 := ⟨⟨zw1_26, zw1_1, zw1_27⟩, by decide +kernel, by decide +kernel, by decide +kernel⟩
set_option maxRecDepth 100000 in
theorem zw5_153 : Jvm.Cond.classLink RL 10 RX12 ∈ zg_tb := zg_m5 (i := 153) rfl rfl
set_option maxRecDepth 100000 in
theorem zw5_154 : Jvm.Cond.instantiable RX12 71 ∈ zg_tb := zg_m5 (i := 154) rfl rfl
set_option maxRecDepth 100000 in
theorem zw5_155 : Jvm.Cond.methodLink RL 12 yX12_init ∈ zg_tb := zg_m5 (i := 155) rfl rfl
set_option maxRecDepth 100000 in
theorem zw5_157 : Jvm.Cond.code yX12_init prog_14_method_2_code 1 none ∈ zg_tb := zg_m5 (i := 157) rfl rfl
set_option maxRecDepth 100000 in
theorem zw5_156 : Jvm.Cond.instanceMethod yX12_init ∈ zg_tb := zg_m5 (i := 156) rfl rfl
set_option maxRecDepth 100000 in
theorem zy_yX12_init_I : (Jvm.Cond.instanceMethod yX12_init ∈ zg_tb ∧ Jvm.Cond.initialized yX12_init.cls ∈ zg_tb ∧ Jvm.Cond.code yX12_init prog_14_method_2_code 1 none ∈ zg_tb) ∧ zg_dm yX12_init 0 := ⟨⟨zw5_156, zw1_12, zw5_157⟩, by decide +kernel, by decide +kernel, by decide +kernel⟩
set_option maxRecDepth 100000 in
theorem zw2_105 : Jvm.Cond.methodLink RL 13 yX11_house ∈ zg_tb := zg_m2 (i := 105) rfl rfl
set_option maxRecDepth 100000 in
theorem zw2_108 : Jvm.Cond.code yX11_house prog_1_method_2_code 1 (some .int) ∈ zg_tb := zg_m2 (i := 108) rfl rfl
set_option maxRecDepth 100000 in
theorem zw2_106 : Jvm.Cond.instanceMethod yX11_house ∈ zg_tb := zg_m2 (i := 106) rfl rfl
set_option maxRecDepth 100000 in
theorem zw2_107 : Jvm.Cond.selects RX11 yX11_house yX11_house ∈ zg_tb := zg_m2 (i := 107) rfl rfl
set_option maxRecDepth 100000 in
theorem zy_yX11_house_V : (Jvm.Cond.instanceMethod yX11_house ∈ zg_tb ∧ Jvm.Cond.selects yX11_house.cls yX11_house yX11_house ∈ zg_tb ∧ Jvm.Cond.initialized yX11_house.cls ∈ zg_tb ∧ Jvm.Cond.code yX11_house prog_1_method_2_code 1 (some .int) ∈ zg_tb) ∧ zg_dm yX11_house 0 := ⟨⟨zw2_106, zw2_107, zw1_1, zw2_108⟩, by decide +kernel, by decide +kernel, by decide +kernel⟩
set_option maxRecDepth 100000 in
theorem zw6_133 : Jvm.Cond.methodLink RL 17 yX12_house ∈ zg_tb := zg_m6 (i := 133) rfl rfl
set_option maxRecDepth 100000 in
theorem zw6_136 : Jvm.Cond.code yX12_house prog_14_method_6_code 1 (some .int) ∈ zg_tb := zg_m6 (i := 136) rfl rfl
set_option maxRecDepth 100000 in
theorem zw6_134 : Jvm.Cond.instanceMethod yX12_house ∈ zg_tb := zg_m6 (i := 134) rfl rfl
set_option maxRecDepth 100000 in
theorem zw6_135 : Jvm.Cond.selects RX12 yX12_house yX12_house ∈ zg_tb := zg_m6 (i := 135) rfl rfl
set_option maxRecDepth 100000 in
theorem zy_yX12_house_V : (Jvm.Cond.instanceMethod yX12_house ∈ zg_tb ∧ Jvm.Cond.selects yX12_house.cls yX12_house yX12_house ∈ zg_tb ∧ Jvm.Cond.initialized yX12_house.cls ∈ zg_tb ∧ Jvm.Cond.code yX12_house prog_14_method_6_code 1 (some .int) ∈ zg_tb) ∧ zg_dm yX12_house 0 := ⟨⟨zw6_134, zw6_135, zw1_12, zw6_136⟩, by decide +kernel, by decide +kernel, by decide +kernel⟩
set_option maxRecDepth 100000 in
theorem zw2_121 : Jvm.Cond.methodLink RL 23 yX11_road ∈ zg_tb := zg_m2 (i := 121) rfl rfl
set_option maxRecDepth 100000 in
theorem zw2_124 : Jvm.Cond.code yX11_road prog_1_method_4_code 3 (some .boolean) ∈ zg_tb := zg_m2 (i := 124) rfl rfl
set_option maxRecDepth 100000 in
theorem zw2_122 : Jvm.Cond.instanceMethod yX11_road ∈ zg_tb := zg_m2 (i := 122) rfl rfl
set_option maxRecDepth 100000 in
theorem zw2_123 : Jvm.Cond.selects RX11 yX11_road yX11_road ∈ zg_tb := zg_m2 (i := 123) rfl rfl
set_option maxRecDepth 100000 in
theorem zy_yX11_road_V : (Jvm.Cond.instanceMethod yX11_road ∈ zg_tb ∧ Jvm.Cond.selects yX11_road.cls yX11_road yX11_road ∈ zg_tb ∧ Jvm.Cond.initialized yX11_road.cls ∈ zg_tb ∧ Jvm.Cond.code yX11_road prog_1_method_4_code 3 (some .boolean) ∈ zg_tb) ∧ zg_dm yX11_road 2 := ⟨⟨zw2_122, zw2_123, zw1_1, zw2_124⟩, by decide +kernel, by decide +kernel, by decide +kernel⟩
set_option maxRecDepth 100000 in
theorem zw6_148 : Jvm.Cond.methodLink RL 27 yX12_road ∈ zg_tb := zg_m6 (i := 148) rfl rfl
set_option maxRecDepth 100000 in
theorem zw6_151 : Jvm.Cond.code yX12_road prog_14_method_8_code 3 (some .boolean) ∈ zg_tb := zg_m6 (i := 151) rfl rfl
set_option maxRecDepth 100000 in
theorem zw6_149 : Jvm.Cond.instanceMethod yX12_road ∈ zg_tb := zg_m6 (i := 149) rfl rfl
set_option maxRecDepth 100000 in
theorem zw6_150 : Jvm.Cond.selects RX12 yX12_road yX12_road ∈ zg_tb := zg_m6 (i := 150) rfl rfl
set_option maxRecDepth 100000 in
theorem zy_yX12_road_V : (Jvm.Cond.instanceMethod yX12_road ∈ zg_tb ∧ Jvm.Cond.selects yX12_road.cls yX12_road yX12_road ∈ zg_tb ∧ Jvm.Cond.initialized yX12_road.cls ∈ zg_tb ∧ Jvm.Cond.code yX12_road prog_14_method_8_code 3 (some .boolean) ∈ zg_tb) ∧ zg_dm yX12_road 2 := ⟨⟨zw6_149, zw6_150, zw1_12, zw6_151⟩, by decide +kernel, by decide +kernel, by decide +kernel⟩
set_option maxRecDepth 100000 in
theorem zw2_133 : Jvm.Cond.methodLink RL 28 yX11_name ∈ zg_tb := zg_m2 (i := 133) rfl rfl
set_option maxRecDepth 100000 in
theorem zw2_136 : Jvm.Cond.code yX11_name prog_1_method_5_code 3 (some .int) ∈ zg_tb := zg_m2 (i := 136) rfl rfl
set_option maxRecDepth 100000 in
theorem zw2_134 : Jvm.Cond.instanceMethod yX11_name ∈ zg_tb := zg_m2 (i := 134) rfl rfl
set_option maxRecDepth 100000 in
theorem zw2_135 : Jvm.Cond.selects RX11 yX11_name yX11_name ∈ zg_tb := zg_m2 (i := 135) rfl rfl
set_option maxRecDepth 100000 in
theorem zy_yX11_name_V : (Jvm.Cond.instanceMethod yX11_name ∈ zg_tb ∧ Jvm.Cond.selects yX11_name.cls yX11_name yX11_name ∈ zg_tb ∧ Jvm.Cond.initialized yX11_name.cls ∈ zg_tb ∧ Jvm.Cond.code yX11_name prog_1_method_5_code 3 (some .int) ∈ zg_tb) ∧ zg_dm yX11_name 2 := ⟨⟨zw2_134, zw2_135, zw1_1, zw2_136⟩, by decide +kernel, by decide +kernel, by decide +kernel⟩
set_option maxRecDepth 100000 in
theorem zw6_152 : Jvm.Cond.methodLink RL 32 yX12_name ∈ zg_tb := zg_m6 (i := 152) rfl rfl
set_option maxRecDepth 100000 in
theorem zw6_155 : Jvm.Cond.code yX12_name prog_14_method_9_code 3 (some .int) ∈ zg_tb := zg_m6 (i := 155) rfl rfl
set_option maxRecDepth 100000 in
theorem zw6_153 : Jvm.Cond.instanceMethod yX12_name ∈ zg_tb := zg_m6 (i := 153) rfl rfl
set_option maxRecDepth 100000 in
theorem zw6_154 : Jvm.Cond.selects RX12 yX12_name yX12_name ∈ zg_tb := zg_m6 (i := 154) rfl rfl
set_option maxRecDepth 100000 in
theorem zy_yX12_name_V : (Jvm.Cond.instanceMethod yX12_name ∈ zg_tb ∧ Jvm.Cond.selects yX12_name.cls yX12_name yX12_name ∈ zg_tb ∧ Jvm.Cond.initialized yX12_name.cls ∈ zg_tb ∧ Jvm.Cond.code yX12_name prog_14_method_9_code 3 (some .int) ∈ zg_tb) ∧ zg_dm yX12_name 2 := ⟨⟨zw6_153, zw6_154, zw1_12, zw6_155⟩, by decide +kernel, by decide +kernel, by decide +kernel⟩
set_option maxRecDepth 100000 in
theorem zw2_141 : Jvm.Cond.methodLink RL 33 yX11_feed ∈ zg_tb := zg_m2 (i := 141) rfl rfl
set_option maxRecDepth 100000 in
theorem zw2_144 : Jvm.Cond.code yX11_feed prog_1_method_6_code 7 (some .int) ∈ zg_tb := zg_m2 (i := 144) rfl rfl
set_option maxRecDepth 100000 in
theorem zw2_142 : Jvm.Cond.instanceMethod yX11_feed ∈ zg_tb := zg_m2 (i := 142) rfl rfl
set_option maxRecDepth 100000 in
theorem zw2_143 : Jvm.Cond.selects RX11 yX11_feed yX11_feed ∈ zg_tb := zg_m2 (i := 143) rfl rfl
set_option maxRecDepth 100000 in
theorem zy_yX11_feed_V : (Jvm.Cond.instanceMethod yX11_feed ∈ zg_tb ∧ Jvm.Cond.selects yX11_feed.cls yX11_feed yX11_feed ∈ zg_tb ∧ Jvm.Cond.initialized yX11_feed.cls ∈ zg_tb ∧ Jvm.Cond.code yX11_feed prog_1_method_6_code 7 (some .int) ∈ zg_tb) ∧ zg_dm yX11_feed 5 := ⟨⟨zw2_142, zw2_143, zw1_1, zw2_144⟩, by decide +kernel, by decide +kernel, by decide +kernel⟩
set_option maxRecDepth 100000 in
theorem zw6_164 : Jvm.Cond.methodLink RL 37 yX12_feed ∈ zg_tb := zg_m6 (i := 164) rfl rfl
set_option maxRecDepth 100000 in
theorem zw6_167 : Jvm.Cond.code yX12_feed prog_14_method_12_code 9 (some .int) ∈ zg_tb := zg_m6 (i := 167) rfl rfl
set_option maxRecDepth 100000 in
theorem zw6_165 : Jvm.Cond.instanceMethod yX12_feed ∈ zg_tb := zg_m6 (i := 165) rfl rfl
set_option maxRecDepth 100000 in
theorem zw6_166 : Jvm.Cond.selects RX12 yX12_feed yX12_feed ∈ zg_tb := zg_m6 (i := 166) rfl rfl
set_option maxRecDepth 100000 in
theorem zy_yX12_feed_V : (Jvm.Cond.instanceMethod yX12_feed ∈ zg_tb ∧ Jvm.Cond.selects yX12_feed.cls yX12_feed yX12_feed ∈ zg_tb ∧ Jvm.Cond.initialized yX12_feed.cls ∈ zg_tb ∧ Jvm.Cond.code yX12_feed prog_14_method_12_code 9 (some .int) ∈ zg_tb) ∧ zg_dm yX12_feed 5 := ⟨⟨zw6_165, zw6_166, zw1_12, zw6_167⟩, by decide +kernel, by decide +kernel, by decide +kernel⟩
set_option maxRecDepth 100000 in
theorem zw2_152 : Jvm.Cond.methodLink RL 38 yX11_end ∈ zg_tb := zg_m2 (i := 152) rfl rfl
set_option maxRecDepth 100000 in
theorem zw2_155 : Jvm.Cond.code yX11_end prog_1_method_7_code 2 (some .boolean) ∈ zg_tb := zg_m2 (i := 155) rfl rfl
set_option maxRecDepth 100000 in
theorem zw2_153 : Jvm.Cond.instanceMethod yX11_end ∈ zg_tb := zg_m2 (i := 153) rfl rfl
set_option maxRecDepth 100000 in
theorem zw2_154 : Jvm.Cond.selects RX11 yX11_end yX11_end ∈ zg_tb := zg_m2 (i := 154) rfl rfl
set_option maxRecDepth 100000 in
theorem zy_yX11_end_V : (Jvm.Cond.instanceMethod yX11_end ∈ zg_tb ∧ Jvm.Cond.selects yX11_end.cls yX11_end yX11_end ∈ zg_tb ∧ Jvm.Cond.initialized yX11_end.cls ∈ zg_tb ∧ Jvm.Cond.code yX11_end prog_1_method_7_code 2 (some .boolean) ∈ zg_tb) ∧ zg_dm yX11_end 1 := ⟨⟨zw2_153, zw2_154, zw1_1, zw2_155⟩, by decide +kernel, by decide +kernel, by decide +kernel⟩
set_option maxRecDepth 100000 in
theorem zw6_171 : Jvm.Cond.methodLink RL 42 yX12_end ∈ zg_tb := zg_m6 (i := 171) rfl rfl
set_option maxRecDepth 100000 in
theorem zw6_174 : Jvm.Cond.code yX12_end prog_14_method_13_code 2 (some .boolean) ∈ zg_tb := zg_m6 (i := 174) rfl rfl
set_option maxRecDepth 100000 in
theorem zw6_172 : Jvm.Cond.instanceMethod yX12_end ∈ zg_tb := zg_m6 (i := 172) rfl rfl
set_option maxRecDepth 100000 in
theorem zw6_173 : Jvm.Cond.selects RX12 yX12_end yX12_end ∈ zg_tb := zg_m6 (i := 173) rfl rfl
set_option maxRecDepth 100000 in
theorem zy_yX12_end_V : (Jvm.Cond.instanceMethod yX12_end ∈ zg_tb ∧ Jvm.Cond.selects yX12_end.cls yX12_end yX12_end ∈ zg_tb ∧ Jvm.Cond.initialized yX12_end.cls ∈ zg_tb ∧ Jvm.Cond.code yX12_end prog_14_method_13_code 2 (some .boolean) ∈ zg_tb) ∧ zg_dm yX12_end 1 := ⟨⟨zw6_172, zw6_173, zw1_12, zw6_174⟩, by decide +kernel, by decide +kernel, by decide +kernel⟩
set_option maxRecDepth 100000 in
theorem zw2_156 : Jvm.Cond.methodLink RL 43 yX11_fault ∈ zg_tb := zg_m2 (i := 156) rfl rfl
set_option maxRecDepth 100000 in
theorem zw2_159 : Jvm.Cond.code yX11_fault prog_1_method_8_code 2 (some .int) ∈ zg_tb := zg_m2 (i := 159) rfl rfl
set_option maxRecDepth 100000 in
theorem zw2_157 : Jvm.Cond.instanceMethod yX11_fault ∈ zg_tb := zg_m2 (i := 157) rfl rfl
set_option maxRecDepth 100000 in
theorem zw2_158 : Jvm.Cond.selects RX11 yX11_fault yX11_fault ∈ zg_tb := zg_m2 (i := 158) rfl rfl
set_option maxRecDepth 100000 in
theorem zy_yX11_fault_V : (Jvm.Cond.instanceMethod yX11_fault ∈ zg_tb ∧ Jvm.Cond.selects yX11_fault.cls yX11_fault yX11_fault ∈ zg_tb ∧ Jvm.Cond.initialized yX11_fault.cls ∈ zg_tb ∧ Jvm.Cond.code yX11_fault prog_1_method_8_code 2 (some .int) ∈ zg_tb) ∧ zg_dm yX11_fault 1 := ⟨⟨zw2_157, zw2_158, zw1_1, zw2_159⟩, by decide +kernel, by decide +kernel, by decide +kernel⟩
set_option maxRecDepth 100000 in
theorem zw6_175 : Jvm.Cond.methodLink RL 47 yX12_fault ∈ zg_tb := zg_m6 (i := 175) rfl rfl
set_option maxRecDepth 100000 in
theorem zw6_178 : Jvm.Cond.code yX12_fault prog_14_method_43_code 2 (some .int) ∈ zg_tb := zg_m6 (i := 178) rfl rfl
set_option maxRecDepth 100000 in
theorem zw6_176 : Jvm.Cond.instanceMethod yX12_fault ∈ zg_tb := zg_m6 (i := 176) rfl rfl
set_option maxRecDepth 100000 in
theorem zw6_177 : Jvm.Cond.selects RX12 yX12_fault yX12_fault ∈ zg_tb := zg_m6 (i := 177) rfl rfl
set_option maxRecDepth 100000 in
theorem zy_yX12_fault_V : (Jvm.Cond.instanceMethod yX12_fault ∈ zg_tb ∧ Jvm.Cond.selects yX12_fault.cls yX12_fault yX12_fault ∈ zg_tb ∧ Jvm.Cond.initialized yX12_fault.cls ∈ zg_tb ∧ Jvm.Cond.code yX12_fault prog_14_method_43_code 2 (some .int) ∈ zg_tb) ∧ zg_dm yX12_fault 1 := ⟨⟨zw6_176, zw6_177, zw1_12, zw6_178⟩, by decide +kernel, by decide +kernel, by decide +kernel⟩
set_option maxRecDepth 100000 in
theorem zw3_65 : Jvm.Cond.methodLink RL 48 yX11_rules ∈ zg_tb := zg_m3 (i := 65) rfl rfl
set_option maxRecDepth 100000 in
theorem zw3_68 : Jvm.Cond.code yX11_rules prog_1_method_9_code 4 (some .int) ∈ zg_tb := zg_m3 (i := 68) rfl rfl
set_option maxRecDepth 100000 in
theorem zw3_66 : Jvm.Cond.instanceMethod yX11_rules ∈ zg_tb := zg_m3 (i := 66) rfl rfl
set_option maxRecDepth 100000 in
theorem zw3_67 : Jvm.Cond.selects RX11 yX11_rules yX11_rules ∈ zg_tb := zg_m3 (i := 67) rfl rfl
set_option maxRecDepth 100000 in
theorem zy_yX11_rules_V : (Jvm.Cond.instanceMethod yX11_rules ∈ zg_tb ∧ Jvm.Cond.selects yX11_rules.cls yX11_rules yX11_rules ∈ zg_tb ∧ Jvm.Cond.initialized yX11_rules.cls ∈ zg_tb ∧ Jvm.Cond.code yX11_rules prog_1_method_9_code 4 (some .int) ∈ zg_tb) ∧ zg_dm yX11_rules 3 := ⟨⟨zw3_66, zw3_67, zw1_1, zw3_68⟩, by decide +kernel, by decide +kernel, by decide +kernel⟩
set_option maxRecDepth 100000 in
theorem zw7_49 : Jvm.Cond.methodLink RL 52 yX12_rules ∈ zg_tb := zg_m7 (i := 49) rfl rfl
set_option maxRecDepth 100000 in
theorem zw7_52 : Jvm.Cond.code yX12_rules prog_14_method_44_code 5 (some .int) ∈ zg_tb := zg_m7 (i := 52) rfl rfl
set_option maxRecDepth 100000 in
theorem zw7_50 : Jvm.Cond.instanceMethod yX12_rules ∈ zg_tb := zg_m7 (i := 50) rfl rfl
set_option maxRecDepth 100000 in
theorem zw7_51 : Jvm.Cond.selects RX12 yX12_rules yX12_rules ∈ zg_tb := zg_m7 (i := 51) rfl rfl
set_option maxRecDepth 100000 in
theorem zy_yX12_rules_V : (Jvm.Cond.instanceMethod yX12_rules ∈ zg_tb ∧ Jvm.Cond.selects yX12_rules.cls yX12_rules yX12_rules ∈ zg_tb ∧ Jvm.Cond.initialized yX12_rules.cls ∈ zg_tb ∧ Jvm.Cond.code yX12_rules prog_14_method_44_code 5 (some .int) ∈ zg_tb) ∧ zg_dm yX12_rules 3 := ⟨⟨zw7_50, zw7_51, zw1_12, zw7_52⟩, by decide +kernel, by decide +kernel, by decide +kernel⟩
set_option maxRecDepth 100000 in
theorem zw3_104 : Jvm.Cond.methodLink RL 53 yX11_force ∈ zg_tb := zg_m3 (i := 104) rfl rfl
set_option maxRecDepth 100000 in
theorem zw3_107 : Jvm.Cond.code yX11_force prog_1_method_10_code 5 (some .int) ∈ zg_tb := zg_m3 (i := 107) rfl rfl
set_option maxRecDepth 100000 in
theorem zw3_105 : Jvm.Cond.instanceMethod yX11_force ∈ zg_tb := zg_m3 (i := 105) rfl rfl
set_option maxRecDepth 100000 in
theorem zw3_106 : Jvm.Cond.selects RX11 yX11_force yX11_force ∈ zg_tb := zg_m3 (i := 106) rfl rfl
set_option maxRecDepth 100000 in
theorem zy_yX11_force_V : (Jvm.Cond.instanceMethod yX11_force ∈ zg_tb ∧ Jvm.Cond.selects yX11_force.cls yX11_force yX11_force ∈ zg_tb ∧ Jvm.Cond.initialized yX11_force.cls ∈ zg_tb ∧ Jvm.Cond.code yX11_force prog_1_method_10_code 5 (some .int) ∈ zg_tb) ∧ zg_dm yX11_force 4 := ⟨⟨zw3_105, zw3_106, zw1_1, zw3_107⟩, by decide +kernel, by decide +kernel, by decide +kernel⟩
set_option maxRecDepth 100000 in
theorem zw7_53 : Jvm.Cond.methodLink RL 57 yX12_force ∈ zg_tb := zg_m7 (i := 53) rfl rfl
set_option maxRecDepth 100000 in
theorem zw7_56 : Jvm.Cond.code yX12_force prog_14_method_46_code 5 (some .int) ∈ zg_tb := zg_m7 (i := 56) rfl rfl
set_option maxRecDepth 100000 in
theorem zw7_54 : Jvm.Cond.instanceMethod yX12_force ∈ zg_tb := zg_m7 (i := 54) rfl rfl
set_option maxRecDepth 100000 in
theorem zw7_55 : Jvm.Cond.selects RX12 yX12_force yX12_force ∈ zg_tb := zg_m7 (i := 55) rfl rfl
set_option maxRecDepth 100000 in
theorem zy_yX12_force_V : (Jvm.Cond.instanceMethod yX12_force ∈ zg_tb ∧ Jvm.Cond.selects yX12_force.cls yX12_force yX12_force ∈ zg_tb ∧ Jvm.Cond.initialized yX12_force.cls ∈ zg_tb ∧ Jvm.Cond.code yX12_force prog_14_method_46_code 5 (some .int) ∈ zg_tb) ∧ zg_dm yX12_force 4 := ⟨⟨zw7_54, zw7_55, zw1_12, zw7_56⟩, by decide +kernel, by decide +kernel, by decide +kernel⟩
set_option maxRecDepth 100000 in
theorem zw3_116 : Jvm.Cond.methodLink RL 58 yX11_list ∈ zg_tb := zg_m3 (i := 116) rfl rfl
set_option maxRecDepth 100000 in
theorem zw3_119 : Jvm.Cond.code yX11_list prog_1_method_11_code 1 (some .int) ∈ zg_tb := zg_m3 (i := 119) rfl rfl
set_option maxRecDepth 100000 in
theorem zw3_117 : Jvm.Cond.instanceMethod yX11_list ∈ zg_tb := zg_m3 (i := 117) rfl rfl
set_option maxRecDepth 100000 in
theorem zw3_118 : Jvm.Cond.selects RX11 yX11_list yX11_list ∈ zg_tb := zg_m3 (i := 118) rfl rfl
set_option maxRecDepth 100000 in
theorem zy_yX11_list_V : (Jvm.Cond.instanceMethod yX11_list ∈ zg_tb ∧ Jvm.Cond.selects yX11_list.cls yX11_list yX11_list ∈ zg_tb ∧ Jvm.Cond.initialized yX11_list.cls ∈ zg_tb ∧ Jvm.Cond.code yX11_list prog_1_method_11_code 1 (some .int) ∈ zg_tb) ∧ zg_dm yX11_list 0 := ⟨⟨zw3_117, zw3_118, zw1_1, zw3_119⟩, by decide +kernel, by decide +kernel, by decide +kernel⟩
set_option maxRecDepth 100000 in
theorem zw7_164 : Jvm.Cond.methodLink RL 61 yX12_list ∈ zg_tb := zg_m7 (i := 164) rfl rfl
set_option maxRecDepth 100000 in
theorem zw7_167 : Jvm.Cond.code yX12_list prog_14_method_76_code 1 (some .int) ∈ zg_tb := zg_m7 (i := 167) rfl rfl
set_option maxRecDepth 100000 in
theorem zw7_165 : Jvm.Cond.instanceMethod yX12_list ∈ zg_tb := zg_m7 (i := 165) rfl rfl
set_option maxRecDepth 100000 in
theorem zw7_166 : Jvm.Cond.selects RX12 yX12_list yX12_list ∈ zg_tb := zg_m7 (i := 166) rfl rfl
set_option maxRecDepth 100000 in
theorem zy_yX12_list_V : (Jvm.Cond.instanceMethod yX12_list ∈ zg_tb ∧ Jvm.Cond.selects yX12_list.cls yX12_list yX12_list ∈ zg_tb ∧ Jvm.Cond.initialized yX12_list.cls ∈ zg_tb ∧ Jvm.Cond.code yX12_list prog_14_method_76_code 1 (some .int) ∈ zg_tb) ∧ zg_dm yX12_list 0 := ⟨⟨zw7_165, zw7_166, zw1_12, zw7_167⟩, by decide +kernel, by decide +kernel, by decide +kernel⟩
set_option maxRecDepth 100000 in
theorem zw3_120 : Jvm.Cond.methodLink RL 62 yX11_off ∈ zg_tb := zg_m3 (i := 120) rfl rfl
set_option maxRecDepth 100000 in
theorem zw3_123 : Jvm.Cond.code yX11_off prog_1_method_12_code 3 (some .boolean) ∈ zg_tb := zg_m3 (i := 123) rfl rfl
set_option maxRecDepth 100000 in
theorem zw3_121 : Jvm.Cond.instanceMethod yX11_off ∈ zg_tb := zg_m3 (i := 121) rfl rfl
set_option maxRecDepth 100000 in
theorem zw3_122 : Jvm.Cond.selects RX11 yX11_off yX11_off ∈ zg_tb := zg_m3 (i := 122) rfl rfl
set_option maxRecDepth 100000 in
theorem zy_yX11_off_V : (Jvm.Cond.instanceMethod yX11_off ∈ zg_tb ∧ Jvm.Cond.selects yX11_off.cls yX11_off yX11_off ∈ zg_tb ∧ Jvm.Cond.initialized yX11_off.cls ∈ zg_tb ∧ Jvm.Cond.code yX11_off prog_1_method_12_code 3 (some .boolean) ∈ zg_tb) ∧ zg_dm yX11_off 2 := ⟨⟨zw3_121, zw3_122, zw1_1, zw3_123⟩, by decide +kernel, by decide +kernel, by decide +kernel⟩
set_option maxRecDepth 100000 in
theorem zw7_168 : Jvm.Cond.methodLink RL 65 yX12_off ∈ zg_tb := zg_m7 (i := 168) rfl rfl
set_option maxRecDepth 100000 in
theorem zw7_171 : Jvm.Cond.code yX12_off prog_14_method_78_code 3 (some .boolean) ∈ zg_tb := zg_m7 (i := 171) rfl rfl
set_option maxRecDepth 100000 in
theorem zw7_169 : Jvm.Cond.instanceMethod yX12_off ∈ zg_tb := zg_m7 (i := 169) rfl rfl
set_option maxRecDepth 100000 in
theorem zw7_170 : Jvm.Cond.selects RX12 yX12_off yX12_off ∈ zg_tb := zg_m7 (i := 170) rfl rfl
set_option maxRecDepth 100000 in
theorem zy_yX12_off_V : (Jvm.Cond.instanceMethod yX12_off ∈ zg_tb ∧ Jvm.Cond.selects yX12_off.cls yX12_off yX12_off ∈ zg_tb ∧ Jvm.Cond.initialized yX12_off.cls ∈ zg_tb ∧ Jvm.Cond.code yX12_off prog_14_method_78_code 3 (some .boolean) ∈ zg_tb) ∧ zg_dm yX12_off 2 := ⟨⟨zw7_169, zw7_170, zw1_12, zw7_171⟩, by decide +kernel, by decide +kernel, by decide +kernel⟩
set_option maxRecDepth 100000 in
theorem zw3_128 : Jvm.Cond.methodLink RL 66 yX11_bars ∈ zg_tb := zg_m3 (i := 128) rfl rfl
set_option maxRecDepth 100000 in
theorem zw3_131 : Jvm.Cond.code yX11_bars prog_1_method_13_code 5 (some .int) ∈ zg_tb := zg_m3 (i := 131) rfl rfl
set_option maxRecDepth 100000 in
theorem zw3_129 : Jvm.Cond.instanceMethod yX11_bars ∈ zg_tb := zg_m3 (i := 129) rfl rfl
set_option maxRecDepth 100000 in
theorem zw3_130 : Jvm.Cond.selects RX11 yX11_bars yX11_bars ∈ zg_tb := zg_m3 (i := 130) rfl rfl
set_option maxRecDepth 100000 in
theorem zy_yX11_bars_V : (Jvm.Cond.instanceMethod yX11_bars ∈ zg_tb ∧ Jvm.Cond.selects yX11_bars.cls yX11_bars yX11_bars ∈ zg_tb ∧ Jvm.Cond.initialized yX11_bars.cls ∈ zg_tb ∧ Jvm.Cond.code yX11_bars prog_1_method_13_code 5 (some .int) ∈ zg_tb) ∧ zg_dm yX11_bars 4 := ⟨⟨zw3_129, zw3_130, zw1_1, zw3_131⟩, by decide +kernel, by decide +kernel, by decide +kernel⟩
set_option maxRecDepth 100000 in
theorem zw7_176 : Jvm.Cond.methodLink RL 70 yX12_bars ∈ zg_tb := zg_m7 (i := 176) rfl rfl
set_option maxRecDepth 100000 in
theorem zw7_179 : Jvm.Cond.code yX12_bars prog_14_method_80_code 5 (some .int) ∈ zg_tb := zg_m7 (i := 179) rfl rfl
set_option maxRecDepth 100000 in
theorem zw7_177 : Jvm.Cond.instanceMethod yX12_bars ∈ zg_tb := zg_m7 (i := 177) rfl rfl
set_option maxRecDepth 100000 in
theorem zw7_178 : Jvm.Cond.selects RX12 yX12_bars yX12_bars ∈ zg_tb := zg_m7 (i := 178) rfl rfl
set_option maxRecDepth 100000 in
theorem zy_yX12_bars_V : (Jvm.Cond.instanceMethod yX12_bars ∈ zg_tb ∧ Jvm.Cond.selects yX12_bars.cls yX12_bars yX12_bars ∈ zg_tb ∧ Jvm.Cond.initialized yX12_bars.cls ∈ zg_tb ∧ Jvm.Cond.code yX12_bars prog_14_method_80_code 5 (some .int) ∈ zg_tb) ∧ zg_dm yX12_bars 4 := ⟨⟨zw7_177, zw7_178, zw1_12, zw7_179⟩, by decide +kernel, by decide +kernel, by decide +kernel⟩
set_option maxRecDepth 100000 in
theorem zw3_192 : Jvm.Cond.methodLink RL 71 yX11_harm ∈ zg_tb := zg_m3 (i := 192) rfl rfl
set_option maxRecDepth 100000 in
theorem zw3_195 : Jvm.Cond.code yX11_harm prog_1_method_14_code 4 (some .int) ∈ zg_tb := zg_m3 (i := 195) rfl rfl
set_option maxRecDepth 100000 in
theorem zw3_193 : Jvm.Cond.instanceMethod yX11_harm ∈ zg_tb := zg_m3 (i := 193) rfl rfl
set_option maxRecDepth 100000 in
theorem zw3_194 : Jvm.Cond.selects RX11 yX11_harm yX11_harm ∈ zg_tb := zg_m3 (i := 194) rfl rfl
set_option maxRecDepth 100000 in
theorem zy_yX11_harm_V : (Jvm.Cond.instanceMethod yX11_harm ∈ zg_tb ∧ Jvm.Cond.selects yX11_harm.cls yX11_harm yX11_harm ∈ zg_tb ∧ Jvm.Cond.initialized yX11_harm.cls ∈ zg_tb ∧ Jvm.Cond.code yX11_harm prog_1_method_14_code 4 (some .int) ∈ zg_tb) ∧ zg_dm yX11_harm 1 := ⟨⟨zw3_193, zw3_194, zw1_1, zw3_195⟩, by decide +kernel, by decide +kernel, by decide +kernel⟩
set_option maxRecDepth 100000 in
theorem zw7_206 : Jvm.Cond.methodLink RL 74 yX12_harm ∈ zg_tb := zg_m7 (i := 206) rfl rfl
set_option maxRecDepth 100000 in
theorem zw7_209 : Jvm.Cond.code yX12_harm prog_14_method_81_code 6 (some .int) ∈ zg_tb := zg_m7 (i := 209) rfl rfl
set_option maxRecDepth 100000 in
theorem zw7_207 : Jvm.Cond.instanceMethod yX12_harm ∈ zg_tb := zg_m7 (i := 207) rfl rfl
set_option maxRecDepth 100000 in
theorem zw7_208 : Jvm.Cond.selects RX12 yX12_harm yX12_harm ∈ zg_tb := zg_m7 (i := 208) rfl rfl
set_option maxRecDepth 100000 in
theorem zy_yX12_harm_V : (Jvm.Cond.instanceMethod yX12_harm ∈ zg_tb ∧ Jvm.Cond.selects yX12_harm.cls yX12_harm yX12_harm ∈ zg_tb ∧ Jvm.Cond.initialized yX12_harm.cls ∈ zg_tb ∧ Jvm.Cond.code yX12_harm prog_14_method_81_code 6 (some .int) ∈ zg_tb) ∧ zg_dm yX12_harm 1 := ⟨⟨zw7_207, zw7_208, zw1_12, zw7_209⟩, by decide +kernel, by decide +kernel, by decide +kernel⟩
set_option maxRecDepth 100000 in
theorem zw3_200 : Jvm.Cond.methodLink RL 75 yX11_write ∈ zg_tb := zg_m3 (i := 200) rfl rfl
set_option maxRecDepth 100000 in
theorem zw3_203 : Jvm.Cond.code yX11_write prog_1_method_15_code 6 (some .int) ∈ zg_tb := zg_m3 (i := 203) rfl rfl
set_option maxRecDepth 100000 in
theorem zw3_201 : Jvm.Cond.instanceMethod yX11_write ∈ zg_tb := zg_m3 (i := 201) rfl rfl
set_option maxRecDepth 100000 in
theorem zw3_202 : Jvm.Cond.selects RX11 yX11_write yX11_write ∈ zg_tb := zg_m3 (i := 202) rfl rfl
set_option maxRecDepth 100000 in
theorem zy_yX11_write_V : (Jvm.Cond.instanceMethod yX11_write ∈ zg_tb ∧ Jvm.Cond.selects yX11_write.cls yX11_write yX11_write ∈ zg_tb ∧ Jvm.Cond.initialized yX11_write.cls ∈ zg_tb ∧ Jvm.Cond.code yX11_write prog_1_method_15_code 6 (some .int) ∈ zg_tb) ∧ zg_dm yX11_write 4 := ⟨⟨zw3_201, zw3_202, zw1_1, zw3_203⟩, by decide +kernel, by decide +kernel, by decide +kernel⟩
set_option maxRecDepth 100000 in
theorem zw7_65 : Jvm.Cond.methodLink RL 79 yX12_write ∈ zg_tb := zg_m7 (i := 65) rfl rfl
set_option maxRecDepth 100000 in
theorem zw7_68 : Jvm.Cond.code yX12_write prog_14_method_55_code 6 (some .int) ∈ zg_tb := zg_m7 (i := 68) rfl rfl
set_option maxRecDepth 100000 in
theorem zw7_66 : Jvm.Cond.instanceMethod yX12_write ∈ zg_tb := zg_m7 (i := 66) rfl rfl
set_option maxRecDepth 100000 in
theorem zw7_67 : Jvm.Cond.selects RX12 yX12_write yX12_write ∈ zg_tb := zg_m7 (i := 67) rfl rfl
set_option maxRecDepth 100000 in
theorem zy_yX12_write_V : (Jvm.Cond.instanceMethod yX12_write ∈ zg_tb ∧ Jvm.Cond.selects yX12_write.cls yX12_write yX12_write ∈ zg_tb ∧ Jvm.Cond.initialized yX12_write.cls ∈ zg_tb ∧ Jvm.Cond.code yX12_write prog_14_method_55_code 6 (some .int) ∈ zg_tb) ∧ zg_dm yX12_write 4 := ⟨⟨zw7_66, zw7_67, zw1_12, zw7_68⟩, by decide +kernel, by decide +kernel, by decide +kernel⟩
set_option maxRecDepth 100000 in
theorem zw4_138 : Jvm.Cond.methodLink RL 80 yX11_words ∈ zg_tb := zg_m4 (i := 138) rfl rfl
set_option maxRecDepth 100000 in
theorem zw4_141 : Jvm.Cond.code yX11_words prog_1_method_16_code 4 (some .int) ∈ zg_tb := zg_m4 (i := 141) rfl rfl
set_option maxRecDepth 100000 in
theorem zw4_139 : Jvm.Cond.instanceMethod yX11_words ∈ zg_tb := zg_m4 (i := 139) rfl rfl
set_option maxRecDepth 100000 in
theorem zw4_140 : Jvm.Cond.selects RX11 yX11_words yX11_words ∈ zg_tb := zg_m4 (i := 140) rfl rfl
set_option maxRecDepth 100000 in
theorem zy_yX11_words_V : (Jvm.Cond.instanceMethod yX11_words ∈ zg_tb ∧ Jvm.Cond.selects yX11_words.cls yX11_words yX11_words ∈ zg_tb ∧ Jvm.Cond.initialized yX11_words.cls ∈ zg_tb ∧ Jvm.Cond.code yX11_words prog_1_method_16_code 4 (some .int) ∈ zg_tb) ∧ zg_dm yX11_words 2 := ⟨⟨zw4_139, zw4_140, zw1_1, zw4_141⟩, by decide +kernel, by decide +kernel, by decide +kernel⟩
set_option maxRecDepth 100000 in
theorem zw7_76 : Jvm.Cond.methodLink RL 84 yX12_words ∈ zg_tb := zg_m7 (i := 76) rfl rfl
set_option maxRecDepth 100000 in
theorem zw4_146 : Jvm.Cond.methodLink RL 85 yX11_read ∈ zg_tb := zg_m4 (i := 146) rfl rfl
set_option maxRecDepth 100000 in
theorem zw4_149 : Jvm.Cond.code yX11_read prog_1_method_17_code 6 (some .int) ∈ zg_tb := zg_m4 (i := 149) rfl rfl
set_option maxRecDepth 100000 in
theorem zw4_147 : Jvm.Cond.instanceMethod yX11_read ∈ zg_tb := zg_m4 (i := 147) rfl rfl
set_option maxRecDepth 100000 in
theorem zw4_148 : Jvm.Cond.selects RX11 yX11_read yX11_read ∈ zg_tb := zg_m4 (i := 148) rfl rfl
set_option maxRecDepth 100000 in
theorem zy_yX11_read_V : (Jvm.Cond.instanceMethod yX11_read ∈ zg_tb ∧ Jvm.Cond.selects yX11_read.cls yX11_read yX11_read ∈ zg_tb ∧ Jvm.Cond.initialized yX11_read.cls ∈ zg_tb ∧ Jvm.Cond.code yX11_read prog_1_method_17_code 6 (some .int) ∈ zg_tb) ∧ zg_dm yX11_read 4 := ⟨⟨zw4_147, zw4_148, zw1_1, zw4_149⟩, by decide +kernel, by decide +kernel, by decide +kernel⟩
set_option maxRecDepth 100000 in
theorem zw7_84 : Jvm.Cond.methodLink RL 88 yX12_read ∈ zg_tb := zg_m7 (i := 84) rfl rfl
set_option maxRecDepth 100000 in
theorem zw7_87 : Jvm.Cond.code yX12_read prog_14_method_58_code 10 (some .int) ∈ zg_tb := zg_m7 (i := 87) rfl rfl
set_option maxRecDepth 100000 in
theorem zw7_85 : Jvm.Cond.instanceMethod yX12_read ∈ zg_tb := zg_m7 (i := 85) rfl rfl
set_option maxRecDepth 100000 in
theorem zw7_86 : Jvm.Cond.selects RX12 yX12_read yX12_read ∈ zg_tb := zg_m7 (i := 86) rfl rfl
set_option maxRecDepth 100000 in
theorem zy_yX12_read_V : (Jvm.Cond.instanceMethod yX12_read ∈ zg_tb ∧ Jvm.Cond.selects yX12_read.cls yX12_read yX12_read ∈ zg_tb ∧ Jvm.Cond.initialized yX12_read.cls ∈ zg_tb ∧ Jvm.Cond.code yX12_read prog_14_method_58_code 10 (some .int) ∈ zg_tb) ∧ zg_dm yX12_read 4 := ⟨⟨zw7_85, zw7_86, zw1_12, zw7_87⟩, by decide +kernel, by decide +kernel, by decide +kernel⟩
set_option maxRecDepth 100000 in
theorem zw4_153 : Jvm.Cond.methodLink RL 89 yX11_unlike ∈ zg_tb := zg_m4 (i := 153) rfl rfl
set_option maxRecDepth 100000 in
theorem zw4_156 : Jvm.Cond.code yX11_unlike prog_1_method_18_code 5 (some .int) ∈ zg_tb := zg_m4 (i := 156) rfl rfl
set_option maxRecDepth 100000 in
theorem zw4_154 : Jvm.Cond.instanceMethod yX11_unlike ∈ zg_tb := zg_m4 (i := 154) rfl rfl
set_option maxRecDepth 100000 in
theorem zw4_155 : Jvm.Cond.selects RX11 yX11_unlike yX11_unlike ∈ zg_tb := zg_m4 (i := 155) rfl rfl
set_option maxRecDepth 100000 in
theorem zy_yX11_unlike_V : (Jvm.Cond.instanceMethod yX11_unlike ∈ zg_tb ∧ Jvm.Cond.selects yX11_unlike.cls yX11_unlike yX11_unlike ∈ zg_tb ∧ Jvm.Cond.initialized yX11_unlike.cls ∈ zg_tb ∧ Jvm.Cond.code yX11_unlike prog_1_method_18_code 5 (some .int) ∈ zg_tb) ∧ zg_dm yX11_unlike 1 := ⟨⟨zw4_154, zw4_155, zw1_1, zw4_156⟩, by decide +kernel, by decide +kernel, by decide +kernel⟩
set_option maxRecDepth 100000 in
theorem zw7_93 : Jvm.Cond.methodLink RL 92 yX12_unlike ∈ zg_tb := zg_m7 (i := 93) rfl rfl
set_option maxRecDepth 100000 in
theorem zw7_96 : Jvm.Cond.code yX12_unlike prog_14_method_59_code 4 (some .int) ∈ zg_tb := zg_m7 (i := 96) rfl rfl
set_option maxRecDepth 100000 in
theorem zw7_94 : Jvm.Cond.instanceMethod yX12_unlike ∈ zg_tb := zg_m7 (i := 94) rfl rfl
set_option maxRecDepth 100000 in
theorem zw7_95 : Jvm.Cond.selects RX12 yX12_unlike yX12_unlike ∈ zg_tb := zg_m7 (i := 95) rfl rfl
set_option maxRecDepth 100000 in
theorem zy_yX12_unlike_V : (Jvm.Cond.instanceMethod yX12_unlike ∈ zg_tb ∧ Jvm.Cond.selects yX12_unlike.cls yX12_unlike yX12_unlike ∈ zg_tb ∧ Jvm.Cond.initialized yX12_unlike.cls ∈ zg_tb ∧ Jvm.Cond.code yX12_unlike prog_14_method_59_code 4 (some .int) ∈ zg_tb) ∧ zg_dm yX12_unlike 1 := ⟨⟨zw7_94, zw7_95, zw1_12, zw7_96⟩, by decide +kernel, by decide +kernel, by decide +kernel⟩
set_option maxRecDepth 100000 in
theorem zw4_157 : Jvm.Cond.methodLink RL 93 yX11_letter ∈ zg_tb := zg_m4 (i := 157) rfl rfl
set_option maxRecDepth 100000 in
theorem zw4_160 : Jvm.Cond.code yX11_letter prog_1_method_19_code 4 (some .int) ∈ zg_tb := zg_m4 (i := 160) rfl rfl
set_option maxRecDepth 100000 in
theorem zw4_158 : Jvm.Cond.instanceMethod yX11_letter ∈ zg_tb := zg_m4 (i := 158) rfl rfl
set_option maxRecDepth 100000 in
theorem zw4_159 : Jvm.Cond.selects RX11 yX11_letter yX11_letter ∈ zg_tb := zg_m4 (i := 159) rfl rfl
set_option maxRecDepth 100000 in
theorem zy_yX11_letter_V : (Jvm.Cond.instanceMethod yX11_letter ∈ zg_tb ∧ Jvm.Cond.selects yX11_letter.cls yX11_letter yX11_letter ∈ zg_tb ∧ Jvm.Cond.initialized yX11_letter.cls ∈ zg_tb ∧ Jvm.Cond.code yX11_letter prog_1_method_19_code 4 (some .int) ∈ zg_tb) ∧ zg_dm yX11_letter 2 := ⟨⟨zw4_158, zw4_159, zw1_1, zw4_160⟩, by decide +kernel, by decide +kernel, by decide +kernel⟩
set_option maxRecDepth 100000 in
theorem zw7_98 : Jvm.Cond.methodLink RL 96 yX12_letter ∈ zg_tb := zg_m7 (i := 98) rfl rfl
set_option maxRecDepth 100000 in
theorem zw7_101 : Jvm.Cond.code yX12_letter prog_14_method_60_code 3 (some .int) ∈ zg_tb := zg_m7 (i := 101) rfl rfl
set_option maxRecDepth 100000 in
theorem zw7_99 : Jvm.Cond.instanceMethod yX12_letter ∈ zg_tb := zg_m7 (i := 99) rfl rfl
set_option maxRecDepth 100000 in
theorem zw7_100 : Jvm.Cond.selects RX12 yX12_letter yX12_letter ∈ zg_tb := zg_m7 (i := 100) rfl rfl
set_option maxRecDepth 100000 in
theorem zy_yX12_letter_V : (Jvm.Cond.instanceMethod yX12_letter ∈ zg_tb ∧ Jvm.Cond.selects yX12_letter.cls yX12_letter yX12_letter ∈ zg_tb ∧ Jvm.Cond.initialized yX12_letter.cls ∈ zg_tb ∧ Jvm.Cond.code yX12_letter prog_14_method_60_code 3 (some .int) ∈ zg_tb) ∧ zg_dm yX12_letter 2 := ⟨⟨zw7_99, zw7_100, zw1_12, zw7_101⟩, by decide +kernel, by decide +kernel, by decide +kernel⟩
set_option maxRecDepth 100000 in
theorem zw4_161 : Jvm.Cond.methodLink RL 97 yX11_why ∈ zg_tb := zg_m4 (i := 161) rfl rfl
set_option maxRecDepth 100000 in
theorem zw4_164 : Jvm.Cond.code yX11_why prog_1_method_20_code 3 (some .int) ∈ zg_tb := zg_m4 (i := 164) rfl rfl
set_option maxRecDepth 100000 in
theorem zw4_162 : Jvm.Cond.instanceMethod yX11_why ∈ zg_tb := zg_m4 (i := 162) rfl rfl
set_option maxRecDepth 100000 in
theorem zw4_163 : Jvm.Cond.selects RX11 yX11_why yX11_why ∈ zg_tb := zg_m4 (i := 163) rfl rfl
set_option maxRecDepth 100000 in
theorem zy_yX11_why_V : (Jvm.Cond.instanceMethod yX11_why ∈ zg_tb ∧ Jvm.Cond.selects yX11_why.cls yX11_why yX11_why ∈ zg_tb ∧ Jvm.Cond.initialized yX11_why.cls ∈ zg_tb ∧ Jvm.Cond.code yX11_why prog_1_method_20_code 3 (some .int) ∈ zg_tb) ∧ zg_dm yX11_why 1 := ⟨⟨zw4_162, zw4_163, zw1_1, zw4_164⟩, by decide +kernel, by decide +kernel, by decide +kernel⟩
set_option maxRecDepth 100000 in
theorem zw7_102 : Jvm.Cond.methodLink RL 100 yX12_why ∈ zg_tb := zg_m7 (i := 102) rfl rfl
set_option maxRecDepth 100000 in
theorem zw7_105 : Jvm.Cond.code yX12_why prog_14_method_61_code 2 (some .int) ∈ zg_tb := zg_m7 (i := 105) rfl rfl
set_option maxRecDepth 100000 in
theorem zw7_103 : Jvm.Cond.instanceMethod yX12_why ∈ zg_tb := zg_m7 (i := 103) rfl rfl
set_option maxRecDepth 100000 in
theorem zw7_104 : Jvm.Cond.selects RX12 yX12_why yX12_why ∈ zg_tb := zg_m7 (i := 104) rfl rfl
set_option maxRecDepth 100000 in
theorem zy_yX12_why_V : (Jvm.Cond.instanceMethod yX12_why ∈ zg_tb ∧ Jvm.Cond.selects yX12_why.cls yX12_why yX12_why ∈ zg_tb ∧ Jvm.Cond.initialized yX12_why.cls ∈ zg_tb ∧ Jvm.Cond.code yX12_why prog_14_method_61_code 2 (some .int) ∈ zg_tb) ∧ zg_dm yX12_why 1 := ⟨⟨zw7_103, zw7_104, zw1_12, zw7_105⟩, by decide +kernel, by decide +kernel, by decide +kernel⟩
set_option maxRecDepth 100000 in
theorem zw4_165 : Jvm.Cond.methodLink RL 101 yX11_minutes ∈ zg_tb := zg_m4 (i := 165) rfl rfl
set_option maxRecDepth 100000 in
theorem zw4_168 : Jvm.Cond.code yX11_minutes prog_1_method_21_code 4 (some .int) ∈ zg_tb := zg_m4 (i := 168) rfl rfl
set_option maxRecDepth 100000 in
theorem zw4_166 : Jvm.Cond.instanceMethod yX11_minutes ∈ zg_tb := zg_m4 (i := 166) rfl rfl
set_option maxRecDepth 100000 in
theorem zw4_167 : Jvm.Cond.selects RX11 yX11_minutes yX11_minutes ∈ zg_tb := zg_m4 (i := 167) rfl rfl
set_option maxRecDepth 100000 in
theorem zy_yX11_minutes_V : (Jvm.Cond.instanceMethod yX11_minutes ∈ zg_tb ∧ Jvm.Cond.selects yX11_minutes.cls yX11_minutes yX11_minutes ∈ zg_tb ∧ Jvm.Cond.initialized yX11_minutes.cls ∈ zg_tb ∧ Jvm.Cond.code yX11_minutes prog_1_method_21_code 4 (some .int) ∈ zg_tb) ∧ zg_dm yX11_minutes 1 := ⟨⟨zw4_166, zw4_167, zw1_1, zw4_168⟩, by decide +kernel, by decide +kernel, by decide +kernel⟩
set_option maxRecDepth 100000 in
theorem zw7_210 : Jvm.Cond.methodLink RL 104 yX12_minutes ∈ zg_tb := zg_m7 (i := 210) rfl rfl
set_option maxRecDepth 100000 in
theorem zw7_213 : Jvm.Cond.code yX12_minutes prog_14_method_86_code 4 (some .int) ∈ zg_tb := zg_m7 (i := 213) rfl rfl
set_option maxRecDepth 100000 in
theorem zw7_211 : Jvm.Cond.instanceMethod yX12_minutes ∈ zg_tb := zg_m7 (i := 211) rfl rfl
set_option maxRecDepth 100000 in
theorem zw7_212 : Jvm.Cond.selects RX12 yX12_minutes yX12_minutes ∈ zg_tb := zg_m7 (i := 212) rfl rfl
set_option maxRecDepth 100000 in
theorem zy_yX12_minutes_V : (Jvm.Cond.instanceMethod yX12_minutes ∈ zg_tb ∧ Jvm.Cond.selects yX12_minutes.cls yX12_minutes yX12_minutes ∈ zg_tb ∧ Jvm.Cond.initialized yX12_minutes.cls ∈ zg_tb ∧ Jvm.Cond.code yX12_minutes prog_14_method_86_code 4 (some .int) ∈ zg_tb) ∧ zg_dm yX12_minutes 1 := ⟨⟨zw7_211, zw7_212, zw1_12, zw7_213⟩, by decide +kernel, by decide +kernel, by decide +kernel⟩
set_option maxRecDepth 100000 in
theorem zw4_230 : Jvm.Cond.methodLink RL 105 yX11_mark ∈ zg_tb := zg_m4 (i := 230) rfl rfl
set_option maxRecDepth 100000 in
theorem zw4_233 : Jvm.Cond.code yX11_mark prog_1_method_22_code 3 (some .boolean) ∈ zg_tb := zg_m4 (i := 233) rfl rfl
set_option maxRecDepth 100000 in
theorem zw4_231 : Jvm.Cond.instanceMethod yX11_mark ∈ zg_tb := zg_m4 (i := 231) rfl rfl
set_option maxRecDepth 100000 in
theorem zw4_232 : Jvm.Cond.selects RX11 yX11_mark yX11_mark ∈ zg_tb := zg_m4 (i := 232) rfl rfl
set_option maxRecDepth 100000 in
theorem zy_yX11_mark_V : (Jvm.Cond.instanceMethod yX11_mark ∈ zg_tb ∧ Jvm.Cond.selects yX11_mark.cls yX11_mark yX11_mark ∈ zg_tb ∧ Jvm.Cond.initialized yX11_mark.cls ∈ zg_tb ∧ Jvm.Cond.code yX11_mark prog_1_method_22_code 3 (some .boolean) ∈ zg_tb) ∧ zg_dm yX11_mark 2 := ⟨⟨zw4_231, zw4_232, zw1_1, zw4_233⟩, by decide +kernel, by decide +kernel, by decide +kernel⟩
set_option maxRecDepth 100000 in
theorem zw7_106 : Jvm.Cond.methodLink RL 108 yX12_mark ∈ zg_tb := zg_m7 (i := 106) rfl rfl
set_option maxRecDepth 100000 in
theorem zw7_109 : Jvm.Cond.code yX12_mark prog_14_method_62_code 3 (some .boolean) ∈ zg_tb := zg_m7 (i := 109) rfl rfl
set_option maxRecDepth 100000 in
theorem zw7_107 : Jvm.Cond.instanceMethod yX12_mark ∈ zg_tb := zg_m7 (i := 107) rfl rfl
set_option maxRecDepth 100000 in
theorem zw7_108 : Jvm.Cond.selects RX12 yX12_mark yX12_mark ∈ zg_tb := zg_m7 (i := 108) rfl rfl
set_option maxRecDepth 100000 in
theorem zy_yX12_mark_V : (Jvm.Cond.instanceMethod yX12_mark ∈ zg_tb ∧ Jvm.Cond.selects yX12_mark.cls yX12_mark yX12_mark ∈ zg_tb ∧ Jvm.Cond.initialized yX12_mark.cls ∈ zg_tb ∧ Jvm.Cond.code yX12_mark prog_14_method_62_code 3 (some .boolean) ∈ zg_tb) ∧ zg_dm yX12_mark 2 := ⟨⟨zw7_107, zw7_108, zw1_12, zw7_109⟩, by decide +kernel, by decide +kernel, by decide +kernel⟩
set_option maxRecDepth 100000 in
theorem zw4_238 : Jvm.Cond.methodLink RL 109 yX11_weight ∈ zg_tb := zg_m4 (i := 238) rfl rfl
set_option maxRecDepth 100000 in
theorem zw5_1 : Jvm.Cond.code yX11_weight prog_1_method_23_code 4 (some .int) ∈ zg_tb := zg_m5 (i := 1) rfl rfl
set_option maxRecDepth 100000 in
theorem zw4_239 : Jvm.Cond.instanceMethod yX11_weight ∈ zg_tb := zg_m4 (i := 239) rfl rfl
set_option maxRecDepth 100000 in
theorem zw5_0 : Jvm.Cond.selects RX11 yX11_weight yX11_weight ∈ zg_tb := zg_m5 (i := 0) rfl rfl
set_option maxRecDepth 100000 in
theorem zy_yX11_weight_V : (Jvm.Cond.instanceMethod yX11_weight ∈ zg_tb ∧ Jvm.Cond.selects yX11_weight.cls yX11_weight yX11_weight ∈ zg_tb ∧ Jvm.Cond.initialized yX11_weight.cls ∈ zg_tb ∧ Jvm.Cond.code yX11_weight prog_1_method_23_code 4 (some .int) ∈ zg_tb) ∧ zg_dm yX11_weight 2 := ⟨⟨zw4_239, zw5_0, zw1_1, zw5_1⟩, by decide +kernel, by decide +kernel, by decide +kernel⟩
set_option maxRecDepth 100000 in
theorem zw7_110 : Jvm.Cond.methodLink RL 112 yX12_weight ∈ zg_tb := zg_m7 (i := 110) rfl rfl
set_option maxRecDepth 100000 in
theorem zw7_113 : Jvm.Cond.code yX12_weight prog_14_method_69_code 3 (some .int) ∈ zg_tb := zg_m7 (i := 113) rfl rfl
set_option maxRecDepth 100000 in
theorem zw7_111 : Jvm.Cond.instanceMethod yX12_weight ∈ zg_tb := zg_m7 (i := 111) rfl rfl
set_option maxRecDepth 100000 in
theorem zw7_112 : Jvm.Cond.selects RX12 yX12_weight yX12_weight ∈ zg_tb := zg_m7 (i := 112) rfl rfl
set_option maxRecDepth 100000 in
theorem zy_yX12_weight_V : (Jvm.Cond.instanceMethod yX12_weight ∈ zg_tb ∧ Jvm.Cond.selects yX12_weight.cls yX12_weight yX12_weight ∈ zg_tb ∧ Jvm.Cond.initialized yX12_weight.cls ∈ zg_tb ∧ Jvm.Cond.code yX12_weight prog_14_method_69_code 3 (some .int) ∈ zg_tb) ∧ zg_dm yX12_weight 2 := ⟨⟨zw7_111, zw7_112, zw1_12, zw7_113⟩, by decide +kernel, by decide +kernel, by decide +kernel⟩
set_option maxRecDepth 100000 in
theorem zw5_7 : Jvm.Cond.methodLink RL 113 yX11_decides ∈ zg_tb := zg_m5 (i := 7) rfl rfl
set_option maxRecDepth 100000 in
theorem zw5_10 : Jvm.Cond.code yX11_decides prog_1_method_24_code 5 (some .int) ∈ zg_tb := zg_m5 (i := 10) rfl rfl
set_option maxRecDepth 100000 in
theorem zw5_8 : Jvm.Cond.instanceMethod yX11_decides ∈ zg_tb := zg_m5 (i := 8) rfl rfl
set_option maxRecDepth 100000 in
theorem zw5_9 : Jvm.Cond.selects RX11 yX11_decides yX11_decides ∈ zg_tb := zg_m5 (i := 9) rfl rfl
set_option maxRecDepth 100000 in
theorem zy_yX11_decides_V : (Jvm.Cond.instanceMethod yX11_decides ∈ zg_tb ∧ Jvm.Cond.selects yX11_decides.cls yX11_decides yX11_decides ∈ zg_tb ∧ Jvm.Cond.initialized yX11_decides.cls ∈ zg_tb ∧ Jvm.Cond.code yX11_decides prog_1_method_24_code 5 (some .int) ∈ zg_tb) ∧ zg_dm yX11_decides 3 := ⟨⟨zw5_8, zw5_9, zw1_1, zw5_10⟩, by decide +kernel, by decide +kernel, by decide +kernel⟩
set_option maxRecDepth 100000 in
theorem zw7_140 : Jvm.Cond.methodLink RL 117 yX12_decides ∈ zg_tb := zg_m7 (i := 140) rfl rfl
set_option maxRecDepth 100000 in
theorem zw7_143 : Jvm.Cond.code yX12_decides prog_14_method_70_code 4 (some .int) ∈ zg_tb := zg_m7 (i := 143) rfl rfl
set_option maxRecDepth 100000 in
theorem zw7_141 : Jvm.Cond.instanceMethod yX12_decides ∈ zg_tb := zg_m7 (i := 141) rfl rfl
set_option maxRecDepth 100000 in
theorem zw7_142 : Jvm.Cond.selects RX12 yX12_decides yX12_decides ∈ zg_tb := zg_m7 (i := 142) rfl rfl
set_option maxRecDepth 100000 in
theorem zy_yX12_decides_V : (Jvm.Cond.instanceMethod yX12_decides ∈ zg_tb ∧ Jvm.Cond.selects yX12_decides.cls yX12_decides yX12_decides ∈ zg_tb ∧ Jvm.Cond.initialized yX12_decides.cls ∈ zg_tb ∧ Jvm.Cond.code yX12_decides prog_14_method_70_code 4 (some .int) ∈ zg_tb) ∧ zg_dm yX12_decides 3 := ⟨⟨zw7_141, zw7_142, zw1_12, zw7_143⟩, by decide +kernel, by decide +kernel, by decide +kernel⟩
set_option maxRecDepth 100000 in
theorem zw5_11 : Jvm.Cond.methodLink RL 118 yX11_moved ∈ zg_tb := zg_m5 (i := 11) rfl rfl
set_option maxRecDepth 100000 in
theorem zw5_14 : Jvm.Cond.code yX11_moved prog_1_method_25_code 5 (some .int) ∈ zg_tb := zg_m5 (i := 14) rfl rfl
set_option maxRecDepth 100000 in
theorem zw5_12 : Jvm.Cond.instanceMethod yX11_moved ∈ zg_tb := zg_m5 (i := 12) rfl rfl
set_option maxRecDepth 100000 in
theorem zw5_13 : Jvm.Cond.selects RX11 yX11_moved yX11_moved ∈ zg_tb := zg_m5 (i := 13) rfl rfl
set_option maxRecDepth 100000 in
theorem zy_yX11_moved_V : (Jvm.Cond.instanceMethod yX11_moved ∈ zg_tb ∧ Jvm.Cond.selects yX11_moved.cls yX11_moved yX11_moved ∈ zg_tb ∧ Jvm.Cond.initialized yX11_moved.cls ∈ zg_tb ∧ Jvm.Cond.code yX11_moved prog_1_method_25_code 5 (some .int) ∈ zg_tb) ∧ zg_dm yX11_moved 2 := ⟨⟨zw5_12, zw5_13, zw1_1, zw5_14⟩, by decide +kernel, by decide +kernel, by decide +kernel⟩
set_option maxRecDepth 100000 in
theorem zw7_144 : Jvm.Cond.methodLink RL 121 yX12_moved ∈ zg_tb := zg_m7 (i := 144) rfl rfl
set_option maxRecDepth 100000 in
theorem zw7_147 : Jvm.Cond.code yX12_moved prog_14_method_71_code 4 (some .int) ∈ zg_tb := zg_m7 (i := 147) rfl rfl
set_option maxRecDepth 100000 in
theorem zw7_145 : Jvm.Cond.instanceMethod yX12_moved ∈ zg_tb := zg_m7 (i := 145) rfl rfl
set_option maxRecDepth 100000 in
theorem zw7_146 : Jvm.Cond.selects RX12 yX12_moved yX12_moved ∈ zg_tb := zg_m7 (i := 146) rfl rfl
set_option maxRecDepth 100000 in
theorem zy_yX12_moved_V : (Jvm.Cond.instanceMethod yX12_moved ∈ zg_tb ∧ Jvm.Cond.selects yX12_moved.cls yX12_moved yX12_moved ∈ zg_tb ∧ Jvm.Cond.initialized yX12_moved.cls ∈ zg_tb ∧ Jvm.Cond.code yX12_moved prog_14_method_71_code 4 (some .int) ∈ zg_tb) ∧ zg_dm yX12_moved 2 := ⟨⟨zw7_145, zw7_146, zw1_12, zw7_147⟩, by decide +kernel, by decide +kernel, by decide +kernel⟩
set_option maxRecDepth 100000 in
theorem zw5_15 : Jvm.Cond.methodLink RL 122 yX11_lose ∈ zg_tb := zg_m5 (i := 15) rfl rfl
set_option maxRecDepth 100000 in
theorem zw5_18 : Jvm.Cond.code yX11_lose prog_1_method_26_code 4 (some .int) ∈ zg_tb := zg_m5 (i := 18) rfl rfl
set_option maxRecDepth 100000 in
theorem zw5_16 : Jvm.Cond.instanceMethod yX11_lose ∈ zg_tb := zg_m5 (i := 16) rfl rfl
set_option maxRecDepth 100000 in
theorem zw5_17 : Jvm.Cond.selects RX11 yX11_lose yX11_lose ∈ zg_tb := zg_m5 (i := 17) rfl rfl
set_option maxRecDepth 100000 in
theorem zy_yX11_lose_V : (Jvm.Cond.instanceMethod yX11_lose ∈ zg_tb ∧ Jvm.Cond.selects yX11_lose.cls yX11_lose yX11_lose ∈ zg_tb ∧ Jvm.Cond.initialized yX11_lose.cls ∈ zg_tb ∧ Jvm.Cond.code yX11_lose prog_1_method_26_code 4 (some .int) ∈ zg_tb) ∧ zg_dm yX11_lose 3 := ⟨⟨zw5_16, zw5_17, zw1_1, zw5_18⟩, by decide +kernel, by decide +kernel, by decide +kernel⟩
set_option maxRecDepth 100000 in
theorem zw7_148 : Jvm.Cond.methodLink RL 125 yX12_lose ∈ zg_tb := zg_m7 (i := 148) rfl rfl
set_option maxRecDepth 100000 in
theorem zw7_151 : Jvm.Cond.code yX12_lose prog_14_method_74_code 4 (some .int) ∈ zg_tb := zg_m7 (i := 151) rfl rfl
set_option maxRecDepth 100000 in
theorem zw7_149 : Jvm.Cond.instanceMethod yX12_lose ∈ zg_tb := zg_m7 (i := 149) rfl rfl
set_option maxRecDepth 100000 in
theorem zw7_150 : Jvm.Cond.selects RX12 yX12_lose yX12_lose ∈ zg_tb := zg_m7 (i := 150) rfl rfl
set_option maxRecDepth 100000 in
theorem zy_yX12_lose_V : (Jvm.Cond.instanceMethod yX12_lose ∈ zg_tb ∧ Jvm.Cond.selects yX12_lose.cls yX12_lose yX12_lose ∈ zg_tb ∧ Jvm.Cond.initialized yX12_lose.cls ∈ zg_tb ∧ Jvm.Cond.code yX12_lose prog_14_method_74_code 4 (some .int) ∈ zg_tb) ∧ zg_dm yX12_lose 3 := ⟨⟨zw7_149, zw7_150, zw1_12, zw7_151⟩, by decide +kernel, by decide +kernel, by decide +kernel⟩
set_option maxRecDepth 100000 in
theorem zw5_31 : Jvm.Cond.methodLink RL 126 yX11_best ∈ zg_tb := zg_m5 (i := 31) rfl rfl
set_option maxRecDepth 100000 in
theorem zw5_34 : Jvm.Cond.code yX11_best prog_1_method_27_code 8 (some .int) ∈ zg_tb := zg_m5 (i := 34) rfl rfl
set_option maxRecDepth 100000 in
theorem zw5_32 : Jvm.Cond.instanceMethod yX11_best ∈ zg_tb := zg_m5 (i := 32) rfl rfl
set_option maxRecDepth 100000 in
theorem zw5_33 : Jvm.Cond.selects RX11 yX11_best yX11_best ∈ zg_tb := zg_m5 (i := 33) rfl rfl
set_option maxRecDepth 100000 in
theorem zy_yX11_best_V : (Jvm.Cond.instanceMethod yX11_best ∈ zg_tb ∧ Jvm.Cond.selects yX11_best.cls yX11_best yX11_best ∈ zg_tb ∧ Jvm.Cond.initialized yX11_best.cls ∈ zg_tb ∧ Jvm.Cond.code yX11_best prog_1_method_27_code 8 (some .int) ∈ zg_tb) ∧ zg_dm yX11_best 1 := ⟨⟨zw5_32, zw5_33, zw1_1, zw5_34⟩, by decide +kernel, by decide +kernel, by decide +kernel⟩
set_option maxRecDepth 100000 in
theorem zw7_160 : Jvm.Cond.methodLink RL 129 yX12_best ∈ zg_tb := zg_m7 (i := 160) rfl rfl
set_option maxRecDepth 100000 in
theorem zw7_163 : Jvm.Cond.code yX12_best prog_14_method_75_code 6 (some .int) ∈ zg_tb := zg_m7 (i := 163) rfl rfl
set_option maxRecDepth 100000 in
theorem zw7_161 : Jvm.Cond.instanceMethod yX12_best ∈ zg_tb := zg_m7 (i := 161) rfl rfl
set_option maxRecDepth 100000 in
theorem zw7_162 : Jvm.Cond.selects RX12 yX12_best yX12_best ∈ zg_tb := zg_m7 (i := 162) rfl rfl
set_option maxRecDepth 100000 in
theorem zy_yX12_best_V : (Jvm.Cond.instanceMethod yX12_best ∈ zg_tb ∧ Jvm.Cond.selects yX12_best.cls yX12_best yX12_best ∈ zg_tb ∧ Jvm.Cond.initialized yX12_best.cls ∈ zg_tb ∧ Jvm.Cond.code yX12_best prog_14_method_75_code 6 (some .int) ∈ zg_tb) ∧ zg_dm yX12_best 1 := ⟨⟨zw7_161, zw7_162, zw1_12, zw7_163⟩, by decide +kernel, by decide +kernel, by decide +kernel⟩
set_option maxRecDepth 100000 in
theorem zw5_35 : Jvm.Cond.methodLink RL 130 yX11_path ∈ zg_tb := zg_m5 (i := 35) rfl rfl
set_option maxRecDepth 100000 in
theorem zw5_38 : Jvm.Cond.code yX11_path prog_1_method_28_code 5 (some .int) ∈ zg_tb := zg_m5 (i := 38) rfl rfl
set_option maxRecDepth 100000 in
theorem zw5_36 : Jvm.Cond.instanceMethod yX11_path ∈ zg_tb := zg_m5 (i := 36) rfl rfl
set_option maxRecDepth 100000 in
theorem zw5_37 : Jvm.Cond.selects RX11 yX11_path yX11_path ∈ zg_tb := zg_m5 (i := 37) rfl rfl
set_option maxRecDepth 100000 in
theorem zy_yX11_path_V : (Jvm.Cond.instanceMethod yX11_path ∈ zg_tb ∧ Jvm.Cond.selects yX11_path.cls yX11_path yX11_path ∈ zg_tb ∧ Jvm.Cond.initialized yX11_path.cls ∈ zg_tb ∧ Jvm.Cond.code yX11_path prog_1_method_28_code 5 (some .int) ∈ zg_tb) ∧ zg_dm yX11_path 3 := ⟨⟨zw5_36, zw5_37, zw1_1, zw5_38⟩, by decide +kernel, by decide +kernel, by decide +kernel⟩
set_option maxRecDepth 100000 in
theorem zw7_230 : Jvm.Cond.methodLink RL 133 yX12_path ∈ zg_tb := zg_m7 (i := 230) rfl rfl
set_option maxRecDepth 100000 in
theorem zw7_233 : Jvm.Cond.code yX12_path prog_14_method_87_code 4 (some .int) ∈ zg_tb := zg_m7 (i := 233) rfl rfl
set_option maxRecDepth 100000 in
theorem zw7_231 : Jvm.Cond.instanceMethod yX12_path ∈ zg_tb := zg_m7 (i := 231) rfl rfl
set_option maxRecDepth 100000 in
theorem zw7_232 : Jvm.Cond.selects RX12 yX12_path yX12_path ∈ zg_tb := zg_m7 (i := 232) rfl rfl
set_option maxRecDepth 100000 in
theorem zy_yX12_path_V : (Jvm.Cond.instanceMethod yX12_path ∈ zg_tb ∧ Jvm.Cond.selects yX12_path.cls yX12_path yX12_path ∈ zg_tb ∧ Jvm.Cond.initialized yX12_path.cls ∈ zg_tb ∧ Jvm.Cond.code yX12_path prog_14_method_87_code 4 (some .int) ∈ zg_tb) ∧ zg_dm yX12_path 3 := ⟨⟨zw7_231, zw7_232, zw1_12, zw7_233⟩, by decide +kernel, by decide +kernel, by decide +kernel⟩
set_option maxRecDepth 100000 in
theorem zw5_43 : Jvm.Cond.methodLink RL 134 yX11_falsely ∈ zg_tb := zg_m5 (i := 43) rfl rfl
set_option maxRecDepth 100000 in
theorem zw5_46 : Jvm.Cond.code yX11_falsely prog_1_method_29_code 4 (some .int) ∈ zg_tb := zg_m5 (i := 46) rfl rfl
set_option maxRecDepth 100000 in
theorem zw5_44 : Jvm.Cond.instanceMethod yX11_falsely ∈ zg_tb := zg_m5 (i := 44) rfl rfl
set_option maxRecDepth 100000 in
theorem zw5_45 : Jvm.Cond.selects RX11 yX11_falsely yX11_falsely ∈ zg_tb := zg_m5 (i := 45) rfl rfl
set_option maxRecDepth 100000 in
theorem zy_yX11_falsely_V : (Jvm.Cond.instanceMethod yX11_falsely ∈ zg_tb ∧ Jvm.Cond.selects yX11_falsely.cls yX11_falsely yX11_falsely ∈ zg_tb ∧ Jvm.Cond.initialized yX11_falsely.cls ∈ zg_tb ∧ Jvm.Cond.code yX11_falsely prog_1_method_29_code 4 (some .int) ∈ zg_tb) ∧ zg_dm yX11_falsely 1 := ⟨⟨zw5_44, zw5_45, zw1_1, zw5_46⟩, by decide +kernel, by decide +kernel, by decide +kernel⟩
set_option maxRecDepth 100000 in
theorem zw7_234 : Jvm.Cond.methodLink RL 137 yX12_falsely ∈ zg_tb := zg_m7 (i := 234) rfl rfl
set_option maxRecDepth 100000 in
theorem zw7_237 : Jvm.Cond.code yX12_falsely prog_14_method_88_code 4 (some .int) ∈ zg_tb := zg_m7 (i := 237) rfl rfl
set_option maxRecDepth 100000 in
theorem zw7_235 : Jvm.Cond.instanceMethod yX12_falsely ∈ zg_tb := zg_m7 (i := 235) rfl rfl
set_option maxRecDepth 100000 in
theorem zw7_236 : Jvm.Cond.selects RX12 yX12_falsely yX12_falsely ∈ zg_tb := zg_m7 (i := 236) rfl rfl
set_option maxRecDepth 100000 in
theorem zy_yX12_falsely_V : (Jvm.Cond.instanceMethod yX12_falsely ∈ zg_tb ∧ Jvm.Cond.selects yX12_falsely.cls yX12_falsely yX12_falsely ∈ zg_tb ∧ Jvm.Cond.initialized yX12_falsely.cls ∈ zg_tb ∧ Jvm.Cond.code yX12_falsely prog_14_method_88_code 4 (some .int) ∈ zg_tb) ∧ zg_dm yX12_falsely 1 := ⟨⟨zw7_235, zw7_236, zw1_12, zw7_237⟩, by decide +kernel, by decide +kernel, by decide +kernel⟩
set_option maxRecDepth 100000 in
theorem zw5_47 : Jvm.Cond.methodLink RL 138 yX11_give ∈ zg_tb := zg_m5 (i := 47) rfl rfl
set_option maxRecDepth 100000 in
theorem zw5_50 : Jvm.Cond.code yX11_give prog_1_method_30_code 3 (some .boolean) ∈ zg_tb := zg_m5 (i := 50) rfl rfl
set_option maxRecDepth 100000 in
theorem zw5_48 : Jvm.Cond.instanceMethod yX11_give ∈ zg_tb := zg_m5 (i := 48) rfl rfl
set_option maxRecDepth 100000 in
theorem zw5_49 : Jvm.Cond.selects RX11 yX11_give yX11_give ∈ zg_tb := zg_m5 (i := 49) rfl rfl
set_option maxRecDepth 100000 in
theorem zy_yX11_give_V : (Jvm.Cond.instanceMethod yX11_give ∈ zg_tb ∧ Jvm.Cond.selects yX11_give.cls yX11_give yX11_give ∈ zg_tb ∧ Jvm.Cond.initialized yX11_give.cls ∈ zg_tb ∧ Jvm.Cond.code yX11_give prog_1_method_30_code 3 (some .boolean) ∈ zg_tb) ∧ zg_dm yX11_give 2 := ⟨⟨zw5_48, zw5_49, zw1_1, zw5_50⟩, by decide +kernel, by decide +kernel, by decide +kernel⟩
set_option maxRecDepth 100000 in
theorem zw6_156 : Jvm.Cond.methodLink RL 141 yX12_give ∈ zg_tb := zg_m6 (i := 156) rfl rfl
set_option maxRecDepth 100000 in
theorem zw6_159 : Jvm.Cond.code yX12_give prog_14_method_10_code 3 (some .boolean) ∈ zg_tb := zg_m6 (i := 159) rfl rfl
set_option maxRecDepth 100000 in
theorem zw6_157 : Jvm.Cond.instanceMethod yX12_give ∈ zg_tb := zg_m6 (i := 157) rfl rfl
set_option maxRecDepth 100000 in
theorem zw6_158 : Jvm.Cond.selects RX12 yX12_give yX12_give ∈ zg_tb := zg_m6 (i := 158) rfl rfl
set_option maxRecDepth 100000 in
theorem zy_yX12_give_V : (Jvm.Cond.instanceMethod yX12_give ∈ zg_tb ∧ Jvm.Cond.selects yX12_give.cls yX12_give yX12_give ∈ zg_tb ∧ Jvm.Cond.initialized yX12_give.cls ∈ zg_tb ∧ Jvm.Cond.code yX12_give prog_14_method_10_code 3 (some .boolean) ∈ zg_tb) ∧ zg_dm yX12_give 2 := ⟨⟨zw6_157, zw6_158, zw1_12, zw6_159⟩, by decide +kernel, by decide +kernel, by decide +kernel⟩
set_option maxRecDepth 100000 in
theorem zw5_51 : Jvm.Cond.methodLink RL 142 yX11_spread ∈ zg_tb := zg_m5 (i := 51) rfl rfl
set_option maxRecDepth 100000 in
theorem zw5_54 : Jvm.Cond.code yX11_spread prog_1_method_31_code 4 (some .int) ∈ zg_tb := zg_m5 (i := 54) rfl rfl
set_option maxRecDepth 100000 in
theorem zw5_52 : Jvm.Cond.instanceMethod yX11_spread ∈ zg_tb := zg_m5 (i := 52) rfl rfl
set_option maxRecDepth 100000 in
theorem zw5_53 : Jvm.Cond.selects RX11 yX11_spread yX11_spread ∈ zg_tb := zg_m5 (i := 53) rfl rfl
set_option maxRecDepth 100000 in
theorem zy_yX11_spread_V : (Jvm.Cond.instanceMethod yX11_spread ∈ zg_tb ∧ Jvm.Cond.selects yX11_spread.cls yX11_spread yX11_spread ∈ zg_tb ∧ Jvm.Cond.initialized yX11_spread.cls ∈ zg_tb ∧ Jvm.Cond.code yX11_spread prog_1_method_31_code 4 (some .int) ∈ zg_tb) ∧ zg_dm yX11_spread 1 := ⟨⟨zw5_52, zw5_53, zw1_1, zw5_54⟩, by decide +kernel, by decide +kernel, by decide +kernel⟩
set_option maxRecDepth 100000 in
theorem zw7_238 : Jvm.Cond.methodLink RL 145 yX12_spread ∈ zg_tb := zg_m7 (i := 238) rfl rfl
set_option maxRecDepth 100000 in
theorem zw8_1 : Jvm.Cond.code yX12_spread prog_14_method_89_code 7 (some .int) ∈ zg_tb := zg_m8 (i := 1) rfl rfl
set_option maxRecDepth 100000 in
theorem zw7_239 : Jvm.Cond.instanceMethod yX12_spread ∈ zg_tb := zg_m7 (i := 239) rfl rfl
set_option maxRecDepth 100000 in
theorem zw8_0 : Jvm.Cond.selects RX12 yX12_spread yX12_spread ∈ zg_tb := zg_m8 (i := 0) rfl rfl
set_option maxRecDepth 100000 in
theorem zy_yX12_spread_V : (Jvm.Cond.instanceMethod yX12_spread ∈ zg_tb ∧ Jvm.Cond.selects yX12_spread.cls yX12_spread yX12_spread ∈ zg_tb ∧ Jvm.Cond.initialized yX12_spread.cls ∈ zg_tb ∧ Jvm.Cond.code yX12_spread prog_14_method_89_code 7 (some .int) ∈ zg_tb) ∧ zg_dm yX12_spread 1 := ⟨⟨zw7_239, zw8_0, zw1_12, zw8_1⟩, by decide +kernel, by decide +kernel, by decide +kernel⟩
set_option maxRecDepth 100000 in
theorem zw5_72 : Jvm.Cond.methodLink RL 146 yX11_swap ∈ zg_tb := zg_m5 (i := 72) rfl rfl
set_option maxRecDepth 100000 in
theorem zw5_75 : Jvm.Cond.code yX11_swap prog_1_method_32_code 5 (some .int) ∈ zg_tb := zg_m5 (i := 75) rfl rfl
set_option maxRecDepth 100000 in
theorem zw5_73 : Jvm.Cond.instanceMethod yX11_swap ∈ zg_tb := zg_m5 (i := 73) rfl rfl
set_option maxRecDepth 100000 in
theorem zw5_74 : Jvm.Cond.selects RX11 yX11_swap yX11_swap ∈ zg_tb := zg_m5 (i := 74) rfl rfl
set_option maxRecDepth 100000 in
theorem zy_yX11_swap_V : (Jvm.Cond.instanceMethod yX11_swap ∈ zg_tb ∧ Jvm.Cond.selects yX11_swap.cls yX11_swap yX11_swap ∈ zg_tb ∧ Jvm.Cond.initialized yX11_swap.cls ∈ zg_tb ∧ Jvm.Cond.code yX11_swap prog_1_method_32_code 5 (some .int) ∈ zg_tb) ∧ zg_dm yX11_swap 0 := ⟨⟨zw5_73, zw5_74, zw1_1, zw5_75⟩, by decide +kernel, by decide +kernel, by decide +kernel⟩
set_option maxRecDepth 100000 in
theorem zw8_7 : Jvm.Cond.methodLink RL 149 yX12_swap ∈ zg_tb := zg_m8 (i := 7) rfl rfl
set_option maxRecDepth 100000 in
theorem zw8_10 : Jvm.Cond.code yX12_swap prog_14_method_91_code 3 (some .int) ∈ zg_tb := zg_m8 (i := 10) rfl rfl
set_option maxRecDepth 100000 in
theorem zw8_8 : Jvm.Cond.instanceMethod yX12_swap ∈ zg_tb := zg_m8 (i := 8) rfl rfl
set_option maxRecDepth 100000 in
theorem zw8_9 : Jvm.Cond.selects RX12 yX12_swap yX12_swap ∈ zg_tb := zg_m8 (i := 9) rfl rfl
set_option maxRecDepth 100000 in
theorem zy_yX12_swap_V : (Jvm.Cond.instanceMethod yX12_swap ∈ zg_tb ∧ Jvm.Cond.selects yX12_swap.cls yX12_swap yX12_swap ∈ zg_tb ∧ Jvm.Cond.initialized yX12_swap.cls ∈ zg_tb ∧ Jvm.Cond.code yX12_swap prog_14_method_91_code 3 (some .int) ∈ zg_tb) ∧ zg_dm yX12_swap 0 := ⟨⟨zw8_8, zw8_9, zw1_12, zw8_10⟩, by decide +kernel, by decide +kernel, by decide +kernel⟩
set_option maxRecDepth 100000 in
theorem zw5_95 : Jvm.Cond.methodLink RL 150 yX11_round ∈ zg_tb := zg_m5 (i := 95) rfl rfl
set_option maxRecDepth 100000 in
theorem zw5_98 : Jvm.Cond.code yX11_round prog_1_method_33_code 10 (some .int) ∈ zg_tb := zg_m5 (i := 98) rfl rfl
set_option maxRecDepth 100000 in
theorem zw5_96 : Jvm.Cond.instanceMethod yX11_round ∈ zg_tb := zg_m5 (i := 96) rfl rfl
set_option maxRecDepth 100000 in
theorem zw5_97 : Jvm.Cond.selects RX11 yX11_round yX11_round ∈ zg_tb := zg_m5 (i := 97) rfl rfl
set_option maxRecDepth 100000 in
theorem zy_yX11_round_V : (Jvm.Cond.instanceMethod yX11_round ∈ zg_tb ∧ Jvm.Cond.selects yX11_round.cls yX11_round yX11_round ∈ zg_tb ∧ Jvm.Cond.initialized yX11_round.cls ∈ zg_tb ∧ Jvm.Cond.code yX11_round prog_1_method_33_code 10 (some .int) ∈ zg_tb) ∧ zg_dm yX11_round 3 := ⟨⟨zw5_96, zw5_97, zw1_1, zw5_98⟩, by decide +kernel, by decide +kernel, by decide +kernel⟩
set_option maxRecDepth 100000 in
theorem zw8_11 : Jvm.Cond.methodLink RL 153 yX12_round ∈ zg_tb := zg_m8 (i := 11) rfl rfl
set_option maxRecDepth 100000 in
theorem zw8_14 : Jvm.Cond.code yX12_round prog_14_method_94_code 4 (some .int) ∈ zg_tb := zg_m8 (i := 14) rfl rfl
set_option maxRecDepth 100000 in
theorem zw8_12 : Jvm.Cond.instanceMethod yX12_round ∈ zg_tb := zg_m8 (i := 12) rfl rfl
set_option maxRecDepth 100000 in
theorem zw8_13 : Jvm.Cond.selects RX12 yX12_round yX12_round ∈ zg_tb := zg_m8 (i := 13) rfl rfl
set_option maxRecDepth 100000 in
theorem zy_yX12_round_V : (Jvm.Cond.instanceMethod yX12_round ∈ zg_tb ∧ Jvm.Cond.selects yX12_round.cls yX12_round yX12_round ∈ zg_tb ∧ Jvm.Cond.initialized yX12_round.cls ∈ zg_tb ∧ Jvm.Cond.code yX12_round prog_14_method_94_code 4 (some .int) ∈ zg_tb) ∧ zg_dm yX12_round 3 := ⟨⟨zw8_12, zw8_13, zw1_12, zw8_14⟩, by decide +kernel, by decide +kernel, by decide +kernel⟩
set_option maxRecDepth 100000 in
theorem zw5_109 : Jvm.Cond.methodLink RL 154 yX11_ends ∈ zg_tb := zg_m5 (i := 109) rfl rfl
set_option maxRecDepth 100000 in
theorem zw5_112 : Jvm.Cond.code yX11_ends prog_1_method_34_code 8 (some .int) ∈ zg_tb := zg_m5 (i := 112) rfl rfl
set_option maxRecDepth 100000 in
theorem zw5_110 : Jvm.Cond.instanceMethod yX11_ends ∈ zg_tb := zg_m5 (i := 110) rfl rfl
set_option maxRecDepth 100000 in
theorem zw5_111 : Jvm.Cond.selects RX11 yX11_ends yX11_ends ∈ zg_tb := zg_m5 (i := 111) rfl rfl
set_option maxRecDepth 100000 in
theorem zy_yX11_ends_V : (Jvm.Cond.instanceMethod yX11_ends ∈ zg_tb ∧ Jvm.Cond.selects yX11_ends.cls yX11_ends yX11_ends ∈ zg_tb ∧ Jvm.Cond.initialized yX11_ends.cls ∈ zg_tb ∧ Jvm.Cond.code yX11_ends prog_1_method_34_code 8 (some .int) ∈ zg_tb) ∧ zg_dm yX11_ends 4 := ⟨⟨zw5_110, zw5_111, zw1_1, zw5_112⟩, by decide +kernel, by decide +kernel, by decide +kernel⟩
set_option maxRecDepth 100000 in
theorem zw8_23 : Jvm.Cond.methodLink RL 157 yX12_ends ∈ zg_tb := zg_m8 (i := 23) rfl rfl
set_option maxRecDepth 100000 in
theorem zw8_26 : Jvm.Cond.code yX12_ends prog_14_method_95_code 6 (some .int) ∈ zg_tb := zg_m8 (i := 26) rfl rfl
set_option maxRecDepth 100000 in
theorem zw8_24 : Jvm.Cond.instanceMethod yX12_ends ∈ zg_tb := zg_m8 (i := 24) rfl rfl
set_option maxRecDepth 100000 in
theorem zw8_25 : Jvm.Cond.selects RX12 yX12_ends yX12_ends ∈ zg_tb := zg_m8 (i := 25) rfl rfl
set_option maxRecDepth 100000 in
theorem zy_yX12_ends_V : (Jvm.Cond.instanceMethod yX12_ends ∈ zg_tb ∧ Jvm.Cond.selects yX12_ends.cls yX12_ends yX12_ends ∈ zg_tb ∧ Jvm.Cond.initialized yX12_ends.cls ∈ zg_tb ∧ Jvm.Cond.code yX12_ends prog_14_method_95_code 6 (some .int) ∈ zg_tb) ∧ zg_dm yX12_ends 4 := ⟨⟨zw8_24, zw8_25, zw1_12, zw8_26⟩, by decide +kernel, by decide +kernel, by decide +kernel⟩
set_option maxRecDepth 100000 in
theorem zw5_114 : Jvm.Cond.methodLink RL 158 yX11_hands ∈ zg_tb := zg_m5 (i := 114) rfl rfl
set_option maxRecDepth 100000 in
theorem zw5_117 : Jvm.Cond.code yX11_hands prog_1_method_35_code 5 (some .int) ∈ zg_tb := zg_m5 (i := 117) rfl rfl
set_option maxRecDepth 100000 in
theorem zw5_115 : Jvm.Cond.instanceMethod yX11_hands ∈ zg_tb := zg_m5 (i := 115) rfl rfl
set_option maxRecDepth 100000 in
theorem zw5_116 : Jvm.Cond.selects RX11 yX11_hands yX11_hands ∈ zg_tb := zg_m5 (i := 116) rfl rfl
set_option maxRecDepth 100000 in
theorem zy_yX11_hands_V : (Jvm.Cond.instanceMethod yX11_hands ∈ zg_tb ∧ Jvm.Cond.selects yX11_hands.cls yX11_hands yX11_hands ∈ zg_tb ∧ Jvm.Cond.initialized yX11_hands.cls ∈ zg_tb ∧ Jvm.Cond.code yX11_hands prog_1_method_35_code 5 (some .int) ∈ zg_tb) ∧ zg_dm yX11_hands 1 := ⟨⟨zw5_115, zw5_116, zw1_1, zw5_117⟩, by decide +kernel, by decide +kernel, by decide +kernel⟩
set_option maxRecDepth 100000 in
theorem zw8_28 : Jvm.Cond.methodLink RL 161 yX12_hands ∈ zg_tb := zg_m8 (i := 28) rfl rfl
set_option maxRecDepth 100000 in
theorem zw8_31 : Jvm.Cond.code yX12_hands prog_14_method_97_code 7 (some .int) ∈ zg_tb := zg_m8 (i := 31) rfl rfl
set_option maxRecDepth 100000 in
theorem zw8_29 : Jvm.Cond.instanceMethod yX12_hands ∈ zg_tb := zg_m8 (i := 29) rfl rfl
set_option maxRecDepth 100000 in
theorem zw8_30 : Jvm.Cond.selects RX12 yX12_hands yX12_hands ∈ zg_tb := zg_m8 (i := 30) rfl rfl
set_option maxRecDepth 100000 in
theorem zy_yX12_hands_V : (Jvm.Cond.instanceMethod yX12_hands ∈ zg_tb ∧ Jvm.Cond.selects yX12_hands.cls yX12_hands yX12_hands ∈ zg_tb ∧ Jvm.Cond.initialized yX12_hands.cls ∈ zg_tb ∧ Jvm.Cond.code yX12_hands prog_14_method_97_code 7 (some .int) ∈ zg_tb) ∧ zg_dm yX12_hands 1 := ⟨⟨zw8_29, zw8_30, zw1_12, zw8_31⟩, by decide +kernel, by decide +kernel, by decide +kernel⟩
set_option maxRecDepth 100000 in
theorem zw5_128 : Jvm.Cond.methodLink RL 162 yX11_measure ∈ zg_tb := zg_m5 (i := 128) rfl rfl
set_option maxRecDepth 100000 in
theorem zw5_131 : Jvm.Cond.code yX11_measure prog_1_method_36_code 2 (some .int) ∈ zg_tb := zg_m5 (i := 131) rfl rfl
set_option maxRecDepth 100000 in
theorem zw5_129 : Jvm.Cond.instanceMethod yX11_measure ∈ zg_tb := zg_m5 (i := 129) rfl rfl
set_option maxRecDepth 100000 in
theorem zw5_130 : Jvm.Cond.selects RX11 yX11_measure yX11_measure ∈ zg_tb := zg_m5 (i := 130) rfl rfl
set_option maxRecDepth 100000 in
theorem zy_yX11_measure_V : (Jvm.Cond.instanceMethod yX11_measure ∈ zg_tb ∧ Jvm.Cond.selects yX11_measure.cls yX11_measure yX11_measure ∈ zg_tb ∧ Jvm.Cond.initialized yX11_measure.cls ∈ zg_tb ∧ Jvm.Cond.code yX11_measure prog_1_method_36_code 2 (some .int) ∈ zg_tb) ∧ zg_dm yX11_measure 1 := ⟨⟨zw5_129, zw5_130, zw1_1, zw5_131⟩, by decide +kernel, by decide +kernel, by decide +kernel⟩
set_option maxRecDepth 100000 in
theorem zw8_36 : Jvm.Cond.methodLink RL 165 yX12_measure ∈ zg_tb := zg_m8 (i := 36) rfl rfl
set_option maxRecDepth 100000 in
theorem zw8_39 : Jvm.Cond.code yX12_measure prog_14_method_98_code 2 (some .int) ∈ zg_tb := zg_m8 (i := 39) rfl rfl
set_option maxRecDepth 100000 in
theorem zw8_37 : Jvm.Cond.instanceMethod yX12_measure ∈ zg_tb := zg_m8 (i := 37) rfl rfl
set_option maxRecDepth 100000 in
theorem zw8_38 : Jvm.Cond.selects RX12 yX12_measure yX12_measure ∈ zg_tb := zg_m8 (i := 38) rfl rfl
set_option maxRecDepth 100000 in
theorem zy_yX12_measure_V : (Jvm.Cond.instanceMethod yX12_measure ∈ zg_tb ∧ Jvm.Cond.selects yX12_measure.cls yX12_measure yX12_measure ∈ zg_tb ∧ Jvm.Cond.initialized yX12_measure.cls ∈ zg_tb ∧ Jvm.Cond.code yX12_measure prog_14_method_98_code 2 (some .int) ∈ zg_tb) ∧ zg_dm yX12_measure 1 := ⟨⟨zw8_37, zw8_38, zw1_12, zw8_39⟩, by decide +kernel, by decide +kernel, by decide +kernel⟩
set_option maxRecDepth 100000 in
theorem zw5_133 : Jvm.Cond.methodLink RL 166 yX11_plan ∈ zg_tb := zg_m5 (i := 133) rfl rfl
set_option maxRecDepth 100000 in
theorem zw5_136 : Jvm.Cond.code yX11_plan prog_1_method_37_code 11 (some .int) ∈ zg_tb := zg_m5 (i := 136) rfl rfl
set_option maxRecDepth 100000 in
theorem zw5_134 : Jvm.Cond.instanceMethod yX11_plan ∈ zg_tb := zg_m5 (i := 134) rfl rfl
set_option maxRecDepth 100000 in
theorem zw5_135 : Jvm.Cond.selects RX11 yX11_plan yX11_plan ∈ zg_tb := zg_m5 (i := 135) rfl rfl
set_option maxRecDepth 100000 in
theorem zy_yX11_plan_V : (Jvm.Cond.instanceMethod yX11_plan ∈ zg_tb ∧ Jvm.Cond.selects yX11_plan.cls yX11_plan yX11_plan ∈ zg_tb ∧ Jvm.Cond.initialized yX11_plan.cls ∈ zg_tb ∧ Jvm.Cond.code yX11_plan prog_1_method_37_code 11 (some .int) ∈ zg_tb) ∧ zg_dm yX11_plan 2 := ⟨⟨zw5_134, zw5_135, zw1_1, zw5_136⟩, by decide +kernel, by decide +kernel, by decide +kernel⟩
set_option maxRecDepth 100000 in
theorem zw8_41 : Jvm.Cond.methodLink RL 169 yX12_plan ∈ zg_tb := zg_m8 (i := 41) rfl rfl
set_option maxRecDepth 100000 in
theorem zw8_44 : Jvm.Cond.code yX12_plan prog_14_method_100_code 9 (some .int) ∈ zg_tb := zg_m8 (i := 44) rfl rfl
set_option maxRecDepth 100000 in
theorem zw8_42 : Jvm.Cond.instanceMethod yX12_plan ∈ zg_tb := zg_m8 (i := 42) rfl rfl
set_option maxRecDepth 100000 in
theorem zw8_43 : Jvm.Cond.selects RX12 yX12_plan yX12_plan ∈ zg_tb := zg_m8 (i := 43) rfl rfl
set_option maxRecDepth 100000 in
theorem zy_yX12_plan_V : (Jvm.Cond.instanceMethod yX12_plan ∈ zg_tb ∧ Jvm.Cond.selects yX12_plan.cls yX12_plan yX12_plan ∈ zg_tb ∧ Jvm.Cond.initialized yX12_plan.cls ∈ zg_tb ∧ Jvm.Cond.code yX12_plan prog_14_method_100_code 9 (some .int) ∈ zg_tb) ∧ zg_dm yX12_plan 2 := ⟨⟨zw8_42, zw8_43, zw1_12, zw8_44⟩, by decide +kernel, by decide +kernel, by decide +kernel⟩
set_option maxRecDepth 100000 in
theorem zw5_145 : Jvm.Cond.methodLink RL 170 yX11_count ∈ zg_tb := zg_m5 (i := 145) rfl rfl
set_option maxRecDepth 100000 in
theorem zw5_148 : Jvm.Cond.code yX11_count prog_1_method_38_code 2 (some .int) ∈ zg_tb := zg_m5 (i := 148) rfl rfl
set_option maxRecDepth 100000 in
theorem zw5_146 : Jvm.Cond.instanceMethod yX11_count ∈ zg_tb := zg_m5 (i := 146) rfl rfl
set_option maxRecDepth 100000 in
theorem zw5_147 : Jvm.Cond.selects RX11 yX11_count yX11_count ∈ zg_tb := zg_m5 (i := 147) rfl rfl
set_option maxRecDepth 100000 in
theorem zy_yX11_count_V : (Jvm.Cond.instanceMethod yX11_count ∈ zg_tb ∧ Jvm.Cond.selects yX11_count.cls yX11_count yX11_count ∈ zg_tb ∧ Jvm.Cond.initialized yX11_count.cls ∈ zg_tb ∧ Jvm.Cond.code yX11_count prog_1_method_38_code 2 (some .int) ∈ zg_tb) ∧ zg_dm yX11_count 1 := ⟨⟨zw5_146, zw5_147, zw1_1, zw5_148⟩, by decide +kernel, by decide +kernel, by decide +kernel⟩
set_option maxRecDepth 100000 in
theorem zw8_49 : Jvm.Cond.methodLink RL 173 yX12_count ∈ zg_tb := zg_m8 (i := 49) rfl rfl
set_option maxRecDepth 100000 in
theorem zw8_52 : Jvm.Cond.code yX12_count prog_14_method_102_code 2 (some .int) ∈ zg_tb := zg_m8 (i := 52) rfl rfl
set_option maxRecDepth 100000 in
theorem zw8_50 : Jvm.Cond.instanceMethod yX12_count ∈ zg_tb := zg_m8 (i := 50) rfl rfl
set_option maxRecDepth 100000 in
theorem zw8_51 : Jvm.Cond.selects RX12 yX12_count yX12_count ∈ zg_tb := zg_m8 (i := 51) rfl rfl
set_option maxRecDepth 100000 in
theorem zy_yX12_count_V : (Jvm.Cond.instanceMethod yX12_count ∈ zg_tb ∧ Jvm.Cond.selects yX12_count.cls yX12_count yX12_count ∈ zg_tb ∧ Jvm.Cond.initialized yX12_count.cls ∈ zg_tb ∧ Jvm.Cond.code yX12_count prog_14_method_102_code 2 (some .int) ∈ zg_tb) ∧ zg_dm yX12_count 1 := ⟨⟨zw8_50, zw8_51, zw1_12, zw8_52⟩, by decide +kernel, by decide +kernel, by decide +kernel⟩
end
