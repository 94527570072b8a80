/-! words more -/
set_option maxRecDepth 100000 in
theorem zw3_208 : Jvm.Cond.instantiable RX1 17 ∈ zg_tb := zg_m3 (i := 208) (by decide +kernel) rfl
set_option maxRecDepth 100000 in
theorem zw4_106 : Jvm.Cond.instantiable RX9 6 ∈ zg_tb := zg_m4 (i := 106) (by decide +kernel) rfl
set_option maxRecDepth 100000 in
theorem zw5_109 : Jvm.Cond.methodLink R_law 154 yX11_ends ∈ zg_tb := zg_m5 (i := 109) (by decide +kernel) rfl
set_option maxRecDepth 100000 in
theorem zw5_112 : Jvm.Cond.code yX11_ends prog_1_method_34_code 8 (some .int) ∈ zg_tb := zg_m5 (i := 112) (by decide +kernel) rfl
set_option maxRecDepth 100000 in
theorem zw5_110 : Jvm.Cond.instanceMethod yX11_ends ∈ zg_tb := zg_m5 (i := 110) (by decide +kernel) rfl
set_option maxRecDepth 100000 in
theorem zw5_111 : Jvm.Cond.selects RX11 yX11_ends yX11_ends ∈ zg_tb := zg_m5 (i := 111) (by decide +kernel) rfl
set_option maxRecDepth 100000 in
theorem zy_yX11_ends_V : (Jvm.Cond.instanceMethod yX11_ends ∈ zg_tb ∧ Jvm.Cond.selects yX11_ends.cls yX11_ends yX11_ends ∈ zg_tb ∧ Jvm.Cond.initialized yX11_ends.cls ∈ zg_tb ∧ Jvm.Cond.code yX11_ends prog_1_method_34_code 8 (some .int) ∈ zg_tb) ∧ zg_dm yX11_ends 4 := ⟨⟨zw5_110, zw5_111, zw1_1, zw5_112⟩, by decide +kernel, by decide +kernel, by decide +kernel⟩
set_option maxRecDepth 100000 in
theorem zw8_23 : Jvm.Cond.methodLink R_law 157 yX12_ends ∈ zg_tb := zg_m8 (i := 23) (by decide +kernel) rfl
set_option maxRecDepth 100000 in
theorem zw8_26 : Jvm.Cond.code yX12_ends prog_14_method_95_code 6 (some .int) ∈ zg_tb := zg_m8 (i := 26) (by decide +kernel) rfl
set_option maxRecDepth 100000 in
theorem zw8_24 : Jvm.Cond.instanceMethod yX12_ends ∈ zg_tb := zg_m8 (i := 24) (by decide +kernel) rfl
set_option maxRecDepth 100000 in
theorem zw8_25 : Jvm.Cond.selects RX12 yX12_ends yX12_ends ∈ zg_tb := zg_m8 (i := 25) (by decide +kernel) rfl
set_option maxRecDepth 100000 in
theorem zy_yX12_ends_V : (Jvm.Cond.instanceMethod yX12_ends ∈ zg_tb ∧ Jvm.Cond.selects yX12_ends.cls yX12_ends yX12_ends ∈ zg_tb ∧ Jvm.Cond.initialized yX12_ends.cls ∈ zg_tb ∧ Jvm.Cond.code yX12_ends prog_14_method_95_code 6 (some .int) ∈ zg_tb) ∧ zg_dm yX12_ends 4 := ⟨⟨zw8_24, zw8_25, zw1_12, zw8_26⟩, by decide +kernel, by decide +kernel, by decide +kernel⟩
set_option maxRecDepth 100000 in
theorem zw2_141 : Jvm.Cond.methodLink R_law 33 yX11_feed ∈ zg_tb := zg_m2 (i := 141) (by decide +kernel) rfl
set_option maxRecDepth 100000 in
theorem zw2_144 : Jvm.Cond.code yX11_feed prog_1_method_6_code 7 (some .int) ∈ zg_tb := zg_m2 (i := 144) (by decide +kernel) rfl
set_option maxRecDepth 100000 in
theorem zw2_142 : Jvm.Cond.instanceMethod yX11_feed ∈ zg_tb := zg_m2 (i := 142) (by decide +kernel) rfl
set_option maxRecDepth 100000 in
theorem zw2_143 : Jvm.Cond.selects RX11 yX11_feed yX11_feed ∈ zg_tb := zg_m2 (i := 143) (by decide +kernel) rfl
set_option maxRecDepth 100000 in
theorem zy_yX11_feed_V : (Jvm.Cond.instanceMethod yX11_feed ∈ zg_tb ∧ Jvm.Cond.selects yX11_feed.cls yX11_feed yX11_feed ∈ zg_tb ∧ Jvm.Cond.initialized yX11_feed.cls ∈ zg_tb ∧ Jvm.Cond.code yX11_feed prog_1_method_6_code 7 (some .int) ∈ zg_tb) ∧ zg_dm yX11_feed 5 := ⟨⟨zw2_142, zw2_143, zw1_1, zw2_144⟩, by decide +kernel, by decide +kernel, by decide +kernel⟩
set_option maxRecDepth 100000 in
theorem zw6_164 : Jvm.Cond.methodLink R_law 37 yX12_feed ∈ zg_tb := zg_m6 (i := 164) (by decide +kernel) rfl
set_option maxRecDepth 100000 in
theorem zw6_167 : Jvm.Cond.code yX12_feed prog_14_method_12_code 9 (some .int) ∈ zg_tb := zg_m6 (i := 167) (by decide +kernel) rfl
set_option maxRecDepth 100000 in
theorem zw6_165 : Jvm.Cond.instanceMethod yX12_feed ∈ zg_tb := zg_m6 (i := 165) (by decide +kernel) rfl
set_option maxRecDepth 100000 in
theorem zw6_166 : Jvm.Cond.selects RX12 yX12_feed yX12_feed ∈ zg_tb := zg_m6 (i := 166) (by decide +kernel) rfl
set_option maxRecDepth 100000 in
theorem zy_yX12_feed_V : (Jvm.Cond.instanceMethod yX12_feed ∈ zg_tb ∧ Jvm.Cond.selects yX12_feed.cls yX12_feed yX12_feed ∈ zg_tb ∧ Jvm.Cond.initialized yX12_feed.cls ∈ zg_tb ∧ Jvm.Cond.code yX12_feed prog_14_method_12_code 9 (some .int) ∈ zg_tb) ∧ zg_dm yX12_feed 5 := ⟨⟨zw6_165, zw6_166, zw1_12, zw6_167⟩, by decide +kernel, by decide +kernel, by decide +kernel⟩
set_option maxRecDepth 100000 in
theorem zw5_114 : Jvm.Cond.methodLink R_law 158 yX11_hands ∈ zg_tb := zg_m5 (i := 114) (by decide +kernel) rfl
set_option maxRecDepth 100000 in
theorem zw5_117 : Jvm.Cond.code yX11_hands prog_1_method_35_code 5 (some .int) ∈ zg_tb := zg_m5 (i := 117) (by decide +kernel) rfl
set_option maxRecDepth 100000 in
theorem zw5_115 : Jvm.Cond.instanceMethod yX11_hands ∈ zg_tb := zg_m5 (i := 115) (by decide +kernel) rfl
set_option maxRecDepth 100000 in
theorem zw5_116 : Jvm.Cond.selects RX11 yX11_hands yX11_hands ∈ zg_tb := zg_m5 (i := 116) (by decide +kernel) rfl
set_option maxRecDepth 100000 in
theorem zy_yX11_hands_V : (Jvm.Cond.instanceMethod yX11_hands ∈ zg_tb ∧ Jvm.Cond.selects yX11_hands.cls yX11_hands yX11_hands ∈ zg_tb ∧ Jvm.Cond.initialized yX11_hands.cls ∈ zg_tb ∧ Jvm.Cond.code yX11_hands prog_1_method_35_code 5 (some .int) ∈ zg_tb) ∧ zg_dm yX11_hands 1 := ⟨⟨zw5_115, zw5_116, zw1_1, zw5_117⟩, by decide +kernel, by decide +kernel, by decide +kernel⟩
set_option maxRecDepth 100000 in
theorem zw8_28 : Jvm.Cond.methodLink R_law 161 yX12_hands ∈ zg_tb := zg_m8 (i := 28) (by decide +kernel) rfl
set_option maxRecDepth 100000 in
theorem zw8_31 : Jvm.Cond.code yX12_hands prog_14_method_97_code 7 (some .int) ∈ zg_tb := zg_m8 (i := 31) (by decide +kernel) rfl
set_option maxRecDepth 100000 in
theorem zw8_29 : Jvm.Cond.instanceMethod yX12_hands ∈ zg_tb := zg_m8 (i := 29) (by decide +kernel) rfl
set_option maxRecDepth 100000 in
theorem zw8_30 : Jvm.Cond.selects RX12 yX12_hands yX12_hands ∈ zg_tb := zg_m8 (i := 30) (by decide +kernel) rfl
set_option maxRecDepth 100000 in
theorem zy_yX12_hands_V : (Jvm.Cond.instanceMethod yX12_hands ∈ zg_tb ∧ Jvm.Cond.selects yX12_hands.cls yX12_hands yX12_hands ∈ zg_tb ∧ Jvm.Cond.initialized yX12_hands.cls ∈ zg_tb ∧ Jvm.Cond.code yX12_hands prog_14_method_97_code 7 (some .int) ∈ zg_tb) ∧ zg_dm yX12_hands 1 := ⟨⟨zw8_29, zw8_30, zw1_12, zw8_31⟩, by decide +kernel, by decide +kernel, by decide +kernel⟩
