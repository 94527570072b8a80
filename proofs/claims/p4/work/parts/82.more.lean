/-! words more -/
noncomputable section
set_option maxRecDepth 100000 in
def yX4_join : MethodName := ⟨RX4, "join", "(II)V"⟩
set_option maxRecDepth 100000 in
def yX12_road : MethodName := ⟨RX12, "road", "(II)Z"⟩
set_option maxRecDepth 100000 in
def yX11_road : MethodName := ⟨RX11, "road", "(II)Z"⟩
set_option maxRecDepth 100000 in
theorem zw2_129 : Jvm.Cond.methodLink RX11 108 yX4_join ∈ zg_tb := zg_m2 (i := 129) (by decide +kernel) rfl
set_option maxRecDepth 100000 in
theorem zw2_132 : Jvm.Cond.code yX4_join prog_6_method_7_code 3 none ∈ zg_tb := zg_m2 (i := 132) (by decide +kernel) rfl
set_option maxRecDepth 100000 in
theorem zw2_130 : Jvm.Cond.instanceMethod yX4_join ∈ zg_tb := zg_m2 (i := 130) (by decide +kernel) rfl
set_option maxRecDepth 100000 in
theorem zw2_131 : Jvm.Cond.selects RX4 yX4_join yX4_join ∈ zg_tb := zg_m2 (i := 131) (by decide +kernel) rfl
set_option maxRecDepth 100000 in
theorem zy_yX4_join_V : (Jvm.Cond.instanceMethod yX4_join ∈ zg_tb ∧ Jvm.Cond.selects yX4_join.cls yX4_join yX4_join ∈ zg_tb ∧ Jvm.Cond.initialized yX4_join.cls ∈ zg_tb ∧ Jvm.Cond.code yX4_join prog_6_method_7_code 3 none ∈ zg_tb) ∧ zg_dm yX4_join 2 := ⟨⟨zw2_130, zw2_131, zw1_2, zw2_132⟩, by decide +kernel, by decide +kernel, by decide +kernel⟩
set_option maxRecDepth 100000 in
theorem zw6_148 : Jvm.Cond.methodLink R_law 27 yX12_road ∈ zg_tb := zg_m6 (i := 148) (by decide +kernel) rfl
set_option maxRecDepth 100000 in
theorem zw6_151 : Jvm.Cond.code yX12_road prog_14_method_8_code 3 (some .boolean) ∈ zg_tb := zg_m6 (i := 151) (by decide +kernel) rfl
set_option maxRecDepth 100000 in
theorem zw6_149 : Jvm.Cond.instanceMethod yX12_road ∈ zg_tb := zg_m6 (i := 149) (by decide +kernel) rfl
set_option maxRecDepth 100000 in
theorem zw6_150 : Jvm.Cond.selects RX12 yX12_road yX12_road ∈ zg_tb := zg_m6 (i := 150) (by decide +kernel) rfl
set_option maxRecDepth 100000 in
theorem zy_yX12_road_V : (Jvm.Cond.instanceMethod yX12_road ∈ zg_tb ∧ Jvm.Cond.selects yX12_road.cls yX12_road yX12_road ∈ zg_tb ∧ Jvm.Cond.initialized yX12_road.cls ∈ zg_tb ∧ Jvm.Cond.code yX12_road prog_14_method_8_code 3 (some .boolean) ∈ zg_tb) ∧ zg_dm yX12_road 2 := ⟨⟨zw6_149, zw6_150, zw1_12, zw6_151⟩, by decide +kernel, by decide +kernel, by decide +kernel⟩
set_option maxRecDepth 100000 in
theorem zw2_121 : Jvm.Cond.methodLink R_law 23 yX11_road ∈ zg_tb := zg_m2 (i := 121) (by decide +kernel) rfl
set_option maxRecDepth 100000 in
theorem zw2_124 : Jvm.Cond.code yX11_road prog_1_method_4_code 3 (some .boolean) ∈ zg_tb := zg_m2 (i := 124) (by decide +kernel) rfl
set_option maxRecDepth 100000 in
theorem zw2_122 : Jvm.Cond.instanceMethod yX11_road ∈ zg_tb := zg_m2 (i := 122) (by decide +kernel) rfl
set_option maxRecDepth 100000 in
theorem zw2_123 : Jvm.Cond.selects RX11 yX11_road yX11_road ∈ zg_tb := zg_m2 (i := 123) (by decide +kernel) rfl
set_option maxRecDepth 100000 in
theorem zy_yX11_road_V : (Jvm.Cond.instanceMethod yX11_road ∈ zg_tb ∧ Jvm.Cond.selects yX11_road.cls yX11_road yX11_road ∈ zg_tb ∧ Jvm.Cond.initialized yX11_road.cls ∈ zg_tb ∧ Jvm.Cond.code yX11_road prog_1_method_4_code 3 (some .boolean) ∈ zg_tb) ∧ zg_dm yX11_road 2 := ⟨⟨zw2_122, zw2_123, zw1_1, zw2_124⟩, by decide +kernel, by decide +kernel, by decide +kernel⟩
end
