/-! words more -/
noncomputable section
set_option maxRecDepth 100000 in
def yX12_up : MethodName := ⟨RX12, "up", "(IZ)Z"⟩
set_option maxRecDepth 100000 in
def yX11_up : MethodName := ⟨RX11, "up", "(IZ)Z"⟩
set_option maxRecDepth 100000 in
theorem zw6_137 : Jvm.Cond.methodLink R_law 22 yX12_up ∈ zg_tb := zg_m6 (i := 137) (by decide +kernel) rfl
set_option maxRecDepth 100000 in
theorem zw6_140 : Jvm.Cond.code yX12_up prog_14_method_7_code 3 (some .boolean) ∈ zg_tb := zg_m6 (i := 140) (by decide +kernel) rfl
set_option maxRecDepth 100000 in
theorem zw6_138 : Jvm.Cond.instanceMethod yX12_up ∈ zg_tb := zg_m6 (i := 138) (by decide +kernel) rfl
set_option maxRecDepth 100000 in
theorem zw6_139 : Jvm.Cond.selects RX12 yX12_up yX12_up ∈ zg_tb := zg_m6 (i := 139) (by decide +kernel) rfl
set_option maxRecDepth 100000 in
theorem zy_yX12_up_V : (Jvm.Cond.instanceMethod yX12_up ∈ zg_tb ∧ Jvm.Cond.selects yX12_up.cls yX12_up yX12_up ∈ zg_tb ∧ Jvm.Cond.initialized yX12_up.cls ∈ zg_tb ∧ Jvm.Cond.code yX12_up prog_14_method_7_code 3 (some .boolean) ∈ zg_tb) ∧ zg_dm yX12_up 2 := ⟨⟨zw6_138, zw6_139, zw1_12, zw6_140⟩, by decide +kernel, by decide +kernel, by decide +kernel⟩
set_option maxRecDepth 100000 in
theorem zw2_113 : Jvm.Cond.methodLink R_law 18 yX11_up ∈ zg_tb := zg_m2 (i := 113) (by decide +kernel) rfl
set_option maxRecDepth 100000 in
theorem zw2_116 : Jvm.Cond.code yX11_up prog_1_method_3_code 3 (some .boolean) ∈ zg_tb := zg_m2 (i := 116) (by decide +kernel) rfl
set_option maxRecDepth 100000 in
theorem zw2_114 : Jvm.Cond.instanceMethod yX11_up ∈ zg_tb := zg_m2 (i := 114) (by decide +kernel) rfl
set_option maxRecDepth 100000 in
theorem zw2_115 : Jvm.Cond.selects RX11 yX11_up yX11_up ∈ zg_tb := zg_m2 (i := 115) (by decide +kernel) rfl
set_option maxRecDepth 100000 in
theorem zy_yX11_up_V : (Jvm.Cond.instanceMethod yX11_up ∈ zg_tb ∧ Jvm.Cond.selects yX11_up.cls yX11_up yX11_up ∈ zg_tb ∧ Jvm.Cond.initialized yX11_up.cls ∈ zg_tb ∧ Jvm.Cond.code yX11_up prog_1_method_3_code 3 (some .boolean) ∈ zg_tb) ∧ zg_dm yX11_up 2 := ⟨⟨zw2_114, zw2_115, zw1_1, zw2_116⟩, by decide +kernel, by decide +kernel, by decide +kernel⟩
end
