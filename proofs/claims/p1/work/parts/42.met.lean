/-! CONTRACTS MET, 24.. -/
set_option maxRecDepth 100000 in
def qR24 : Room := { frames := 3, cells := 0, slots := 0, locals := 63 }
set_option maxHeartbeats 4000000 in
set_option maxRecDepth 100000 in
theorem qm24 {l : Launch} {D : zk_D} {base : Nat} {Hb : Heap} : zk_Met l qK D base Hb (zg_K D base Hb) yX12_name (Jvm.Cond.code yX12_name prog_14_method_9_code 3 (some .int) :: zg_tb) qR24 qC24 := by
  refine zk_met (ws' := zg_tb) (P := qP24) (AT := zg_AT) (by decide +kernel) rfl rfl rfl qk24 (fun s hK => zg_wd hK) (fun p e s m args below meth c s₁ Q B hml hK => ?_) (fun p e s m args below meth c s₁ v G0 H0 B hml hK ha hp hF q hq => absurd hq List.not_mem_nil)
  have S : CallFix p m c prog_14_method_9_code 3 s args (Jvm.Cond.code yX12_name prog_14_method_9_code 3 (some .int) :: zg_tb) RX12 := ⟨B.exec, B.bytes, hml, findClass_of_methodNamed B.named, atoms_spec (ws := Jvm.Cond.code yX12_name prog_14_method_9_code 3 (some .int) :: zg_tb) B.pre⟩
  exact ⟨fun _ h => absurd h List.not_mem_nil,
    fun _ h => absurd h List.not_mem_nil,
    fun _ h => absurd h List.not_mem_nil,
    fun _ h => absurd h List.not_mem_nil,
    fun h => absurd rfl h,
    fun _ h => absurd h List.not_mem_nil,
    List.forall_mem_cons.mpr ⟨zg_callV (fun w h => List.mem_cons_of_mem _ h) zg_tb_all S hK zg_Km qm19 zw6_141 zy_yX12_isHouse_V (ci := 12) (by decide +kernel) (hK.2.1 12 _ rfl).2.1 ⟨rfl, rfl⟩ (by decide +kernel), fun _ h => absurd h List.not_mem_nil⟩⟩
set_option maxRecDepth 100000 in
def qR25 : Room := { frames := 1, cells := 0, slots := 0, locals := 20 }
set_option maxHeartbeats 4000000 in
set_option maxRecDepth 100000 in
theorem qm25 {l : Launch} {D : zk_D} {base : Nat} {Hb : Heap} : zk_Met l qK D base Hb (zg_K D base Hb) yX11_end (Jvm.Cond.code yX11_end prog_1_method_7_code 2 (some .boolean) :: zg_tb) qR25 qC25 := by
  refine zk_met (ws' := zg_tb) (P := qP25) (AT := zg_AT) (by decide +kernel) rfl rfl rfl qk25 (fun s hK => zg_wd hK) (fun p e s m args below meth c s₁ Q B hml hK => ?_) (fun p e s m args below meth c s₁ v G0 H0 B hml hK ha hp hF q hq => absurd hq List.not_mem_nil)
  have S : CallFix p m c prog_1_method_7_code 2 s args (Jvm.Cond.code yX11_end prog_1_method_7_code 2 (some .boolean) :: zg_tb) RX11 := ⟨B.exec, B.bytes, hml, findClass_of_methodNamed B.named, atoms_spec (ws := Jvm.Cond.code yX11_end prog_1_method_7_code 2 (some .boolean) :: zg_tb) B.pre⟩
  exact ⟨List.forall_mem_cons.mpr ⟨zg_gp4 S (hK.2.1 11 _ rfl) (fun w h => (List.mem_cons_of_mem _ (zc11 w h))) rfl zt11_1 (List.mem_cons_of_mem _ zw2_54), List.forall_mem_cons.mpr ⟨zg_gp S (hK.2.1 8 _ rfl) (fun w h => (List.mem_cons_of_mem _ (zc8 w h))) rfl zt8_1 (List.mem_cons_of_mem _ zw1_81) rfl, fun _ h => absurd h List.not_mem_nil⟩⟩,
    fun _ h => absurd h List.not_mem_nil,
    fun _ h => absurd h List.not_mem_nil,
    fun _ h => absurd h List.not_mem_nil,
    fun h => absurd rfl h,
    fun _ h => absurd h List.not_mem_nil,
    fun _ h => absurd h List.not_mem_nil⟩
set_option maxRecDepth 100000 in
def qR26 : Room := { frames := 1, cells := 0, slots := 0, locals := 20 }
set_option maxHeartbeats 4000000 in
set_option maxRecDepth 100000 in
theorem qm26 {l : Launch} {D : zk_D} {base : Nat} {Hb : Heap} : zk_Met l qK D base Hb (zg_K D base Hb) yX12_end (Jvm.Cond.code yX12_end prog_14_method_13_code 2 (some .boolean) :: zg_tb) qR26 qC26 := by
  refine zk_met (ws' := zg_tb) (P := qP26) (AT := zg_AT) (by decide +kernel) rfl rfl rfl qk26 (fun s hK => zg_wd hK) (fun p e s m args below meth c s₁ Q B hml hK => ?_) (fun p e s m args below meth c s₁ v G0 H0 B hml hK ha hp hF q hq => absurd hq List.not_mem_nil)
  have S : CallFix p m c prog_14_method_13_code 2 s args (Jvm.Cond.code yX12_end prog_14_method_13_code 2 (some .boolean) :: zg_tb) RX12 := ⟨B.exec, B.bytes, hml, findClass_of_methodNamed B.named, atoms_spec (ws := Jvm.Cond.code yX12_end prog_14_method_13_code 2 (some .boolean) :: zg_tb) B.pre⟩
  exact ⟨List.forall_mem_cons.mpr ⟨zg_gp S (hK.2.1 12 _ rfl) (fun w h => (List.mem_cons_of_mem _ (zc12 w h))) rfl zt12_9 (List.mem_cons_of_mem _ zw5_168) rfl, fun _ h => absurd h List.not_mem_nil⟩,
    fun _ h => absurd h List.not_mem_nil,
    fun _ h => absurd h List.not_mem_nil,
    fun _ h => absurd h List.not_mem_nil,
    fun h => absurd rfl h,
    fun _ h => absurd h List.not_mem_nil,
    fun _ h => absurd h List.not_mem_nil⟩
set_option maxRecDepth 100000 in
def qR27 : Room := { frames := 1, cells := 0, slots := 0, locals := 20 }
set_option maxHeartbeats 4000000 in
set_option maxRecDepth 100000 in
theorem qm27 {l : Launch} {D : zk_D} {base : Nat} {Hb : Heap} : zk_Met l qK D base Hb (zg_K D base Hb) yX2_faultOf (Jvm.Cond.code yX2_faultOf prog_4_method_2_code 9 (some .int) :: zg_tb) qR27 qC27 := by
  refine zk_met (ws' := zg_tb) (P := qP27) (AT := zg_AT) (by decide +kernel) rfl rfl rfl qk27 (fun s hK => zg_wd hK) (fun p e s m args below meth c s₁ Q B hml hK => ?_) (fun p e s m args below meth c s₁ v G0 H0 B hml hK ha hp hF q hq => absurd hq List.not_mem_nil)
  have S : CallFix p m c prog_4_method_2_code 9 s args (Jvm.Cond.code yX2_faultOf prog_4_method_2_code 9 (some .int) :: zg_tb) RX2 := ⟨B.exec, B.bytes, hml, findClass_of_methodNamed B.named, atoms_spec (ws := Jvm.Cond.code yX2_faultOf prog_4_method_2_code 9 (some .int) :: zg_tb) B.pre⟩
  exact ⟨List.forall_mem_cons.mpr ⟨zg_gp S (hK.2.1 8 _ rfl) (fun w h => (List.mem_cons_of_mem _ (zc8 w h))) rfl zt8_1 (List.mem_cons_of_mem _ zw1_78) rfl, fun _ h => absurd h List.not_mem_nil⟩,
    fun _ h => absurd h List.not_mem_nil,
    fun _ h => absurd h List.not_mem_nil,
    fun _ h => absurd h List.not_mem_nil,
    fun h => absurd rfl h,
    fun _ h => absurd h List.not_mem_nil,
    fun _ h => absurd h List.not_mem_nil⟩
set_option maxRecDepth 100000 in
def qR28 : Room := { frames := 1, cells := 0, slots := 0, locals := 20 }
set_option maxHeartbeats 4000000 in
set_option maxRecDepth 100000 in
theorem qm28 {l : Launch} {D : zk_D} {base : Nat} {Hb : Heap} : zk_Met l qK D base Hb (zg_K D base Hb) yX8_at (Jvm.Cond.code yX8_at prog_10_method_4_code 2 (some .int) :: zg_tb) qR28 qC28 := by
  refine zk_met (ws' := zg_tb) (P := qP28) (AT := zg_AT) (by decide +kernel) rfl rfl rfl qk28 (fun s hK => zg_wd hK) (fun p e s m args below meth c s₁ Q B hml hK => ?_) (fun p e s m args below meth c s₁ v G0 H0 B hml hK ha hp hF q hq => absurd hq List.not_mem_nil)
  have S : CallFix p m c prog_10_method_4_code 2 s args (Jvm.Cond.code yX8_at prog_10_method_4_code 2 (some .int) :: zg_tb) RX8 := ⟨B.exec, B.bytes, hml, findClass_of_methodNamed B.named, atoms_spec (ws := Jvm.Cond.code yX8_at prog_10_method_4_code 2 (some .int) :: zg_tb) B.pre⟩
  exact ⟨List.forall_mem_cons.mpr ⟨zg_gp S (hK.2.1 8 _ rfl) (fun w h => (List.mem_cons_of_mem _ (zc8 w h))) rfl zt8_1 (List.mem_cons_of_mem _ zw1_79) rfl, fun _ h => absurd h List.not_mem_nil⟩,
    fun _ h => absurd h List.not_mem_nil,
    fun _ h => absurd h List.not_mem_nil,
    fun _ h => absurd h List.not_mem_nil,
    fun h => absurd rfl h,
    fun _ h => absurd h List.not_mem_nil,
    fun _ h => absurd h List.not_mem_nil⟩
set_option maxRecDepth 100000 in
def qR29 : Room := { frames := 2, cells := 0, slots := 0, locals := 41 }
set_option maxHeartbeats 4000000 in
set_option maxRecDepth 100000 in
theorem qm29 {l : Launch} {D : zk_D} {base : Nat} {Hb : Heap} : zk_Met l qK D base Hb (zg_K D base Hb) yX6_ahead (Jvm.Cond.code yX6_ahead prog_8_method_4_code 1 (some .int) :: zg_tb) qR29 qC29 := by
  refine zk_met (ws' := zg_tb) (P := qP29) (AT := zg_AT) (by decide +kernel) rfl rfl rfl qk29 (fun s hK => zg_wd hK) (fun p e s m args below meth c s₁ Q B hml hK => ?_) (fun p e s m args below meth c s₁ v G0 H0 B hml hK ha hp hF q hq => absurd hq List.not_mem_nil)
  have S : CallFix p m c prog_8_method_4_code 1 s args (Jvm.Cond.code yX6_ahead prog_8_method_4_code 1 (some .int) :: zg_tb) RX6 := ⟨B.exec, B.bytes, hml, findClass_of_methodNamed B.named, atoms_spec (ws := Jvm.Cond.code yX6_ahead prog_8_method_4_code 1 (some .int) :: zg_tb) B.pre⟩
  exact ⟨List.forall_mem_cons.mpr ⟨zg_gp S (hK.2.1 6 _ rfl) (fun w h => (List.mem_cons_of_mem _ (zc6 w h))) rfl zt6_3 (List.mem_cons_of_mem _ zw1_119) rfl, List.forall_mem_cons.mpr ⟨zg_gp S (hK.2.1 6 _ rfl) (fun w h => (List.mem_cons_of_mem _ (zc6 w h))) rfl zt6_1 (List.mem_cons_of_mem _ zw1_117) rfl, List.forall_mem_cons.mpr ⟨zg_gp S (hK.2.1 8 _ rfl) (fun w h => (List.mem_cons_of_mem _ (zc8 w h))) rfl zt8_1 (List.mem_cons_of_mem _ zw1_80) rfl, fun _ h => absurd h List.not_mem_nil⟩⟩⟩,
    fun _ h => absurd h List.not_mem_nil,
    fun _ h => absurd h List.not_mem_nil,
    fun _ h => absurd h List.not_mem_nil,
    fun h => absurd rfl h,
    fun _ h => absurd h List.not_mem_nil,
    List.forall_mem_cons.mpr ⟨zg_callV (fun w h => List.mem_cons_of_mem _ h) zg_tb_all S hK zg_Km qm28 zw2_178 zy_yX8_at_V (ci := 8) (by decide +kernel) (hK.2.1 8 _ rfl).2.1 ⟨rfl, rfl⟩ (by decide +kernel), fun _ h => absurd h List.not_mem_nil⟩⟩
set_option maxRecDepth 100000 in
def qR30 : Room := { frames := 3, cells := 0, slots := 0, locals := 61 }
set_option maxHeartbeats 4000000 in
set_option maxRecDepth 100000 in
theorem qm30 {l : Launch} {D : zk_D} {base : Nat} {Hb : Heap} : zk_Met l qK D base Hb (zg_K D base Hb) yX6_readClause (Jvm.Cond.code yX6_readClause prog_8_method_7_code 4 (some .boolean) :: zg_tb) qR30 qC30 := by
  refine zk_met (ws' := zg_tb) (P := qP30) (AT := zg_AT) (by decide +kernel) rfl rfl rfl qk30 (fun s hK => zg_wd hK) (fun p e s m args below meth c s₁ Q B hml hK => ?_) (fun p e s m args below meth c s₁ v G0 H0 B hml hK ha hp hF q hq => absurd hq List.not_mem_nil)
  have S : CallFix p m c prog_8_method_7_code 4 s args (Jvm.Cond.code yX6_readClause prog_8_method_7_code 4 (some .boolean) :: zg_tb) RX6 := ⟨B.exec, B.bytes, hml, findClass_of_methodNamed B.named, atoms_spec (ws := Jvm.Cond.code yX6_readClause prog_8_method_7_code 4 (some .boolean) :: zg_tb) B.pre⟩
  exact ⟨fun _ h => absurd h List.not_mem_nil,
    fun _ h => absurd h List.not_mem_nil,
    fun _ h => absurd h List.not_mem_nil,
    fun _ h => absurd h List.not_mem_nil,
    fun h => absurd rfl h,
    fun _ h => absurd h List.not_mem_nil,
    List.forall_mem_cons.mpr ⟨zg_callV (fun w h => List.mem_cons_of_mem _ h) zg_tb_all S hK zg_Km qm29 zw2_183 zy_yX6_ahead_V (ci := 6) (by decide +kernel) (hK.2.1 6 _ rfl).2.1 ⟨rfl, rfl⟩ (by decide +kernel), fun _ h => absurd h List.not_mem_nil⟩⟩
set_option maxRecDepth 100000 in
def qR31 : Room := { frames := 4, cells := 0, slots := 0, locals := 84 }
set_option maxHeartbeats 4000000 in
set_option maxRecDepth 100000 in
theorem qm31 {l : Launch} {D : zk_D} {base : Nat} {Hb : Heap} : zk_Met l qK D base Hb (zg_K D base Hb) yX6_faultOf (Jvm.Cond.code yX6_faultOf prog_8_method_2_code 3 (some .int) :: zg_tb) qR31 qC31 := by
  refine zk_met (ws' := zg_tb) (P := qP31) (AT := zg_AT) (by decide +kernel) rfl rfl rfl qk31 (fun s hK => zg_wd hK) (fun p e s m args below meth c s₁ Q B hml hK => ?_) (fun p e s m args below meth c s₁ v G0 H0 B hml hK ha hp hF q hq => absurd hq List.not_mem_nil)
  have S : CallFix p m c prog_8_method_2_code 3 s args (Jvm.Cond.code yX6_faultOf prog_8_method_2_code 3 (some .int) :: zg_tb) RX6 := ⟨B.exec, B.bytes, hml, findClass_of_methodNamed B.named, atoms_spec (ws := Jvm.Cond.code yX6_faultOf prog_8_method_2_code 3 (some .int) :: zg_tb) B.pre⟩
  exact ⟨List.forall_mem_cons.mpr ⟨zg_gp S (hK.2.1 6 _ rfl) (fun w h => (List.mem_cons_of_mem _ (zc6 w h))) rfl zt6_1 (List.mem_cons_of_mem _ zw1_117) rfl, List.forall_mem_cons.mpr ⟨zg_gp S (hK.2.1 6 _ rfl) (fun w h => (List.mem_cons_of_mem _ (zc6 w h))) rfl zt6_2 (List.mem_cons_of_mem _ zw1_118) rfl, List.forall_mem_cons.mpr ⟨zg_gp S (hK.2.1 6 _ rfl) (fun w h => (List.mem_cons_of_mem _ (zc6 w h))) rfl zt6_3 (List.mem_cons_of_mem _ zw1_119) rfl, fun _ h => absurd h List.not_mem_nil⟩⟩⟩,
    fun _ h => absurd h List.not_mem_nil,
    fun _ h => absurd h List.not_mem_nil,
    fun _ h => absurd h List.not_mem_nil,
    fun h => absurd rfl h,
    fun _ h => absurd h List.not_mem_nil,
    List.forall_mem_cons.mpr ⟨zg_callV (fun w h => List.mem_cons_of_mem _ h) zg_tb_all S hK zg_Km qm28 zw2_178 zy_yX8_at_V (ci := 8) (by decide +kernel) (hK.2.1 8 _ rfl).2.1 ⟨rfl, rfl⟩ (by decide +kernel), List.forall_mem_cons.mpr ⟨zg_callV (fun w h => List.mem_cons_of_mem _ h) zg_tb_all S hK zg_Km qm30 zw2_179 zy_yX6_readClause_V (ci := 6) (by decide +kernel) (hK.2.1 6 _ rfl).2.1 ⟨rfl, rfl⟩ (by decide +kernel), fun _ h => absurd h List.not_mem_nil⟩⟩⟩
set_option maxRecDepth 100000 in
def qR32 : Room := { frames := 5, cells := 0, slots := 0, locals := 106 }
set_option maxHeartbeats 4000000 in
set_option maxRecDepth 100000 in
theorem qm32 {l : Launch} {D : zk_D} {base : Nat} {Hb : Heap} : zk_Met l qK D base Hb (zg_K D base Hb) yX11_fault (Jvm.Cond.code yX11_fault prog_1_method_8_code 2 (some .int) :: zg_tb) qR32 qC32 := by
  refine zk_met (ws' := zg_tb) (P := qP32) (AT := zg_AT) (by decide +kernel) rfl rfl rfl qk32 (fun s hK => zg_wd hK) (fun p e s m args below meth c s₁ Q B hml hK => ?_) (fun p e s m args below meth c s₁ v G0 H0 B hml hK ha hp hF q hq => absurd hq List.not_mem_nil)
  have S : CallFix p m c prog_1_method_8_code 2 s args (Jvm.Cond.code yX11_fault prog_1_method_8_code 2 (some .int) :: zg_tb) RX11 := ⟨B.exec, B.bytes, hml, findClass_of_methodNamed B.named, atoms_spec (ws := Jvm.Cond.code yX11_fault prog_1_method_8_code 2 (some .int) :: zg_tb) B.pre⟩
  exact ⟨List.forall_mem_cons.mpr ⟨zg_gp4 S (hK.2.1 11 _ rfl) (fun w h => (List.mem_cons_of_mem _ (zc11 w h))) rfl zt11_2 (List.mem_cons_of_mem _ zw2_55), List.forall_mem_cons.mpr ⟨zg_gp4 S (hK.2.1 11 _ rfl) (fun w h => (List.mem_cons_of_mem _ (zc11 w h))) rfl zt11_1 (List.mem_cons_of_mem _ zw2_54), List.forall_mem_cons.mpr ⟨zg_gp4 S (hK.2.1 11 _ rfl) (fun w h => (List.mem_cons_of_mem _ (zc11 w h))) rfl zt11_3 (List.mem_cons_of_mem _ zw2_56), fun _ h => absurd h List.not_mem_nil⟩⟩⟩,
    fun _ h => absurd h List.not_mem_nil,
    fun _ h => absurd h List.not_mem_nil,
    fun _ h => absurd h List.not_mem_nil,
    fun h => absurd rfl h,
    fun _ h => absurd h List.not_mem_nil,
    List.forall_mem_cons.mpr ⟨zg_callV (fun w h => List.mem_cons_of_mem _ h) zg_tb_all S hK zg_Km qm27 zw2_160 zy_yX2_faultOf_V (ci := 2) (by decide +kernel) (hK.2.1 2 _ rfl).2.1 ⟨rfl, rfl⟩ (by decide +kernel), List.forall_mem_cons.mpr ⟨zg_callV (fun w h => List.mem_cons_of_mem _ h) zg_tb_all S hK zg_Km qm31 zw2_174 zy_yX6_faultOf_V (ci := 6) (by decide +kernel) (hK.2.1 6 _ rfl).2.1 ⟨rfl, rfl⟩ (by decide +kernel), fun _ h => absurd h List.not_mem_nil⟩⟩⟩
set_option maxRecDepth 100000 in
def qR33 : Room := { frames := 1, cells := 0, slots := 0, locals := 20 }
set_option maxHeartbeats 4000000 in
set_option maxRecDepth 100000 in
theorem qm33 {l : Launch} {D : zk_D} {base : Nat} {Hb : Heap} : zk_Met l qK D base Hb (zg_K D base Hb) yX12_next (Jvm.Cond.code yX12_next prog_14_method_15_code 1 (some .int) :: zg_tb) qR33 qC33 := by
  refine zk_met (ws' := zg_tb) (P := qP33) (AT := zg_AT) (by decide +kernel) rfl rfl rfl qk33 (fun s hK => zg_wd hK) (fun p e s m args below meth c s₁ Q B hml hK => ?_) (fun p e s m args below meth c s₁ v G0 H0 B hml hK ha hp hF q hq => absurd hq List.not_mem_nil)
  have S : CallFix p m c prog_14_method_15_code 1 s args (Jvm.Cond.code yX12_next prog_14_method_15_code 1 (some .int) :: zg_tb) RX12 := ⟨B.exec, B.bytes, hml, findClass_of_methodNamed B.named, atoms_spec (ws := Jvm.Cond.code yX12_next prog_14_method_15_code 1 (some .int) :: zg_tb) B.pre⟩
  exact ⟨List.forall_mem_cons.mpr ⟨zg_gp S (hK.2.1 12 _ rfl) (fun w h => (List.mem_cons_of_mem _ (zc12 w h))) rfl zt12_10 (List.mem_cons_of_mem _ zw5_169) rfl, List.forall_mem_cons.mpr ⟨zg_gp S (hK.2.1 12 _ rfl) (fun w h => (List.mem_cons_of_mem _ (zc12 w h))) rfl zt12_9 (List.mem_cons_of_mem _ zw5_168) rfl, fun _ h => absurd h List.not_mem_nil⟩⟩,
    fun _ h => absurd h List.not_mem_nil,
    fun _ h => absurd h List.not_mem_nil,
    fun _ h => absurd h List.not_mem_nil,
    fun h => absurd rfl h,
    fun _ h => absurd h List.not_mem_nil,
    fun _ h => absurd h List.not_mem_nil⟩
set_option maxRecDepth 100000 in
def qR34 : Room := { frames := 1, cells := 0, slots := 0, locals := 20 }
set_option maxHeartbeats 4000000 in
set_option maxRecDepth 100000 in
theorem qm34 {l : Launch} {D : zk_D} {base : Nat} {Hb : Heap} : zk_Met l qK D base Hb (zg_K D base Hb) yX12_bad (Jvm.Cond.code yX12_bad prog_14_method_14_code 1 none :: zg_tb) qR34 qC34 := by
  refine zk_met (ws' := zg_tb) (P := qP34) (AT := zg_AT) (by decide +kernel) rfl rfl rfl qk34 (fun s hK => zg_wd hK) (fun p e s m args below meth c s₁ Q B hml hK => ?_) (fun p e s m args below meth c s₁ v G0 H0 B hml hK ha hp hF q hq => absurd hq List.not_mem_nil)
  have S : CallFix p m c prog_14_method_14_code 1 s args (Jvm.Cond.code yX12_bad prog_14_method_14_code 1 none :: zg_tb) RX12 := ⟨B.exec, B.bytes, hml, findClass_of_methodNamed B.named, atoms_spec (ws := Jvm.Cond.code yX12_bad prog_14_method_14_code 1 none :: zg_tb) B.pre⟩
  exact ⟨List.forall_mem_cons.mpr ⟨zg_gp S (hK.2.1 12 _ rfl) (fun w h => (List.mem_cons_of_mem _ (zc12 w h))) rfl zt12_11 (List.mem_cons_of_mem _ zw5_170) rfl, List.forall_mem_cons.mpr ⟨zg_gp S (hK.2.1 12 _ rfl) (fun w h => (List.mem_cons_of_mem _ (zc12 w h))) rfl zt12_10 (List.mem_cons_of_mem _ zw5_169) rfl, fun _ h => absurd h List.not_mem_nil⟩⟩,
    fun _ h => absurd h List.not_mem_nil,
    fun _ h => absurd h List.not_mem_nil,
    fun _ h => absurd h List.not_mem_nil,
    fun h => absurd rfl h,
    fun _ h => absurd h List.not_mem_nil,
    fun _ h => absurd h List.not_mem_nil⟩
set_option maxRecDepth 100000 in
def qR35 : Room := { frames := 2, cells := 0, slots := 0, locals := 40 }
set_option maxHeartbeats 4000000 in
set_option maxRecDepth 100000 in
theorem qm35 {l : Launch} {D : zk_D} {base : Nat} {Hb : Heap} : zk_Met l qK D base Hb (zg_K D base Hb) yX12_part (Jvm.Cond.code yX12_part prog_14_method_23_code 2 none :: zg_tb) qR35 qC35 := by
  refine zk_met (ws' := zg_tb) (P := qP35) (AT := zg_AT) (by decide +kernel) rfl rfl rfl qk35 (fun s hK => zg_wd hK) (fun p e s m args below meth c s₁ Q B hml hK => ?_) (fun p e s m args below meth c s₁ v G0 H0 B hml hK ha hp hF q hq => absurd hq List.not_mem_nil)
  have S : CallFix p m c prog_14_method_23_code 2 s args (Jvm.Cond.code yX12_part prog_14_method_23_code 2 none :: zg_tb) RX12 := ⟨B.exec, B.bytes, hml, findClass_of_methodNamed B.named, atoms_spec (ws := Jvm.Cond.code yX12_part prog_14_method_23_code 2 none :: zg_tb) B.pre⟩
  exact ⟨fun _ h => absurd h List.not_mem_nil,
    fun _ h => absurd h List.not_mem_nil,
    fun _ h => absurd h List.not_mem_nil,
    fun _ h => absurd h List.not_mem_nil,
    fun h => absurd rfl h,
    fun _ h => absurd h List.not_mem_nil,
    List.forall_mem_cons.mpr ⟨zg_callV (fun w h => List.mem_cons_of_mem _ h) zg_tb_all S hK zg_Km qm33 zw6_191 zy_yX12_next_V (ci := 12) (by decide +kernel) (hK.2.1 12 _ rfl).2.1 ⟨rfl, rfl⟩ (by decide +kernel), List.forall_mem_cons.mpr ⟨zg_callV (fun w h => List.mem_cons_of_mem _ h) zg_tb_all S hK zg_Km qm34 zw6_220 zy_yX12_bad_V (ci := 12) (by decide +kernel) (hK.2.1 12 _ rfl).2.1 ⟨rfl, rfl⟩ (by decide +kernel), fun _ h => absurd h List.not_mem_nil⟩⟩⟩
set_option maxRecDepth 100000 in
def qR36 : Room := { frames := 3, cells := 0, slots := 0, locals := 61 }
set_option maxHeartbeats 4000000 in
set_option maxRecDepth 100000 in
theorem qm36 {l : Launch} {D : zk_D} {base : Nat} {Hb : Heap} : zk_Met l qK D base Hb (zg_K D base Hb) yX12_partRow (Jvm.Cond.code yX12_partRow prog_14_method_24_code 1 none :: zg_tb) qR36 qC36 := by
  refine zk_met (ws' := zg_tb) (P := qP36) (AT := zg_AT) (by decide +kernel) rfl rfl rfl qk36 (fun s hK => zg_wd hK) (fun p e s m args below meth c s₁ Q B hml hK => ?_) (fun p e s m args below meth c s₁ v G0 H0 B hml hK ha hp hF q hq => absurd hq List.not_mem_nil)
  have S : CallFix p m c prog_14_method_24_code 1 s args (Jvm.Cond.code yX12_partRow prog_14_method_24_code 1 none :: zg_tb) RX12 := ⟨B.exec, B.bytes, hml, findClass_of_methodNamed B.named, atoms_spec (ws := Jvm.Cond.code yX12_partRow prog_14_method_24_code 1 none :: zg_tb) B.pre⟩
  exact ⟨List.forall_mem_cons.mpr ⟨zg_gp S (hK.2.1 12 _ rfl) (fun w h => (List.mem_cons_of_mem _ (zc12 w h))) rfl zt12_11 (List.mem_cons_of_mem _ zw5_170) rfl, fun _ h => absurd h List.not_mem_nil⟩,
    fun _ h => absurd h List.not_mem_nil,
    fun _ h => absurd h List.not_mem_nil,
    fun _ h => absurd h List.not_mem_nil,
    fun h => absurd rfl h,
    fun _ h => absurd h List.not_mem_nil,
    List.forall_mem_cons.mpr ⟨zg_callV (fun w h => List.mem_cons_of_mem _ h) zg_tb_all S hK zg_Km qm35 zw6_187 zy_yX12_part_V (ci := 12) (by decide +kernel) (hK.2.1 12 _ rfl).2.1 ⟨rfl, rfl⟩ (by decide +kernel), fun _ h => absurd h List.not_mem_nil⟩⟩
set_option maxRecDepth 100000 in
def qR37 : Room := { frames := 4, cells := 0, slots := 0, locals := 81 }
set_option maxHeartbeats 4000000 in
set_option maxRecDepth 100000 in
theorem qm37 {l : Launch} {D : zk_D} {base : Nat} {Hb : Heap} : zk_Met l qK D base Hb (zg_K D base Hb) yX12_textFault (Jvm.Cond.code yX12_textFault prog_14_method_25_code 1 (some .int) :: zg_tb) qR37 qC37 := by
  refine zk_met (ws' := zg_tb) (P := qP37) (AT := zg_AT) (by decide +kernel) rfl rfl rfl qk37 (fun s hK => zg_wd hK) (fun p e s m args below meth c s₁ Q B hml hK => ?_) (fun p e s m args below meth c s₁ v G0 H0 B hml hK ha hp hF q hq => absurd hq List.not_mem_nil)
  have S : CallFix p m c prog_14_method_25_code 1 s args (Jvm.Cond.code yX12_textFault prog_14_method_25_code 1 (some .int) :: zg_tb) RX12 := ⟨B.exec, B.bytes, hml, findClass_of_methodNamed B.named, atoms_spec (ws := Jvm.Cond.code yX12_textFault prog_14_method_25_code 1 (some .int) :: zg_tb) B.pre⟩
  exact ⟨List.forall_mem_cons.mpr ⟨zg_gp S (hK.2.1 12 _ rfl) (fun w h => (List.mem_cons_of_mem _ (zc12 w h))) rfl zt12_10 (List.mem_cons_of_mem _ zw5_169) rfl, List.forall_mem_cons.mpr ⟨zg_gp S (hK.2.1 12 _ rfl) (fun w h => (List.mem_cons_of_mem _ (zc12 w h))) rfl zt12_11 (List.mem_cons_of_mem _ zw5_170) rfl, List.forall_mem_cons.mpr ⟨zg_gp S (hK.2.1 12 _ rfl) (fun w h => (List.mem_cons_of_mem _ (zc12 w h))) rfl zt12_12 (List.mem_cons_of_mem _ zw5_171) rfl, List.forall_mem_cons.mpr ⟨zg_gp S (hK.2.1 12 _ rfl) (fun w h => (List.mem_cons_of_mem _ (zc12 w h))) rfl zt12_15 (List.mem_cons_of_mem _ zw5_174) rfl, List.forall_mem_cons.mpr ⟨zg_gp S (hK.2.1 12 _ rfl) (fun w h => (List.mem_cons_of_mem _ (zc12 w h))) rfl zt12_16 (List.mem_cons_of_mem _ zw5_175) rfl, List.forall_mem_cons.mpr ⟨zg_gp S (hK.2.1 12 _ rfl) (fun w h => (List.mem_cons_of_mem _ (zc12 w h))) rfl zt12_17 (List.mem_cons_of_mem _ zw5_176) rfl, fun _ h => absurd h List.not_mem_nil⟩⟩⟩⟩⟩⟩,
    fun _ h => absurd h List.not_mem_nil,
    fun _ h => absurd h List.not_mem_nil,
    fun _ h => absurd h List.not_mem_nil,
    fun h => absurd rfl h,
    fun _ h => absurd h List.not_mem_nil,
    List.forall_mem_cons.mpr ⟨zg_callV (fun w h => List.mem_cons_of_mem _ h) zg_tb_all S hK zg_Km qm36 zw6_183 zy_yX12_partRow_V (ci := 12) (by decide +kernel) (hK.2.1 12 _ rfl).2.1 ⟨rfl, rfl⟩ (by decide +kernel), fun _ h => absurd h List.not_mem_nil⟩⟩
set_option maxRecDepth 100000 in
def qR38 : Room := { frames := 2, cells := 0, slots := 0, locals := 40 }
set_option maxHeartbeats 4000000 in
set_option maxRecDepth 100000 in
theorem qm38 {l : Launch} {D : zk_D} {base : Nat} {Hb : Heap} : zk_Met l qK D base Hb (zg_K D base Hb) yX12_look (Jvm.Cond.code yX12_look prog_14_method_26_code 1 (some .int) :: zg_tb) qR38 qC38 := by
  refine zk_met (ws' := zg_tb) (P := qP38) (AT := zg_AT) (by decide +kernel) rfl rfl rfl qk38 (fun s hK => zg_wd hK) (fun p e s m args below meth c s₁ Q B hml hK => ?_) (fun p e s m args below meth c s₁ v G0 H0 B hml hK ha hp hF q hq => absurd hq List.not_mem_nil)
  have S : CallFix p m c prog_14_method_26_code 1 s args (Jvm.Cond.code yX12_look prog_14_method_26_code 1 (some .int) :: zg_tb) RX12 := ⟨B.exec, B.bytes, hml, findClass_of_methodNamed B.named, atoms_spec (ws := Jvm.Cond.code yX12_look prog_14_method_26_code 1 (some .int) :: zg_tb) B.pre⟩
  exact ⟨List.forall_mem_cons.mpr ⟨zg_gp S (hK.2.1 12 _ rfl) (fun w h => (List.mem_cons_of_mem _ (zc12 w h))) rfl zt12_10 (List.mem_cons_of_mem _ zw5_169) rfl, List.forall_mem_cons.mpr ⟨zg_gp S (hK.2.1 12 _ rfl) (fun w h => (List.mem_cons_of_mem _ (zc12 w h))) rfl zt12_9 (List.mem_cons_of_mem _ zw5_168) rfl, fun _ h => absurd h List.not_mem_nil⟩⟩,
    fun _ h => absurd h List.not_mem_nil,
    fun _ h => absurd h List.not_mem_nil,
    fun _ h => absurd h List.not_mem_nil,
    fun h => absurd rfl h,
    fun _ h => absurd h List.not_mem_nil,
    List.forall_mem_cons.mpr ⟨zg_callV (fun w h => List.mem_cons_of_mem _ h) zg_tb_all S hK zg_Km qm33 zw6_191 zy_yX12_next_V (ci := 12) (by decide +kernel) (hK.2.1 12 _ rfl).2.1 ⟨rfl, rfl⟩ (by decide +kernel), fun _ h => absurd h List.not_mem_nil⟩⟩
set_option maxRecDepth 100000 in
def qR39 : Room := { frames := 1, cells := 0, slots := 0, locals := 20 }
set_option maxHeartbeats 4000000 in
set_option maxRecDepth 100000 in
theorem qm39 {l : Launch} {D : zk_D} {base : Nat} {Hb : Heap} : zk_Met l qK D base Hb (zg_K D base Hb) yX12_isLabel (Jvm.Cond.code yX12_isLabel prog_14_method_28_code 1 (some .boolean) :: zg_tb) qR39 qC39 := by
  refine zk_met (ws' := zg_tb) (P := qP39) (AT := zg_AT) (by decide +kernel) rfl rfl rfl qk39 (fun s hK => zg_wd hK) (fun p e s m args below meth c s₁ Q B hml hK => ?_) (fun p e s m args below meth c s₁ v G0 H0 B hml hK ha hp hF q hq => absurd hq List.not_mem_nil)
  have S : CallFix p m c prog_14_method_28_code 1 s args (Jvm.Cond.code yX12_isLabel prog_14_method_28_code 1 (some .boolean) :: zg_tb) RX12 := ⟨B.exec, B.bytes, hml, findClass_of_methodNamed B.named, atoms_spec (ws := Jvm.Cond.code yX12_isLabel prog_14_method_28_code 1 (some .boolean) :: zg_tb) B.pre⟩
  exact ⟨fun _ h => absurd h List.not_mem_nil,
    fun _ h => absurd h List.not_mem_nil,
    fun _ h => absurd h List.not_mem_nil,
    fun _ h => absurd h List.not_mem_nil,
    fun h => absurd rfl h,
    fun _ h => absurd h List.not_mem_nil,
    fun _ h => absurd h List.not_mem_nil⟩
set_option maxRecDepth 100000 in
def qR40 : Room := { frames := 3, cells := 0, slots := 0, locals := 60 }
set_option maxHeartbeats 4000000 in
set_option maxRecDepth 100000 in
theorem qm40 {l : Launch} {D : zk_D} {base : Nat} {Hb : Heap} : zk_Met l qK D base Hb (zg_K D base Hb) yX12_clause (Jvm.Cond.code yX12_clause prog_14_method_41_code 6 none :: zg_tb) qR40 qC40 := by
  refine zk_met (ws' := zg_tb) (P := qP40) (AT := zg_AT) (by decide +kernel) rfl rfl rfl qk40 (fun s hK => zg_wd hK) (fun p e s m args below meth c s₁ Q B hml hK => ?_) (fun p e s m args below meth c s₁ v G0 H0 B hml hK ha hp hF q hq => absurd hq List.not_mem_nil)
  have S : CallFix p m c prog_14_method_41_code 6 s args (Jvm.Cond.code yX12_clause prog_14_method_41_code 6 none :: zg_tb) RX12 := ⟨B.exec, B.bytes, hml, findClass_of_methodNamed B.named, atoms_spec (ws := Jvm.Cond.code yX12_clause prog_14_method_41_code 6 none :: zg_tb) B.pre⟩
  exact ⟨fun _ h => absurd h List.not_mem_nil,
    fun _ h => absurd h List.not_mem_nil,
    fun _ h => absurd h List.not_mem_nil,
    fun _ h => absurd h List.not_mem_nil,
    fun h => absurd rfl h,
    fun _ h => absurd h List.not_mem_nil,
    List.forall_mem_cons.mpr ⟨zg_callV (fun w h => List.mem_cons_of_mem _ h) zg_tb_all S hK zg_Km qm38 zw6_232 zy_yX12_look_V (ci := 12) (by decide +kernel) (hK.2.1 12 _ rfl).2.1 ⟨rfl, rfl⟩ (by decide +kernel), List.forall_mem_cons.mpr ⟨zg_callS (fun w h => List.mem_cons_of_mem _ h) zg_tb_all S hK zg_Km qm39 zw6_236 zy_yX12_isLabel_S (by decide +kernel) ⟨rfl, rfl⟩ (by decide +kernel), List.forall_mem_cons.mpr ⟨zg_callV (fun w h => List.mem_cons_of_mem _ h) zg_tb_all S hK zg_Km qm34 zw6_220 zy_yX12_bad_V (ci := 12) (by decide +kernel) (hK.2.1 12 _ rfl).2.1 ⟨rfl, rfl⟩ (by decide +kernel), fun _ h => absurd h List.not_mem_nil⟩⟩⟩⟩
set_option maxRecDepth 100000 in
def qR41 : Room := { frames := 4, cells := 0, slots := 0, locals := 85 }
set_option maxHeartbeats 4000000 in
set_option maxRecDepth 100000 in
theorem qm41 {l : Launch} {D : zk_D} {base : Nat} {Hb : Heap} : zk_Met l qK D base Hb (zg_K D base Hb) yX12_ruleFault (Jvm.Cond.code yX12_ruleFault prog_14_method_42_code 1 (some .int) :: zg_tb) qR41 qC41 := by
  refine zk_met (ws' := zg_tb) (P := qP41) (AT := zg_AT) (by decide +kernel) rfl rfl rfl qk41 (fun s hK => zg_wd hK) (fun p e s m args below meth c s₁ Q B hml hK => ?_) (fun p e s m args below meth c s₁ v G0 H0 B hml hK ha hp hF q hq => absurd hq List.not_mem_nil)
  have S : CallFix p m c prog_14_method_42_code 1 s args (Jvm.Cond.code yX12_ruleFault prog_14_method_42_code 1 (some .int) :: zg_tb) RX12 := ⟨B.exec, B.bytes, hml, findClass_of_methodNamed B.named, atoms_spec (ws := Jvm.Cond.code yX12_ruleFault prog_14_method_42_code 1 (some .int) :: zg_tb) B.pre⟩
  exact ⟨List.forall_mem_cons.mpr ⟨zg_gp S (hK.2.1 12 _ rfl) (fun w h => (List.mem_cons_of_mem _ (zc12 w h))) rfl zt12_10 (List.mem_cons_of_mem _ zw5_169) rfl, List.forall_mem_cons.mpr ⟨zg_gp S (hK.2.1 12 _ rfl) (fun w h => (List.mem_cons_of_mem _ (zc12 w h))) rfl zt12_11 (List.mem_cons_of_mem _ zw5_170) rfl, List.forall_mem_cons.mpr ⟨zg_gp S (hK.2.1 12 _ rfl) (fun w h => (List.mem_cons_of_mem _ (zc12 w h))) rfl zt12_12 (List.mem_cons_of_mem _ zw5_171) rfl, List.forall_mem_cons.mpr ⟨zg_gp S (hK.2.1 12 _ rfl) (fun w h => (List.mem_cons_of_mem _ (zc12 w h))) rfl zt12_25 (List.mem_cons_of_mem _ zw5_184) rfl, fun _ h => absurd h List.not_mem_nil⟩⟩⟩⟩,
    fun _ h => absurd h List.not_mem_nil,
    fun _ h => absurd h List.not_mem_nil,
    fun _ h => absurd h List.not_mem_nil,
    fun h => absurd rfl h,
    fun _ h => absurd h List.not_mem_nil,
    List.forall_mem_cons.mpr ⟨zg_callV (fun w h => List.mem_cons_of_mem _ h) zg_tb_all S hK zg_Km qm40 zw6_228 zy_yX12_clause_V (ci := 12) (by decide +kernel) (hK.2.1 12 _ rfl).2.1 ⟨rfl, rfl⟩ (by decide +kernel), fun _ h => absurd h List.not_mem_nil⟩⟩
set_option maxRecDepth 100000 in
def qR42 : Room := { frames := 5, cells := 0, slots := 0, locals := 105 }
set_option maxHeartbeats 4000000 in
set_option maxRecDepth 100000 in
theorem qm42 {l : Launch} {D : zk_D} {base : Nat} {Hb : Heap} : zk_Met l qK D base Hb (zg_K D base Hb) yX12_fault (Jvm.Cond.code yX12_fault prog_14_method_43_code 2 (some .int) :: zg_tb) qR42 qC42 := by
  refine zk_met (ws' := zg_tb) (P := qP42) (AT := zg_AT) (by decide +kernel) rfl rfl rfl qk42 (fun s hK => zg_wd hK) (fun p e s m args below meth c s₁ Q B hml hK => ?_) (fun p e s m args below meth c s₁ v G0 H0 B hml hK ha hp hF q hq => absurd hq List.not_mem_nil)
  have S : CallFix p m c prog_14_method_43_code 2 s args (Jvm.Cond.code yX12_fault prog_14_method_43_code 2 (some .int) :: zg_tb) RX12 := ⟨B.exec, B.bytes, hml, findClass_of_methodNamed B.named, atoms_spec (ws := Jvm.Cond.code yX12_fault prog_14_method_43_code 2 (some .int) :: zg_tb) B.pre⟩
  exact ⟨fun _ h => absurd h List.not_mem_nil,
    fun _ h => absurd h List.not_mem_nil,
    fun _ h => absurd h List.not_mem_nil,
    fun _ h => absurd h List.not_mem_nil,
    fun h => absurd rfl h,
    fun _ h => absurd h List.not_mem_nil,
    List.forall_mem_cons.mpr ⟨zg_callV (fun w h => List.mem_cons_of_mem _ h) zg_tb_all S hK zg_Km qm37 zw6_179 zy_yX12_textFault_V (ci := 12) (by decide +kernel) (hK.2.1 12 _ rfl).2.1 ⟨rfl, rfl⟩ (by decide +kernel), List.forall_mem_cons.mpr ⟨zg_callV (fun w h => List.mem_cons_of_mem _ h) zg_tb_all S hK zg_Km qm41 zw6_224 zy_yX12_ruleFault_V (ci := 12) (by decide +kernel) (hK.2.1 12 _ rfl).2.1 ⟨rfl, rfl⟩ (by decide +kernel), fun _ h => absurd h List.not_mem_nil⟩⟩⟩
set_option maxRecDepth 100000 in
def qR43 : Room := { frames := 1, cells := 0, slots := 0, locals := 20 }
set_option maxHeartbeats 4000000 in
set_option maxRecDepth 100000 in
theorem qm43 {l : Launch} {D : zk_D} {base : Nat} {Hb : Heap} : zk_Met l qK D base Hb (zg_K D base Hb) yX11_hasList (Jvm.Cond.code yX11_hasList prog_1_method_40_code 2 (some .boolean) :: zg_tb) qR43 qC43 := by
  refine zk_met (ws' := zg_tb) (P := qP43) (AT := zg_AT) (by decide +kernel) rfl rfl rfl qk43 (fun s hK => zg_wd hK) (fun p e s m args below meth c s₁ Q B hml hK => ?_) (fun p e s m args below meth c s₁ v G0 H0 B hml hK ha hp hF q hq => absurd hq List.not_mem_nil)
  have S : CallFix p m c prog_1_method_40_code 2 s args (Jvm.Cond.code yX11_hasList prog_1_method_40_code 2 (some .boolean) :: zg_tb) RX11 := ⟨B.exec, B.bytes, hml, findClass_of_methodNamed B.named, atoms_spec (ws := Jvm.Cond.code yX11_hasList prog_1_method_40_code 2 (some .boolean) :: zg_tb) B.pre⟩
  exact ⟨List.forall_mem_cons.mpr ⟨zg_gp S (hK.2.1 11 _ rfl) (fun w h => (List.mem_cons_of_mem _ (zc11 w h))) rfl zt11_14 (List.mem_cons_of_mem _ zw2_67) rfl, fun _ h => absurd h List.not_mem_nil⟩,
    fun _ h => absurd h List.not_mem_nil,
    fun _ h => absurd h List.not_mem_nil,
    fun _ h => absurd h List.not_mem_nil,
    fun h => absurd rfl h,
    fun _ h => absurd h List.not_mem_nil,
    fun _ h => absurd h List.not_mem_nil⟩
set_option maxRecDepth 100000 in
def qR44 : Room := { frames := 2, cells := 0, slots := 0, locals := 41 }
set_option maxHeartbeats 4000000 in
set_option maxRecDepth 100000 in
theorem qm44 {l : Launch} {D : zk_D} {base : Nat} {Hb : Heap} : zk_Met l qK D base Hb (zg_K D base Hb) yX11_hasRuler (Jvm.Cond.code yX11_hasRuler prog_1_method_41_code 3 (some .boolean) :: zg_tb) qR44 qC44 := by
  refine zk_met (ws' := zg_tb) (P := qP44) (AT := zg_AT) (by decide +kernel) rfl rfl rfl qk44 (fun s hK => zg_wd hK) (fun p e s m args below meth c s₁ Q B hml hK => ?_) (fun p e s m args below meth c s₁ v G0 H0 B hml hK ha hp hF q hq => absurd hq List.not_mem_nil)
  have S : CallFix p m c prog_1_method_41_code 3 s args (Jvm.Cond.code yX11_hasRuler prog_1_method_41_code 3 (some .boolean) :: zg_tb) RX11 := ⟨B.exec, B.bytes, hml, findClass_of_methodNamed B.named, atoms_spec (ws := Jvm.Cond.code yX11_hasRuler prog_1_method_41_code 3 (some .boolean) :: zg_tb) B.pre⟩
  exact ⟨List.forall_mem_cons.mpr ⟨zg_gp4 S (hK.2.1 11 _ rfl) (fun w h => (List.mem_cons_of_mem _ (zc11 w h))) rfl zt11_0 (List.mem_cons_of_mem _ zw2_53), fun _ h => absurd h List.not_mem_nil⟩,
    fun _ h => absurd h List.not_mem_nil,
    fun _ h => absurd h List.not_mem_nil,
    fun _ h => absurd h List.not_mem_nil,
    fun h => absurd rfl h,
    fun _ h => absurd h List.not_mem_nil,
    List.forall_mem_cons.mpr ⟨zg_callV (fun w h => List.mem_cons_of_mem _ h) zg_tb_all S hK zg_Km qm43 zw3_73 zy_yX11_hasList_V (ci := 11) (by decide +kernel) (hK.2.1 11 _ rfl).2.1 ⟨rfl, rfl⟩ (by decide +kernel), List.forall_mem_cons.mpr ⟨zg_callV (fun w h => List.mem_cons_of_mem _ h) zg_tb_all S hK zg_Km qm16 zw2_117 zy_yX4_hasHouse_V (ci := 4) (by decide +kernel) (hK.2.1 4 _ rfl).2.1 ⟨rfl, rfl⟩ (by decide +kernel), fun _ h => absurd h List.not_mem_nil⟩⟩⟩
set_option maxRecDepth 100000 in
def qR45 : Room := { frames := 3, cells := 0, slots := 0, locals := 63 }
set_option maxHeartbeats 4000000 in
set_option maxRecDepth 100000 in
theorem qm45 {l : Launch} {D : zk_D} {base : Nat} {Hb : Heap} : zk_Met l qK D base Hb (zg_K D base Hb) yX11_rules (Jvm.Cond.code yX11_rules prog_1_method_9_code 4 (some .int) :: zg_tb) qR45 qC45 := by
  refine zk_met (ws' := zg_tb) (P := qP45) (AT := zg_AT) (by decide +kernel) rfl rfl rfl qk45 (fun s hK => zg_wd hK) (fun p e s m args below meth c s₁ Q B hml hK => ?_) (fun p e s m args below meth c s₁ v G0 H0 B hml hK ha hp hF q hq => absurd hq List.not_mem_nil)
  have S : CallFix p m c prog_1_method_9_code 4 s args (Jvm.Cond.code yX11_rules prog_1_method_9_code 4 (some .int) :: zg_tb) RX11 := ⟨B.exec, B.bytes, hml, findClass_of_methodNamed B.named, atoms_spec (ws := Jvm.Cond.code yX11_rules prog_1_method_9_code 4 (some .int) :: zg_tb) B.pre⟩
  exact ⟨fun _ h => absurd h List.not_mem_nil,
    fun _ h => absurd h List.not_mem_nil,
    fun _ h => absurd h List.not_mem_nil,
    fun _ h => absurd h List.not_mem_nil,
    fun h => absurd rfl h,
    fun _ h => absurd h List.not_mem_nil,
    List.forall_mem_cons.mpr ⟨zg_callV (fun w h => List.mem_cons_of_mem _ h) zg_tb_all S hK zg_Km qm44 zw3_69 zy_yX11_hasRuler_V (ci := 11) (by decide +kernel) (hK.2.1 11 _ rfl).2.1 ⟨rfl, rfl⟩ (by decide +kernel), fun _ h => absurd h List.not_mem_nil⟩⟩
set_option maxRecDepth 100000 in
def qR46 : Room := { frames := 1, cells := 0, slots := 0, locals := 20 }
set_option maxHeartbeats 4000000 in
set_option maxRecDepth 100000 in
theorem qm46 {l : Launch} {D : zk_D} {base : Nat} {Hb : Heap} : zk_Met l qK D base Hb (zg_K D base Hb) yX12_in (Jvm.Cond.code yX12_in prog_14_method_1_code 3 (some .boolean) :: zg_tb) qR46 qC46 := by
  refine zk_met (ws' := zg_tb) (P := qP46) (AT := zg_AT) (by decide +kernel) rfl rfl rfl qk46 (fun s hK => zg_wd hK) (fun p e s m args below meth c s₁ Q B hml hK => ?_) (fun p e s m args below meth c s₁ v G0 H0 B hml hK ha hp hF q hq => absurd hq List.not_mem_nil)
  have S : CallFix p m c prog_14_method_1_code 3 s args (Jvm.Cond.code yX12_in prog_14_method_1_code 3 (some .boolean) :: zg_tb) RX12 := ⟨B.exec, B.bytes, hml, findClass_of_methodNamed B.named, atoms_spec (ws := Jvm.Cond.code yX12_in prog_14_method_1_code 3 (some .boolean) :: zg_tb) B.pre⟩
  exact ⟨fun _ h => absurd h List.not_mem_nil,
    fun _ h => absurd h List.not_mem_nil,
    fun _ h => absurd h List.not_mem_nil,
    fun _ h => absurd h List.not_mem_nil,
    fun h => absurd rfl h,
    fun _ h => absurd h List.not_mem_nil,
    fun _ h => absurd h List.not_mem_nil⟩
set_option maxRecDepth 100000 in
def qR47 : Room := { frames := 2, cells := 0, slots := 0, locals := 42 }
set_option maxHeartbeats 4000000 in
set_option maxRecDepth 100000 in
theorem qm47 {l : Launch} {D : zk_D} {base : Nat} {Hb : Heap} : zk_Met l qK D base Hb (zg_K D base Hb) yX12_rules (Jvm.Cond.code yX12_rules prog_14_method_44_code 5 (some .int) :: zg_tb) qR47 qC47 := by
  refine zk_met (ws' := zg_tb) (P := qP47) (AT := zg_AT) (by decide +kernel) rfl rfl rfl qk47 (fun s hK => zg_wd hK) (fun p e s m args below meth c s₁ Q B hml hK => ?_) (fun p e s m args below meth c s₁ v G0 H0 B hml hK ha hp hF q hq => absurd hq List.not_mem_nil)
  have S : CallFix p m c prog_14_method_44_code 5 s args (Jvm.Cond.code yX12_rules prog_14_method_44_code 5 (some .int) :: zg_tb) RX12 := ⟨B.exec, B.bytes, hml, findClass_of_methodNamed B.named, atoms_spec (ws := Jvm.Cond.code yX12_rules prog_14_method_44_code 5 (some .int) :: zg_tb) B.pre⟩
  exact ⟨List.forall_mem_cons.mpr ⟨zg_gp S (hK.2.1 12 _ rfl) (fun w h => (List.mem_cons_of_mem _ (zc12 w h))) rfl zt12_57 (List.mem_cons_of_mem _ zw5_216) rfl, List.forall_mem_cons.mpr ⟨zg_gp S (hK.2.1 12 _ rfl) (fun w h => (List.mem_cons_of_mem _ (zc12 w h))) rfl zt12_6 (List.mem_cons_of_mem _ zw5_165) rfl, fun _ h => absurd h List.not_mem_nil⟩⟩,
    fun _ h => absurd h List.not_mem_nil,
    fun _ h => absurd h List.not_mem_nil,
    fun _ h => absurd h List.not_mem_nil,
    fun h => absurd rfl h,
    fun _ h => absurd h List.not_mem_nil,
    List.forall_mem_cons.mpr ⟨zg_callS (fun w h => List.mem_cons_of_mem _ h) zg_tb_all S hK zg_Km qm46 zw6_145 zy_yX12_in_S (by decide +kernel) ⟨rfl, rfl⟩ (by decide +kernel), fun _ h => absurd h List.not_mem_nil⟩⟩
