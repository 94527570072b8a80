/-! CONTRACTS MET, 96.. -/
set_option maxRecDepth 100000 in
def qR96 : Room := { frames := 2, cells := 0, slots := 0, locals := 41 }
set_option maxHeartbeats 4000000 in
set_option maxRecDepth 100000 in
theorem qm96 {l : Launch} {D : zk_D} {base : Nat} {Hb : Heap} : zk_Met l qK D base Hb (zg_K D base Hb) yX11_moved (Jvm.Cond.code yX11_moved prog_1_method_25_code 5 (some .int) :: zg_tb) qR96 qC96 := by
  refine zk_met (ws' := zg_tb) (P := qP96) (AT := zg_AT) (by decide +kernel) rfl rfl rfl qk96 (fun s hK => zg_wd hK) (fun p e s m args below meth c s₁ Q B hml hK => ?_) (fun p e s m args below meth c s₁ v G0 H0 B hml hK ha hp hF q hq => absurd hq List.not_mem_nil)
  have S : CallFix p m c prog_1_method_25_code 5 s args (Jvm.Cond.code yX11_moved prog_1_method_25_code 5 (some .int) :: zg_tb) RX11 := ⟨B.exec, B.bytes, hml, findClass_of_methodNamed B.named, atoms_spec (ws := Jvm.Cond.code yX11_moved prog_1_method_25_code 5 (some .int) :: zg_tb) B.pre⟩
  exact ⟨fun _ h => absurd h List.not_mem_nil,
    fun _ h => absurd h List.not_mem_nil,
    fun _ h => absurd h List.not_mem_nil,
    fun _ h => absurd h List.not_mem_nil,
    fun h => absurd rfl h,
    List.forall_mem_cons.mpr ⟨zg_kokW S (List.mem_cons_of_mem _ zw5_6) (by decide +kernel) (by decide +kernel), fun _ h => absurd h List.not_mem_nil⟩,
    List.forall_mem_cons.mpr ⟨zg_callV (fun w h => List.mem_cons_of_mem _ h) zg_tb_all S hK zg_Km qm66 zw4_142 zy_yX11_letterAt_V (ci := 11) (by decide +kernel) (hK.2.1 11 _ rfl).2.1 ⟨rfl, rfl⟩ (by decide +kernel), fun _ h => absurd h List.not_mem_nil⟩⟩
set_option maxRecDepth 100000 in
def qR97 : Room := { frames := 3, cells := 0, slots := 0, locals := 63 }
set_option maxHeartbeats 4000000 in
set_option maxRecDepth 100000 in
theorem qm97 {l : Launch} {D : zk_D} {base : Nat} {Hb : Heap} : zk_Met l qK D base Hb (zg_K D base Hb) yX12_moved (Jvm.Cond.code yX12_moved prog_14_method_71_code 4 (some .int) :: zg_tb) qR97 qC97 := by
  refine zk_met (ws' := zg_tb) (P := qP97) (AT := zg_AT) (by decide +kernel) rfl rfl rfl qk97 (fun s hK => zg_wd hK) (fun p e s m args below meth c s₁ Q B hml hK => ?_) (fun p e s m args below meth c s₁ v G0 H0 B hml hK ha hp hF q hq => absurd hq List.not_mem_nil)
  have S : CallFix p m c prog_14_method_71_code 4 s args (Jvm.Cond.code yX12_moved prog_14_method_71_code 4 (some .int) :: zg_tb) RX12 := ⟨B.exec, B.bytes, hml, findClass_of_methodNamed B.named, atoms_spec (ws := Jvm.Cond.code yX12_moved prog_14_method_71_code 4 (some .int) :: zg_tb) B.pre⟩
  exact ⟨fun _ h => absurd h List.not_mem_nil,
    fun _ h => absurd h List.not_mem_nil,
    fun _ h => absurd h List.not_mem_nil,
    fun _ h => absurd h List.not_mem_nil,
    fun h => absurd rfl h,
    List.forall_mem_cons.mpr ⟨zg_kokW S (List.mem_cons_of_mem _ zw7_118) (by decide +kernel) (by decide +kernel), fun _ h => absurd h List.not_mem_nil⟩,
    List.forall_mem_cons.mpr ⟨zg_callV (fun w h => List.mem_cons_of_mem _ h) zg_tb_all S hK zg_Km qm69 zw7_80 zy_yX12_isLetter_V (ci := 12) (by decide +kernel) (hK.2.1 12 _ rfl).2.1 ⟨rfl, rfl⟩ (by decide +kernel), fun _ h => absurd h List.not_mem_nil⟩⟩
set_option maxRecDepth 100000 in
def qR98 : Room := { frames := 1, cells := 0, slots := 0, locals := 20 }
set_option maxHeartbeats 4000000 in
set_option maxRecDepth 100000 in
theorem qm98 {l : Launch} {D : zk_D} {base : Nat} {Hb : Heap} : zk_Met l qK D base Hb (zg_K D base Hb) yX11_isPast (Jvm.Cond.code yX11_isPast prog_1_method_39_code 2 (some .boolean) :: zg_tb) qR98 qC98 := by
  refine zk_met (ws' := zg_tb) (P := qP98) (AT := zg_AT) (by decide +kernel) rfl rfl rfl qk98 (fun s hK => zg_wd hK) (fun p e s m args below meth c s₁ Q B hml hK => ?_) (fun p e s m args below meth c s₁ v G0 H0 B hml hK ha hp hF q hq => absurd hq List.not_mem_nil)
  have S : CallFix p m c prog_1_method_39_code 2 s args (Jvm.Cond.code yX11_isPast prog_1_method_39_code 2 (some .boolean) :: zg_tb) RX11 := ⟨B.exec, B.bytes, hml, findClass_of_methodNamed B.named, atoms_spec (ws := Jvm.Cond.code yX11_isPast prog_1_method_39_code 2 (some .boolean) :: zg_tb) B.pre⟩
  exact ⟨List.forall_mem_cons.mpr ⟨zg_gp S (hK.2.1 11 _ rfl) (fun w h => (List.mem_cons_of_mem _ (zc11 w h))) rfl zt11_13 (List.mem_cons_of_mem _ zw2_66) rfl, fun _ h => absurd h List.not_mem_nil⟩,
    fun _ h => absurd h List.not_mem_nil,
    fun _ h => absurd h List.not_mem_nil,
    fun _ h => absurd h List.not_mem_nil,
    fun h => absurd rfl h,
    fun _ h => absurd h List.not_mem_nil,
    fun _ h => absurd h List.not_mem_nil⟩
set_option maxRecDepth 100000 in
def qR99 : Room := { frames := 4, cells := 0, slots := 0, locals := 86 }
set_option maxHeartbeats 4000000 in
set_option maxRecDepth 100000 in
theorem qm99 {l : Launch} {D : zk_D} {base : Nat} {Hb : Heap} : zk_Met l qK D base Hb (zg_K D base Hb) yX11_weighMarked (Jvm.Cond.code yX11_weighMarked prog_1_method_56_code 3 none :: zg_tb) qR99 qC99 := by
  refine zk_met (ws' := zg_tb) (P := qP99) (AT := zg_AT) (by decide +kernel) rfl rfl rfl qk99 (fun s hK => zg_wd hK) (fun p e s m args below meth c s₁ Q B hml hK => ?_) (fun p e s m args below meth c s₁ v G0 H0 B hml hK ha hp hF q hq => absurd hq List.not_mem_nil)
  have S : CallFix p m c prog_1_method_56_code 3 s args (Jvm.Cond.code yX11_weighMarked prog_1_method_56_code 3 none :: zg_tb) RX11 := ⟨B.exec, B.bytes, hml, findClass_of_methodNamed B.named, atoms_spec (ws := Jvm.Cond.code yX11_weighMarked prog_1_method_56_code 3 none :: zg_tb) B.pre⟩
  exact ⟨List.forall_mem_cons.mpr ⟨zg_gp S (hK.2.1 11 _ rfl) (fun w h => (List.mem_cons_of_mem _ (zc11 w h))) rfl zt11_15 (List.mem_cons_of_mem _ zw2_68) rfl, fun _ h => absurd h List.not_mem_nil⟩,
    fun _ h => absurd h List.not_mem_nil,
    fun _ h => absurd h List.not_mem_nil,
    fun _ h => absurd h List.not_mem_nil,
    fun h => absurd rfl h,
    fun _ h => absurd h List.not_mem_nil,
    List.forall_mem_cons.mpr ⟨zg_callV (fun w h => List.mem_cons_of_mem _ h) zg_tb_all S hK zg_Km qm84 zw4_169 zy_yX11_learn_V (ci := 11) (by decide +kernel) (hK.2.1 11 _ rfl).2.1 ⟨rfl, rfl⟩ (by decide +kernel), fun _ h => absurd h List.not_mem_nil⟩⟩
set_option maxRecDepth 100000 in
def qR100 : Room := { frames := 1, cells := 0, slots := 0, locals := 20 }
set_option maxHeartbeats 4000000 in
set_option maxRecDepth 100000 in
theorem qm100 {l : Launch} {D : zk_D} {base : Nat} {Hb : Heap} : zk_Met l qK D base Hb (zg_K D base Hb) yX11_lostAbove (Jvm.Cond.code yX11_lostAbove prog_1_method_57_code 4 (some .int) :: zg_tb) qR100 qC100 := by
  refine zk_met (ws' := zg_tb) (P := qP100) (AT := zg_AT) (by decide +kernel) rfl rfl rfl qk100 (fun s hK => zg_wd hK) (fun p e s m args below meth c s₁ Q B hml hK => ?_) (fun p e s m args below meth c s₁ v G0 H0 B hml hK ha hp hF q hq => absurd hq List.not_mem_nil)
  have S : CallFix p m c prog_1_method_57_code 4 s args (Jvm.Cond.code yX11_lostAbove prog_1_method_57_code 4 (some .int) :: zg_tb) RX11 := ⟨B.exec, B.bytes, hml, findClass_of_methodNamed B.named, atoms_spec (ws := Jvm.Cond.code yX11_lostAbove prog_1_method_57_code 4 (some .int) :: zg_tb) B.pre⟩
  exact ⟨List.forall_mem_cons.mpr ⟨zg_gp S (hK.2.1 11 _ rfl) (fun w h => (List.mem_cons_of_mem _ (zc11 w h))) rfl zt11_15 (List.mem_cons_of_mem _ zw2_68) rfl, fun _ h => absurd h List.not_mem_nil⟩,
    fun _ h => absurd h List.not_mem_nil,
    fun _ h => absurd h List.not_mem_nil,
    fun _ h => absurd h List.not_mem_nil,
    fun h => absurd rfl h,
    fun _ h => absurd h List.not_mem_nil,
    fun _ h => absurd h List.not_mem_nil⟩
set_option maxRecDepth 100000 in
def qR101 : Room := { frames := 1, cells := 0, slots := 0, locals := 20 }
set_option maxHeartbeats 4000000 in
set_option maxRecDepth 100000 in
theorem qm101 {l : Launch} {D : zk_D} {base : Nat} {Hb : Heap} : zk_Met l qK D base Hb (zg_K D base Hb) yX11_letBelow (Jvm.Cond.code yX11_letBelow prog_1_method_58_code 4 (some .int) :: zg_tb) qR101 qC101 := by
  refine zk_met (ws' := zg_tb) (P := qP101) (AT := zg_AT) (by decide +kernel) rfl rfl rfl qk101 (fun s hK => zg_wd hK) (fun p e s m args below meth c s₁ Q B hml hK => ?_) (fun p e s m args below meth c s₁ v G0 H0 B hml hK ha hp hF q hq => absurd hq List.not_mem_nil)
  have S : CallFix p m c prog_1_method_58_code 4 s args (Jvm.Cond.code yX11_letBelow prog_1_method_58_code 4 (some .int) :: zg_tb) RX11 := ⟨B.exec, B.bytes, hml, findClass_of_methodNamed B.named, atoms_spec (ws := Jvm.Cond.code yX11_letBelow prog_1_method_58_code 4 (some .int) :: zg_tb) B.pre⟩
  exact ⟨List.forall_mem_cons.mpr ⟨zg_gp S (hK.2.1 11 _ rfl) (fun w h => (List.mem_cons_of_mem _ (zc11 w h))) rfl zt11_15 (List.mem_cons_of_mem _ zw2_68) rfl, fun _ h => absurd h List.not_mem_nil⟩,
    fun _ h => absurd h List.not_mem_nil,
    fun _ h => absurd h List.not_mem_nil,
    fun _ h => absurd h List.not_mem_nil,
    fun h => absurd rfl h,
    fun _ h => absurd h List.not_mem_nil,
    fun _ h => absurd h List.not_mem_nil⟩
set_option maxRecDepth 100000 in
def qR102 : Room := { frames := 5, cells := 0, slots := 0, locals := 108 }
set_option maxHeartbeats 4000000 in
set_option maxRecDepth 100000 in
theorem qm102 {l : Launch} {D : zk_D} {base : Nat} {Hb : Heap} : zk_Met l qK D base Hb (zg_K D base Hb) yX11_lose (Jvm.Cond.code yX11_lose prog_1_method_26_code 4 (some .int) :: zg_tb) qR102 qC102 := by
  refine zk_met (ws' := zg_tb) (P := qP102) (AT := zg_AT) (by decide +kernel) rfl rfl rfl qk102 (fun s hK => zg_wd hK) (fun p e s m args below meth c s₁ Q B hml hK => ?_) (fun p e s m args below meth c s₁ v G0 H0 B hml hK ha hp hF q hq => absurd hq List.not_mem_nil)
  have S : CallFix p m c prog_1_method_26_code 4 s args (Jvm.Cond.code yX11_lose prog_1_method_26_code 4 (some .int) :: zg_tb) RX11 := ⟨B.exec, B.bytes, hml, findClass_of_methodNamed B.named, atoms_spec (ws := Jvm.Cond.code yX11_lose prog_1_method_26_code 4 (some .int) :: zg_tb) B.pre⟩
  exact ⟨fun _ h => absurd h List.not_mem_nil,
    fun _ h => absurd h List.not_mem_nil,
    fun _ h => absurd h List.not_mem_nil,
    fun _ h => absurd h List.not_mem_nil,
    fun h => absurd rfl h,
    fun _ h => absurd h List.not_mem_nil,
    List.forall_mem_cons.mpr ⟨zg_callV (fun w h => List.mem_cons_of_mem _ h) zg_tb_all S hK zg_Km qm98 zw3_108 zy_yX11_isPast_V (ci := 11) (by decide +kernel) (hK.2.1 11 _ rfl).2.1 ⟨rfl, rfl⟩ (by decide +kernel), List.forall_mem_cons.mpr ⟨zg_callV (fun w h => List.mem_cons_of_mem _ h) zg_tb_all S hK zg_Km qm99 zw5_19 zy_yX11_weighMarked_V (ci := 11) (by decide +kernel) (hK.2.1 11 _ rfl).2.1 ⟨rfl, rfl⟩ (by decide +kernel), List.forall_mem_cons.mpr ⟨zg_callV (fun w h => List.mem_cons_of_mem _ h) zg_tb_all S hK zg_Km qm100 zw5_23 zy_yX11_lostAbove_V (ci := 11) (by decide +kernel) (hK.2.1 11 _ rfl).2.1 ⟨rfl, rfl⟩ (by decide +kernel), List.forall_mem_cons.mpr ⟨zg_callV (fun w h => List.mem_cons_of_mem _ h) zg_tb_all S hK zg_Km qm101 zw5_27 zy_yX11_letBelow_V (ci := 11) (by decide +kernel) (hK.2.1 11 _ rfl).2.1 ⟨rfl, rfl⟩ (by decide +kernel), fun _ h => absurd h List.not_mem_nil⟩⟩⟩⟩⟩
set_option maxRecDepth 100000 in
def qR103 : Room := { frames := 1, cells := 0, slots := 0, locals := 20 }
set_option maxHeartbeats 4000000 in
set_option maxRecDepth 100000 in
theorem qm103 {l : Launch} {D : zk_D} {base : Nat} {Hb : Heap} : zk_Met l qK D base Hb (zg_K D base Hb) yX12_in (Jvm.Cond.code yX12_in prog_14_method_1_code 3 (some .boolean) :: zg_tb) qR103 qC103 := by
  refine zk_met (ws' := zg_tb) (P := qP103) (AT := zg_AT) (by decide +kernel) rfl rfl rfl qk103 (fun s hK => zg_wd hK) (fun p e s m args below meth c s₁ Q B hml hK => ?_) (fun p e s m args below meth c s₁ v G0 H0 B hml hK ha hp hF q hq => absurd hq List.not_mem_nil)
  have S : CallFix p m c prog_14_method_1_code 3 s args (Jvm.Cond.code yX12_in prog_14_method_1_code 3 (some .boolean) :: zg_tb) RX12 := ⟨B.exec, B.bytes, hml, findClass_of_methodNamed B.named, atoms_spec (ws := Jvm.Cond.code yX12_in prog_14_method_1_code 3 (some .boolean) :: zg_tb) B.pre⟩
  exact ⟨fun _ h => absurd h List.not_mem_nil,
    fun _ h => absurd h List.not_mem_nil,
    fun _ h => absurd h List.not_mem_nil,
    fun _ h => absurd h List.not_mem_nil,
    fun h => absurd rfl h,
    fun _ h => absurd h List.not_mem_nil,
    fun _ h => absurd h List.not_mem_nil⟩
set_option maxRecDepth 100000 in
def qR104 : Room := { frames := 2, cells := 0, slots := 0, locals := 42 }
set_option maxHeartbeats 4000000 in
set_option maxRecDepth 100000 in
theorem qm104 {l : Launch} {D : zk_D} {base : Nat} {Hb : Heap} : zk_Met l qK D base Hb (zg_K D base Hb) yX12_isKnowing (Jvm.Cond.code yX12_isKnowing prog_14_method_3_code 2 (some .boolean) :: zg_tb) qR104 qC104 := by
  refine zk_met (ws' := zg_tb) (P := qP104) (AT := zg_AT) (by decide +kernel) rfl rfl rfl qk104 (fun s hK => zg_wd hK) (fun p e s m args below meth c s₁ Q B hml hK => ?_) (fun p e s m args below meth c s₁ v G0 H0 B hml hK ha hp hF q hq => absurd hq List.not_mem_nil)
  have S : CallFix p m c prog_14_method_3_code 2 s args (Jvm.Cond.code yX12_isKnowing prog_14_method_3_code 2 (some .boolean) :: zg_tb) RX12 := ⟨B.exec, B.bytes, hml, findClass_of_methodNamed B.named, atoms_spec (ws := Jvm.Cond.code yX12_isKnowing prog_14_method_3_code 2 (some .boolean) :: zg_tb) B.pre⟩
  exact ⟨List.forall_mem_cons.mpr ⟨zg_gp S (hK.2.1 12 _ rfl) (fun w h => (List.mem_cons_of_mem _ (zc12 w h))) rfl zt12_0 (List.mem_cons_of_mem _ zw5_159) rfl, fun _ h => absurd h List.not_mem_nil⟩,
    fun _ h => absurd h List.not_mem_nil,
    fun _ h => absurd h List.not_mem_nil,
    fun _ h => absurd h List.not_mem_nil,
    fun h => absurd rfl h,
    fun _ h => absurd h List.not_mem_nil,
    List.forall_mem_cons.mpr ⟨zg_callS (fun w h => List.mem_cons_of_mem _ h) zg_tb_all S hK zg_Km qm103 zw6_145 zy_yX12_in_S (by decide +kernel) ⟨rfl, rfl⟩ (by decide +kernel), fun _ h => absurd h List.not_mem_nil⟩⟩
set_option maxRecDepth 100000 in
def qR105 : Room := { frames := 1, cells := 0, slots := 0, locals := 20 }
set_option maxHeartbeats 4000000 in
set_option maxRecDepth 100000 in
theorem qm105 {l : Launch} {D : zk_D} {base : Nat} {Hb : Heap} : zk_Met l qK D base Hb (zg_K D base Hb) yX12_in (Jvm.Cond.code yX12_in prog_14_method_1_code 3 (some .boolean) :: zg_tb) qR105 qC105 := by
  refine zk_met (ws' := zg_tb) (P := qP105) (AT := zg_AT) (by decide +kernel) rfl rfl rfl qk105 (fun s hK => zg_wd hK) (fun p e s m args below meth c s₁ Q B hml hK => ?_) (fun p e s m args below meth c s₁ v G0 H0 B hml hK ha hp hF q hq => absurd hq List.not_mem_nil)
  have S : CallFix p m c prog_14_method_1_code 3 s args (Jvm.Cond.code yX12_in prog_14_method_1_code 3 (some .boolean) :: zg_tb) RX12 := ⟨B.exec, B.bytes, hml, findClass_of_methodNamed B.named, atoms_spec (ws := Jvm.Cond.code yX12_in prog_14_method_1_code 3 (some .boolean) :: zg_tb) B.pre⟩
  exact ⟨fun _ h => absurd h List.not_mem_nil,
    fun _ h => absurd h List.not_mem_nil,
    fun _ h => absurd h List.not_mem_nil,
    fun _ h => absurd h List.not_mem_nil,
    fun h => absurd rfl h,
    fun _ h => absurd h List.not_mem_nil,
    fun _ h => absurd h List.not_mem_nil⟩
set_option maxRecDepth 100000 in
def qR106 : Room := { frames := 1, cells := 0, slots := 0, locals := 20 }
set_option maxHeartbeats 4000000 in
set_option maxRecDepth 100000 in
theorem qm106 {l : Launch} {D : zk_D} {base : Nat} {Hb : Heap} : zk_Met l qK D base Hb (zg_K D base Hb) yX12_gather (Jvm.Cond.code yX12_gather prog_14_method_63_code 3 none :: zg_tb) qR106 qC106 := by
  refine zk_met (ws' := zg_tb) (P := qP106) (AT := zg_AT) (by decide +kernel) rfl rfl rfl qk106 (fun s hK => zg_wd hK) (fun p e s m args below meth c s₁ Q B hml hK => ?_) (fun p e s m args below meth c s₁ v G0 H0 B hml hK ha hp hF q hq => absurd hq List.not_mem_nil)
  have S : CallFix p m c prog_14_method_63_code 3 s args (Jvm.Cond.code yX12_gather prog_14_method_63_code 3 none :: zg_tb) RX12 := ⟨B.exec, B.bytes, hml, findClass_of_methodNamed B.named, atoms_spec (ws := Jvm.Cond.code yX12_gather prog_14_method_63_code 3 none :: zg_tb) B.pre⟩
  exact ⟨List.forall_mem_cons.mpr ⟨zg_gp S (hK.2.1 12 _ rfl) (fun w h => (List.mem_cons_of_mem _ (zc12 w h))) rfl zt12_44 (List.mem_cons_of_mem _ zw5_203) rfl, List.forall_mem_cons.mpr ⟨zg_gp S (hK.2.1 12 _ rfl) (fun w h => (List.mem_cons_of_mem _ (zc12 w h))) rfl zt12_49 (List.mem_cons_of_mem _ zw5_208) rfl, fun _ h => absurd h List.not_mem_nil⟩⟩,
    fun _ h => absurd h List.not_mem_nil,
    fun _ h => absurd h List.not_mem_nil,
    fun _ h => absurd h List.not_mem_nil,
    fun h => absurd rfl h,
    fun _ h => absurd h List.not_mem_nil,
    fun _ h => absurd h List.not_mem_nil⟩
set_option maxRecDepth 100000 in
def qR107 : Room := { frames := 2, cells := 0, slots := 0, locals := 42 }
set_option maxHeartbeats 4000000 in
set_option maxRecDepth 100000 in
theorem qm107 {l : Launch} {D : zk_D} {base : Nat} {Hb : Heap} : zk_Met l qK D base Hb (zg_K D base Hb) yX12_weighMarked (Jvm.Cond.code yX12_weighMarked prog_14_method_73_code 3 none :: zg_tb) qR107 qC107 := by
  refine zk_met (ws' := zg_tb) (P := qP107) (AT := zg_AT) (by decide +kernel) rfl rfl rfl qk107 (fun s hK => zg_wd hK) (fun p e s m args below meth c s₁ Q B hml hK => ?_) (fun p e s m args below meth c s₁ v G0 H0 B hml hK ha hp hF q hq => absurd hq List.not_mem_nil)
  have S : CallFix p m c prog_14_method_73_code 3 s args (Jvm.Cond.code yX12_weighMarked prog_14_method_73_code 3 none :: zg_tb) RX12 := ⟨B.exec, B.bytes, hml, findClass_of_methodNamed B.named, atoms_spec (ws := Jvm.Cond.code yX12_weighMarked prog_14_method_73_code 3 none :: zg_tb) B.pre⟩
  exact ⟨List.forall_mem_cons.mpr ⟨zg_gp S (hK.2.1 12 _ rfl) (fun w h => (List.mem_cons_of_mem _ (zc12 w h))) rfl zt12_44 (List.mem_cons_of_mem _ zw5_203) rfl, fun _ h => absurd h List.not_mem_nil⟩,
    fun _ h => absurd h List.not_mem_nil,
    fun _ h => absurd h List.not_mem_nil,
    fun _ h => absurd h List.not_mem_nil,
    fun h => absurd rfl h,
    fun _ h => absurd h List.not_mem_nil,
    List.forall_mem_cons.mpr ⟨zg_callV (fun w h => List.mem_cons_of_mem _ h) zg_tb_all S hK zg_Km qm106 zw7_119 zy_yX12_gather_V (ci := 12) (by decide +kernel) (hK.2.1 12 _ rfl).2.1 ⟨rfl, rfl⟩ (by decide +kernel), fun _ h => absurd h List.not_mem_nil⟩⟩
set_option maxRecDepth 100000 in
def qR108 : Room := { frames := 1, cells := 0, slots := 0, locals := 20 }
set_option maxHeartbeats 4000000 in
set_option maxRecDepth 100000 in
theorem qm108 {l : Launch} {D : zk_D} {base : Nat} {Hb : Heap} : zk_Met l qK D base Hb (zg_K D base Hb) yX12_lostOrLet (Jvm.Cond.code yX12_lostOrLet prog_14_method_72_code 6 (some .int) :: zg_tb) qR108 qC108 := by
  refine zk_met (ws' := zg_tb) (P := qP108) (AT := zg_AT) (by decide +kernel) rfl rfl rfl qk108 (fun s hK => zg_wd hK) (fun p e s m args below meth c s₁ Q B hml hK => ?_) (fun p e s m args below meth c s₁ v G0 H0 B hml hK ha hp hF q hq => absurd hq List.not_mem_nil)
  have S : CallFix p m c prog_14_method_72_code 6 s args (Jvm.Cond.code yX12_lostOrLet prog_14_method_72_code 6 (some .int) :: zg_tb) RX12 := ⟨B.exec, B.bytes, hml, findClass_of_methodNamed B.named, atoms_spec (ws := Jvm.Cond.code yX12_lostOrLet prog_14_method_72_code 6 (some .int) :: zg_tb) B.pre⟩
  exact ⟨List.forall_mem_cons.mpr ⟨zg_gp S (hK.2.1 12 _ rfl) (fun w h => (List.mem_cons_of_mem _ (zc12 w h))) rfl zt12_44 (List.mem_cons_of_mem _ zw5_203) rfl, fun _ h => absurd h List.not_mem_nil⟩,
    fun _ h => absurd h List.not_mem_nil,
    fun _ h => absurd h List.not_mem_nil,
    fun _ h => absurd h List.not_mem_nil,
    fun h => absurd rfl h,
    fun _ h => absurd h List.not_mem_nil,
    fun _ h => absurd h List.not_mem_nil⟩
set_option maxRecDepth 100000 in
def qR109 : Room := { frames := 3, cells := 0, slots := 0, locals := 64 }
set_option maxHeartbeats 4000000 in
set_option maxRecDepth 100000 in
theorem qm109 {l : Launch} {D : zk_D} {base : Nat} {Hb : Heap} : zk_Met l qK D base Hb (zg_K D base Hb) yX12_lose (Jvm.Cond.code yX12_lose prog_14_method_74_code 4 (some .int) :: zg_tb) qR109 qC109 := by
  refine zk_met (ws' := zg_tb) (P := qP109) (AT := zg_AT) (by decide +kernel) rfl rfl rfl qk109 (fun s hK => zg_wd hK) (fun p e s m args below meth c s₁ Q B hml hK => ?_) (fun p e s m args below meth c s₁ v G0 H0 B hml hK ha hp hF q hq => absurd hq List.not_mem_nil)
  have S : CallFix p m c prog_14_method_74_code 4 s args (Jvm.Cond.code yX12_lose prog_14_method_74_code 4 (some .int) :: zg_tb) RX12 := ⟨B.exec, B.bytes, hml, findClass_of_methodNamed B.named, atoms_spec (ws := Jvm.Cond.code yX12_lose prog_14_method_74_code 4 (some .int) :: zg_tb) B.pre⟩
  exact ⟨fun _ h => absurd h List.not_mem_nil,
    fun _ h => absurd h List.not_mem_nil,
    fun _ h => absurd h List.not_mem_nil,
    fun _ h => absurd h List.not_mem_nil,
    fun h => absurd rfl h,
    fun _ h => absurd h List.not_mem_nil,
    List.forall_mem_cons.mpr ⟨zg_callV (fun w h => List.mem_cons_of_mem _ h) zg_tb_all S hK zg_Km qm104 zw7_57 zy_yX12_isKnowing_V (ci := 12) (by decide +kernel) (hK.2.1 12 _ rfl).2.1 ⟨rfl, rfl⟩ (by decide +kernel), List.forall_mem_cons.mpr ⟨zg_callS (fun w h => List.mem_cons_of_mem _ h) zg_tb_all S hK zg_Km qm105 zw6_145 zy_yX12_in_S (by decide +kernel) ⟨rfl, rfl⟩ (by decide +kernel), List.forall_mem_cons.mpr ⟨zg_callV (fun w h => List.mem_cons_of_mem _ h) zg_tb_all S hK zg_Km qm107 zw7_152 zy_yX12_weighMarked_V (ci := 12) (by decide +kernel) (hK.2.1 12 _ rfl).2.1 ⟨rfl, rfl⟩ (by decide +kernel), List.forall_mem_cons.mpr ⟨zg_callV (fun w h => List.mem_cons_of_mem _ h) zg_tb_all S hK zg_Km qm108 zw7_156 zy_yX12_lostOrLet_V (ci := 12) (by decide +kernel) (hK.2.1 12 _ rfl).2.1 ⟨rfl, rfl⟩ (by decide +kernel), fun _ h => absurd h List.not_mem_nil⟩⟩⟩⟩⟩
set_option maxRecDepth 100000 in
def qR110 : Room := { frames := 5, cells := 0, slots := 0, locals := 108 }
set_option maxHeartbeats 4000000 in
set_option maxRecDepth 100000 in
theorem qm110 {l : Launch} {D : zk_D} {base : Nat} {Hb : Heap} : zk_Met l qK D base Hb (zg_K D base Hb) yX11_best (Jvm.Cond.code yX11_best prog_1_method_27_code 8 (some .int) :: zg_tb) qR110 qC110 := by
  refine zk_met (ws' := zg_tb) (P := qP110) (AT := zg_AT) (by decide +kernel) rfl rfl rfl qk110 (fun s hK => zg_wd hK) (fun p e s m args below meth c s₁ Q B hml hK => ?_) (fun p e s m args below meth c s₁ v G0 H0 B hml hK ha hp hF q hq => absurd hq List.not_mem_nil)
  have S : CallFix p m c prog_1_method_27_code 8 s args (Jvm.Cond.code yX11_best prog_1_method_27_code 8 (some .int) :: zg_tb) RX11 := ⟨B.exec, B.bytes, hml, findClass_of_methodNamed B.named, atoms_spec (ws := Jvm.Cond.code yX11_best prog_1_method_27_code 8 (some .int) :: zg_tb) B.pre⟩
  exact ⟨List.forall_mem_cons.mpr ⟨zg_gp S (hK.2.1 11 _ rfl) (fun w h => (List.mem_cons_of_mem _ (zc11 w h))) rfl zt11_15 (List.mem_cons_of_mem _ zw2_68) rfl, fun _ h => absurd h List.not_mem_nil⟩,
    fun _ h => absurd h List.not_mem_nil,
    fun _ h => absurd h List.not_mem_nil,
    fun _ h => absurd h List.not_mem_nil,
    fun h => absurd rfl h,
    List.forall_mem_cons.mpr ⟨zg_kokW S (List.mem_cons_of_mem _ zw5_6) (by decide +kernel) (by decide +kernel), List.forall_mem_cons.mpr ⟨zg_kokW S (List.mem_cons_of_mem _ zw5_6) (by decide +kernel) (by decide +kernel), fun _ h => absurd h List.not_mem_nil⟩⟩,
    List.forall_mem_cons.mpr ⟨zg_callV (fun w h => List.mem_cons_of_mem _ h) zg_tb_all S hK zg_Km qm98 zw3_108 zy_yX11_isPast_V (ci := 11) (by decide +kernel) (hK.2.1 11 _ rfl).2.1 ⟨rfl, rfl⟩ (by decide +kernel), List.forall_mem_cons.mpr ⟨zg_callV (fun w h => List.mem_cons_of_mem _ h) zg_tb_all S hK zg_Km qm99 zw5_19 zy_yX11_weighMarked_V (ci := 11) (by decide +kernel) (hK.2.1 11 _ rfl).2.1 ⟨rfl, rfl⟩ (by decide +kernel), fun _ h => absurd h List.not_mem_nil⟩⟩⟩
set_option maxRecDepth 100000 in
def qR111 : Room := { frames := 3, cells := 0, slots := 0, locals := 64 }
set_option maxHeartbeats 4000000 in
set_option maxRecDepth 100000 in
theorem qm111 {l : Launch} {D : zk_D} {base : Nat} {Hb : Heap} : zk_Met l qK D base Hb (zg_K D base Hb) yX12_best (Jvm.Cond.code yX12_best prog_14_method_75_code 6 (some .int) :: zg_tb) qR111 qC111 := by
  refine zk_met (ws' := zg_tb) (P := qP111) (AT := zg_AT) (by decide +kernel) rfl rfl rfl qk111 (fun s hK => zg_wd hK) (fun p e s m args below meth c s₁ Q B hml hK => ?_) (fun p e s m args below meth c s₁ v G0 H0 B hml hK ha hp hF q hq => absurd hq List.not_mem_nil)
  have S : CallFix p m c prog_14_method_75_code 6 s args (Jvm.Cond.code yX12_best prog_14_method_75_code 6 (some .int) :: zg_tb) RX12 := ⟨B.exec, B.bytes, hml, findClass_of_methodNamed B.named, atoms_spec (ws := Jvm.Cond.code yX12_best prog_14_method_75_code 6 (some .int) :: zg_tb) B.pre⟩
  exact ⟨List.forall_mem_cons.mpr ⟨zg_gp S (hK.2.1 12 _ rfl) (fun w h => (List.mem_cons_of_mem _ (zc12 w h))) rfl zt12_44 (List.mem_cons_of_mem _ zw5_203) rfl, fun _ h => absurd h List.not_mem_nil⟩,
    fun _ h => absurd h List.not_mem_nil,
    fun _ h => absurd h List.not_mem_nil,
    fun _ h => absurd h List.not_mem_nil,
    fun h => absurd rfl h,
    List.forall_mem_cons.mpr ⟨zg_kokW S (List.mem_cons_of_mem _ zw7_118) (by decide +kernel) (by decide +kernel), List.forall_mem_cons.mpr ⟨zg_kokW S (List.mem_cons_of_mem _ zw7_118) (by decide +kernel) (by decide +kernel), fun _ h => absurd h List.not_mem_nil⟩⟩,
    List.forall_mem_cons.mpr ⟨zg_callV (fun w h => List.mem_cons_of_mem _ h) zg_tb_all S hK zg_Km qm104 zw7_57 zy_yX12_isKnowing_V (ci := 12) (by decide +kernel) (hK.2.1 12 _ rfl).2.1 ⟨rfl, rfl⟩ (by decide +kernel), List.forall_mem_cons.mpr ⟨zg_callV (fun w h => List.mem_cons_of_mem _ h) zg_tb_all S hK zg_Km qm107 zw7_152 zy_yX12_weighMarked_V (ci := 12) (by decide +kernel) (hK.2.1 12 _ rfl).2.1 ⟨rfl, rfl⟩ (by decide +kernel), fun _ h => absurd h List.not_mem_nil⟩⟩⟩
set_option maxRecDepth 100000 in
def qR112 : Room := { frames := 2, cells := 0, slots := 0, locals := 41 }
set_option maxHeartbeats 4000000 in
set_option maxRecDepth 100000 in
theorem qm112 {l : Launch} {D : zk_D} {base : Nat} {Hb : Heap} : zk_Met l qK D base Hb (zg_K D base Hb) yX11_path (Jvm.Cond.code yX11_path prog_1_method_28_code 5 (some .int) :: zg_tb) qR112 qC112 := by
  refine zk_met (ws' := zg_tb) (P := qP112) (AT := zg_AT) (by decide +kernel) rfl rfl rfl qk112 (fun s hK => zg_wd hK) (fun p e s m args below meth c s₁ Q B hml hK => ?_) (fun p e s m args below meth c s₁ v G0 H0 B hml hK ha hp hF q hq => absurd hq List.not_mem_nil)
  have S : CallFix p m c prog_1_method_28_code 5 s args (Jvm.Cond.code yX11_path prog_1_method_28_code 5 (some .int) :: zg_tb) RX11 := ⟨B.exec, B.bytes, hml, findClass_of_methodNamed B.named, atoms_spec (ws := Jvm.Cond.code yX11_path prog_1_method_28_code 5 (some .int) :: zg_tb) B.pre⟩
  exact ⟨fun _ h => absurd h List.not_mem_nil,
    fun _ h => absurd h List.not_mem_nil,
    fun _ h => absurd h List.not_mem_nil,
    fun _ h => absurd h List.not_mem_nil,
    fun h => absurd rfl h,
    fun _ h => absurd h List.not_mem_nil,
    List.forall_mem_cons.mpr ⟨zg_callV (fun w h => List.mem_cons_of_mem _ h) zg_tb_all S hK zg_Km qm66 zw4_142 zy_yX11_letterAt_V (ci := 11) (by decide +kernel) (hK.2.1 11 _ rfl).2.1 ⟨rfl, rfl⟩ (by decide +kernel), fun _ h => absurd h List.not_mem_nil⟩⟩
set_option maxRecDepth 100000 in
def qR113 : Room := { frames := 3, cells := 0, slots := 0, locals := 63 }
set_option maxHeartbeats 4000000 in
set_option maxRecDepth 100000 in
theorem qm113 {l : Launch} {D : zk_D} {base : Nat} {Hb : Heap} : zk_Met l qK D base Hb (zg_K D base Hb) yX12_path (Jvm.Cond.code yX12_path prog_14_method_87_code 4 (some .int) :: zg_tb) qR113 qC113 := by
  refine zk_met (ws' := zg_tb) (P := qP113) (AT := zg_AT) (by decide +kernel) rfl rfl rfl qk113 (fun s hK => zg_wd hK) (fun p e s m args below meth c s₁ Q B hml hK => ?_) (fun p e s m args below meth c s₁ v G0 H0 B hml hK ha hp hF q hq => absurd hq List.not_mem_nil)
  have S : CallFix p m c prog_14_method_87_code 4 s args (Jvm.Cond.code yX12_path prog_14_method_87_code 4 (some .int) :: zg_tb) RX12 := ⟨B.exec, B.bytes, hml, findClass_of_methodNamed B.named, atoms_spec (ws := Jvm.Cond.code yX12_path prog_14_method_87_code 4 (some .int) :: zg_tb) B.pre⟩
  exact ⟨fun _ h => absurd h List.not_mem_nil,
    fun _ h => absurd h List.not_mem_nil,
    fun _ h => absurd h List.not_mem_nil,
    fun _ h => absurd h List.not_mem_nil,
    fun h => absurd rfl h,
    fun _ h => absurd h List.not_mem_nil,
    List.forall_mem_cons.mpr ⟨zg_callV (fun w h => List.mem_cons_of_mem _ h) zg_tb_all S hK zg_Km qm69 zw7_80 zy_yX12_isLetter_V (ci := 12) (by decide +kernel) (hK.2.1 12 _ rfl).2.1 ⟨rfl, rfl⟩ (by decide +kernel), fun _ h => absurd h List.not_mem_nil⟩⟩
set_option maxRecDepth 100000 in
def qR114 : Room := { frames := 2, cells := 0, slots := 0, locals := 41 }
set_option maxHeartbeats 4000000 in
set_option maxRecDepth 100000 in
theorem qm114 {l : Launch} {D : zk_D} {base : Nat} {Hb : Heap} : zk_Met l qK D base Hb (zg_K D base Hb) yX11_falsely (Jvm.Cond.code yX11_falsely prog_1_method_29_code 4 (some .int) :: zg_tb) qR114 qC114 := by
  refine zk_met (ws' := zg_tb) (P := qP114) (AT := zg_AT) (by decide +kernel) rfl rfl rfl qk114 (fun s hK => zg_wd hK) (fun p e s m args below meth c s₁ Q B hml hK => ?_) (fun p e s m args below meth c s₁ v G0 H0 B hml hK ha hp hF q hq => absurd hq List.not_mem_nil)
  have S : CallFix p m c prog_1_method_29_code 4 s args (Jvm.Cond.code yX11_falsely prog_1_method_29_code 4 (some .int) :: zg_tb) RX11 := ⟨B.exec, B.bytes, hml, findClass_of_methodNamed B.named, atoms_spec (ws := Jvm.Cond.code yX11_falsely prog_1_method_29_code 4 (some .int) :: zg_tb) B.pre⟩
  exact ⟨fun _ h => absurd h List.not_mem_nil,
    fun _ h => absurd h List.not_mem_nil,
    fun _ h => absurd h List.not_mem_nil,
    fun _ h => absurd h List.not_mem_nil,
    fun h => absurd rfl h,
    fun _ h => absurd h List.not_mem_nil,
    List.forall_mem_cons.mpr ⟨zg_callV (fun w h => List.mem_cons_of_mem _ h) zg_tb_all S hK zg_Km qm66 zw4_142 zy_yX11_letterAt_V (ci := 11) (by decide +kernel) (hK.2.1 11 _ rfl).2.1 ⟨rfl, rfl⟩ (by decide +kernel), fun _ h => absurd h List.not_mem_nil⟩⟩
set_option maxRecDepth 100000 in
def qR115 : Room := { frames := 3, cells := 0, slots := 0, locals := 63 }
set_option maxHeartbeats 4000000 in
set_option maxRecDepth 100000 in
theorem qm115 {l : Launch} {D : zk_D} {base : Nat} {Hb : Heap} : zk_Met l qK D base Hb (zg_K D base Hb) yX12_falsely (Jvm.Cond.code yX12_falsely prog_14_method_88_code 4 (some .int) :: zg_tb) qR115 qC115 := by
  refine zk_met (ws' := zg_tb) (P := qP115) (AT := zg_AT) (by decide +kernel) rfl rfl rfl qk115 (fun s hK => zg_wd hK) (fun p e s m args below meth c s₁ Q B hml hK => ?_) (fun p e s m args below meth c s₁ v G0 H0 B hml hK ha hp hF q hq => absurd hq List.not_mem_nil)
  have S : CallFix p m c prog_14_method_88_code 4 s args (Jvm.Cond.code yX12_falsely prog_14_method_88_code 4 (some .int) :: zg_tb) RX12 := ⟨B.exec, B.bytes, hml, findClass_of_methodNamed B.named, atoms_spec (ws := Jvm.Cond.code yX12_falsely prog_14_method_88_code 4 (some .int) :: zg_tb) B.pre⟩
  exact ⟨fun _ h => absurd h List.not_mem_nil,
    fun _ h => absurd h List.not_mem_nil,
    fun _ h => absurd h List.not_mem_nil,
    fun _ h => absurd h List.not_mem_nil,
    fun h => absurd rfl h,
    fun _ h => absurd h List.not_mem_nil,
    List.forall_mem_cons.mpr ⟨zg_callV (fun w h => List.mem_cons_of_mem _ h) zg_tb_all S hK zg_Km qm69 zw7_80 zy_yX12_isLetter_V (ci := 12) (by decide +kernel) (hK.2.1 12 _ rfl).2.1 ⟨rfl, rfl⟩ (by decide +kernel), fun _ h => absurd h List.not_mem_nil⟩⟩
set_option maxRecDepth 100000 in
def qR116 : Room := { frames := 2, cells := 0, slots := 0, locals := 41 }
set_option maxHeartbeats 4000000 in
set_option maxRecDepth 100000 in
theorem qm116 {l : Launch} {D : zk_D} {base : Nat} {Hb : Heap} : zk_Met l qK D base Hb (zg_K D base Hb) yX11_give (Jvm.Cond.code yX11_give prog_1_method_30_code 3 (some .boolean) :: zg_tb) qR116 qC116 := by
  refine zk_met (ws' := zg_tb) (P := qP116) (AT := zg_AT) (by decide +kernel) rfl rfl rfl qk116 (fun s hK => zg_wd hK) (fun p e s m args below meth c s₁ Q B hml hK => ?_) (fun p e s m args below meth c s₁ v G0 H0 B hml hK ha hp hF q hq => absurd hq List.not_mem_nil)
  have S : CallFix p m c prog_1_method_30_code 3 s args (Jvm.Cond.code yX11_give prog_1_method_30_code 3 (some .boolean) :: zg_tb) RX11 := ⟨B.exec, B.bytes, hml, findClass_of_methodNamed B.named, atoms_spec (ws := Jvm.Cond.code yX11_give prog_1_method_30_code 3 (some .boolean) :: zg_tb) B.pre⟩
  exact ⟨List.forall_mem_cons.mpr ⟨zg_gp4 S (hK.2.1 11 _ rfl) (fun w h => (List.mem_cons_of_mem _ (zc11 w h))) rfl zt11_0 (List.mem_cons_of_mem _ zw2_53), fun _ h => absurd h List.not_mem_nil⟩,
    fun _ h => absurd h List.not_mem_nil,
    fun _ h => absurd h List.not_mem_nil,
    fun _ h => absurd h List.not_mem_nil,
    fun h => absurd rfl h,
    fun _ h => absurd h List.not_mem_nil,
    List.forall_mem_cons.mpr ⟨zg_callV (fun w h => List.mem_cons_of_mem _ h) zg_tb_all S hK zg_Km qm61 zw3_204 zy_yX4_hasName_V (ci := 4) (by decide +kernel) (hK.2.1 4 _ rfl).2.1 ⟨rfl, rfl⟩ (by decide +kernel), fun _ h => absurd h List.not_mem_nil⟩⟩
set_option maxRecDepth 100000 in
def qR117 : Room := { frames := 3, cells := 0, slots := 0, locals := 63 }
set_option maxHeartbeats 4000000 in
set_option maxRecDepth 100000 in
theorem qm117 {l : Launch} {D : zk_D} {base : Nat} {Hb : Heap} : zk_Met l qK D base Hb (zg_K D base Hb) yX12_give (Jvm.Cond.code yX12_give prog_14_method_10_code 3 (some .boolean) :: zg_tb) qR117 qC117 := by
  refine zk_met (ws' := zg_tb) (P := qP117) (AT := zg_AT) (by decide +kernel) rfl rfl rfl qk117 (fun s hK => zg_wd hK) (fun p e s m args below meth c s₁ Q B hml hK => ?_) (fun p e s m args below meth c s₁ v G0 H0 B hml hK ha hp hF q hq => absurd hq List.not_mem_nil)
  have S : CallFix p m c prog_14_method_10_code 3 s args (Jvm.Cond.code yX12_give prog_14_method_10_code 3 (some .boolean) :: zg_tb) RX12 := ⟨B.exec, B.bytes, hml, findClass_of_methodNamed B.named, atoms_spec (ws := Jvm.Cond.code yX12_give prog_14_method_10_code 3 (some .boolean) :: zg_tb) B.pre⟩
  exact ⟨fun _ h => absurd h List.not_mem_nil,
    fun _ h => absurd h List.not_mem_nil,
    fun _ h => absurd h List.not_mem_nil,
    fun _ h => absurd h List.not_mem_nil,
    fun h => absurd rfl h,
    fun _ h => absurd h List.not_mem_nil,
    List.forall_mem_cons.mpr ⟨zg_callV (fun w h => List.mem_cons_of_mem _ h) zg_tb_all S hK zg_Km qm64 zw6_160 zy_yX12_isName_V (ci := 12) (by decide +kernel) (hK.2.1 12 _ rfl).2.1 ⟨rfl, rfl⟩ (by decide +kernel), fun _ h => absurd h List.not_mem_nil⟩⟩
set_option maxRecDepth 100000 in
def qR118 : Room := { frames := 2, cells := 0, slots := 0, locals := 41 }
set_option maxHeartbeats 4000000 in
set_option maxRecDepth 100000 in
theorem qm118 {l : Launch} {D : zk_D} {base : Nat} {Hb : Heap} : zk_Met l qK D base Hb (zg_K D base Hb) yX11_spread (Jvm.Cond.code yX11_spread prog_1_method_31_code 4 (some .int) :: zg_tb) qR118 qC118 := by
  refine zk_met (ws' := zg_tb) (P := qP118) (AT := zg_AT) (by decide +kernel) rfl rfl rfl qk118 (fun s hK => zg_wd hK) (fun p e s m args below meth c s₁ Q B hml hK => ?_) (fun p e s m args below meth c s₁ v G0 H0 B hml hK ha hp hF q hq => absurd hq List.not_mem_nil)
  have S : CallFix p m c prog_1_method_31_code 4 s args (Jvm.Cond.code yX11_spread prog_1_method_31_code 4 (some .int) :: zg_tb) RX11 := ⟨B.exec, B.bytes, hml, findClass_of_methodNamed B.named, atoms_spec (ws := Jvm.Cond.code yX11_spread prog_1_method_31_code 4 (some .int) :: zg_tb) B.pre⟩
  exact ⟨List.forall_mem_cons.mpr ⟨zg_gp4 S (hK.2.1 11 _ rfl) (fun w h => (List.mem_cons_of_mem _ (zc11 w h))) rfl zt11_0 (List.mem_cons_of_mem _ zw2_53), fun _ h => absurd h List.not_mem_nil⟩,
    fun _ h => absurd h List.not_mem_nil,
    fun _ h => absurd h List.not_mem_nil,
    fun _ h => absurd h List.not_mem_nil,
    fun h => absurd rfl h,
    fun _ h => absurd h List.not_mem_nil,
    List.forall_mem_cons.mpr ⟨zg_callV (fun w h => List.mem_cons_of_mem _ h) zg_tb_all S hK zg_Km qm16 zw2_117 zy_yX4_hasHouse_V (ci := 4) (by decide +kernel) (hK.2.1 4 _ rfl).2.1 ⟨rfl, rfl⟩ (by decide +kernel), fun _ h => absurd h List.not_mem_nil⟩⟩
set_option maxRecDepth 100000 in
def qR119 : Room := { frames := 3, cells := 0, slots := 0, locals := 63 }
set_option maxHeartbeats 4000000 in
set_option maxRecDepth 100000 in
theorem qm119 {l : Launch} {D : zk_D} {base : Nat} {Hb : Heap} : zk_Met l qK D base Hb (zg_K D base Hb) yX12_spread (Jvm.Cond.code yX12_spread prog_14_method_89_code 7 (some .int) :: zg_tb) qR119 qC119 := by
  refine zk_met (ws' := zg_tb) (P := qP119) (AT := zg_AT) (by decide +kernel) rfl rfl rfl qk119 (fun s hK => zg_wd hK) (fun p e s m args below meth c s₁ Q B hml hK => ?_) (fun p e s m args below meth c s₁ v G0 H0 B hml hK ha hp hF q hq => absurd hq List.not_mem_nil)
  have S : CallFix p m c prog_14_method_89_code 7 s args (Jvm.Cond.code yX12_spread prog_14_method_89_code 7 (some .int) :: zg_tb) RX12 := ⟨B.exec, B.bytes, hml, findClass_of_methodNamed B.named, atoms_spec (ws := Jvm.Cond.code yX12_spread prog_14_method_89_code 7 (some .int) :: zg_tb) B.pre⟩
  exact ⟨fun _ h => absurd h List.not_mem_nil,
    fun _ h => absurd h List.not_mem_nil,
    fun _ h => absurd h List.not_mem_nil,
    fun _ h => absurd h List.not_mem_nil,
    fun h => absurd rfl h,
    fun _ h => absurd h List.not_mem_nil,
    List.forall_mem_cons.mpr ⟨zg_callV (fun w h => List.mem_cons_of_mem _ h) zg_tb_all S hK zg_Km qm19 zw6_141 zy_yX12_isHouse_V (ci := 12) (by decide +kernel) (hK.2.1 12 _ rfl).2.1 ⟨rfl, rfl⟩ (by decide +kernel), fun _ h => absurd h List.not_mem_nil⟩⟩
