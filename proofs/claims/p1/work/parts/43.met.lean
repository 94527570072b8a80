/-! CONTRACTS MET, 48.. -/
set_option maxRecDepth 100000 in
def qR48 : Room := { frames := 3, cells := 0, slots := 0, locals := 63 }
set_option maxHeartbeats 4000000 in
set_option maxRecDepth 100000 in
theorem qm48 {l : Launch} {D : zk_D} {base : Nat} {Hb : Heap} : zk_Met l qK D base Hb (zg_K D base Hb) yX11_force (Jvm.Cond.code yX11_force prog_1_method_10_code 5 (some .int) :: zg_tb) qR48 qC48 := by
  refine zk_met (ws' := zg_tb) (P := qP48) (AT := zg_AT) (by decide +kernel) rfl rfl rfl qk48 (fun s hK => zg_wd hK) (fun p e s m args below meth c s₁ Q B hml hK => ?_) (fun p e s m args below meth c s₁ v G0 H0 B hml hK ha hp hF q hq => absurd hq List.not_mem_nil)
  have S : CallFix p m c prog_1_method_10_code 5 s args (Jvm.Cond.code yX11_force prog_1_method_10_code 5 (some .int) :: zg_tb) RX11 := ⟨B.exec, B.bytes, hml, findClass_of_methodNamed B.named, atoms_spec (ws := Jvm.Cond.code yX11_force prog_1_method_10_code 5 (some .int) :: zg_tb) B.pre⟩
  exact ⟨fun _ h => absurd h List.not_mem_nil,
    fun _ h => absurd h List.not_mem_nil,
    fun _ h => absurd h List.not_mem_nil,
    fun _ h => absurd h List.not_mem_nil,
    fun h => absurd rfl h,
    fun _ h => absurd h List.not_mem_nil,
    List.forall_mem_cons.mpr ⟨zg_callV (fun w h => List.mem_cons_of_mem _ h) zg_tb_all S hK zg_Km qm44 zw3_69 zy_yX11_hasRuler_V (ci := 11) (by decide +kernel) (hK.2.1 11 _ rfl).2.1 ⟨rfl, rfl⟩ (by decide +kernel), fun _ h => absurd h List.not_mem_nil⟩⟩
set_option maxRecDepth 100000 in
def qR49 : Room := { frames := 1, cells := 0, slots := 0, locals := 20 }
set_option maxHeartbeats 4000000 in
set_option maxRecDepth 100000 in
theorem qm49 {l : Launch} {D : zk_D} {base : Nat} {Hb : Heap} : zk_Met l qK D base Hb (zg_K D base Hb) yX12_in (Jvm.Cond.code yX12_in prog_14_method_1_code 3 (some .boolean) :: zg_tb) qR49 qC49 := by
  refine zk_met (ws' := zg_tb) (P := qP49) (AT := zg_AT) (by decide +kernel) rfl rfl rfl qk49 (fun s hK => zg_wd hK) (fun p e s m args below meth c s₁ Q B hml hK => ?_) (fun p e s m args below meth c s₁ v G0 H0 B hml hK ha hp hF q hq => absurd hq List.not_mem_nil)
  have S : CallFix p m c prog_14_method_1_code 3 s args (Jvm.Cond.code yX12_in prog_14_method_1_code 3 (some .boolean) :: zg_tb) RX12 := ⟨B.exec, B.bytes, hml, findClass_of_methodNamed B.named, atoms_spec (ws := Jvm.Cond.code yX12_in prog_14_method_1_code 3 (some .boolean) :: zg_tb) B.pre⟩
  exact ⟨fun _ h => absurd h List.not_mem_nil,
    fun _ h => absurd h List.not_mem_nil,
    fun _ h => absurd h List.not_mem_nil,
    fun _ h => absurd h List.not_mem_nil,
    fun h => absurd rfl h,
    fun _ h => absurd h List.not_mem_nil,
    fun _ h => absurd h List.not_mem_nil⟩
set_option maxRecDepth 100000 in
def qR50 : Room := { frames := 2, cells := 0, slots := 0, locals := 42 }
set_option maxHeartbeats 4000000 in
set_option maxRecDepth 100000 in
theorem qm50 {l : Launch} {D : zk_D} {base : Nat} {Hb : Heap} : zk_Met l qK D base Hb (zg_K D base Hb) yX12_force (Jvm.Cond.code yX12_force prog_14_method_46_code 5 (some .int) :: zg_tb) qR50 qC50 := by
  refine zk_met (ws' := zg_tb) (P := qP50) (AT := zg_AT) (by decide +kernel) rfl rfl rfl qk50 (fun s hK => zg_wd hK) (fun p e s m args below meth c s₁ Q B hml hK => ?_) (fun p e s m args below meth c s₁ v G0 H0 B hml hK ha hp hF q hq => absurd hq List.not_mem_nil)
  have S : CallFix p m c prog_14_method_46_code 5 s args (Jvm.Cond.code yX12_force prog_14_method_46_code 5 (some .int) :: zg_tb) RX12 := ⟨B.exec, B.bytes, hml, findClass_of_methodNamed B.named, atoms_spec (ws := Jvm.Cond.code yX12_force prog_14_method_46_code 5 (some .int) :: zg_tb) B.pre⟩
  exact ⟨List.forall_mem_cons.mpr ⟨zg_gp S (hK.2.1 12 _ rfl) (fun w h => (List.mem_cons_of_mem _ (zc12 w h))) rfl zt12_57 (List.mem_cons_of_mem _ zw5_216) rfl, List.forall_mem_cons.mpr ⟨zg_gp S (hK.2.1 12 _ rfl) (fun w h => (List.mem_cons_of_mem _ (zc12 w h))) rfl zt12_6 (List.mem_cons_of_mem _ zw5_165) rfl, fun _ h => absurd h List.not_mem_nil⟩⟩,
    fun _ h => absurd h List.not_mem_nil,
    fun _ h => absurd h List.not_mem_nil,
    fun _ h => absurd h List.not_mem_nil,
    fun h => absurd rfl h,
    fun _ h => absurd h List.not_mem_nil,
    List.forall_mem_cons.mpr ⟨zg_callS (fun w h => List.mem_cons_of_mem _ h) zg_tb_all S hK zg_Km qm49 zw6_145 zy_yX12_in_S (by decide +kernel) ⟨rfl, rfl⟩ (by decide +kernel), fun _ h => absurd h List.not_mem_nil⟩⟩
set_option maxRecDepth 100000 in
def qR51 : Room := { frames := 1, cells := 0, slots := 0, locals := 20 }
set_option maxHeartbeats 4000000 in
set_option maxRecDepth 100000 in
theorem qm51 {l : Launch} {D : zk_D} {base : Nat} {Hb : Heap} : zk_Met l qK D base Hb (zg_K D base Hb) yX11_list (Jvm.Cond.code yX11_list prog_1_method_11_code 1 (some .int) :: zg_tb) qR51 qC51 := by
  refine zk_met (ws' := zg_tb) (P := qP51) (AT := zg_AT) (by decide +kernel) rfl rfl rfl qk51 (fun s hK => zg_wd hK) (fun p e s m args below meth c s₁ Q B hml hK => ?_) (fun p e s m args below meth c s₁ v G0 H0 B hml hK ha hp hF q hq => absurd hq List.not_mem_nil)
  have S : CallFix p m c prog_1_method_11_code 1 s args (Jvm.Cond.code yX11_list prog_1_method_11_code 1 (some .int) :: zg_tb) RX11 := ⟨B.exec, B.bytes, hml, findClass_of_methodNamed B.named, atoms_spec (ws := Jvm.Cond.code yX11_list prog_1_method_11_code 1 (some .int) :: zg_tb) B.pre⟩
  exact ⟨List.forall_mem_cons.mpr ⟨zg_gp S (hK.2.1 11 _ rfl) (fun w h => (List.mem_cons_of_mem _ (zc11 w h))) rfl zt11_14 (List.mem_cons_of_mem _ zw2_67) rfl, fun _ h => absurd h List.not_mem_nil⟩,
    fun _ h => absurd h List.not_mem_nil,
    fun _ h => absurd h List.not_mem_nil,
    fun _ h => absurd h List.not_mem_nil,
    fun h => absurd rfl h,
    fun _ h => absurd h List.not_mem_nil,
    fun _ h => absurd h List.not_mem_nil⟩
set_option maxRecDepth 100000 in
def qR52 : Room := { frames := 1, cells := 0, slots := 0, locals := 20 }
set_option maxHeartbeats 4000000 in
set_option maxRecDepth 100000 in
theorem qm52 {l : Launch} {D : zk_D} {base : Nat} {Hb : Heap} : zk_Met l qK D base Hb (zg_K D base Hb) yX12_list (Jvm.Cond.code yX12_list prog_14_method_76_code 1 (some .int) :: zg_tb) qR52 qC52 := by
  refine zk_met (ws' := zg_tb) (P := qP52) (AT := zg_AT) (by decide +kernel) rfl rfl rfl qk52 (fun s hK => zg_wd hK) (fun p e s m args below meth c s₁ Q B hml hK => ?_) (fun p e s m args below meth c s₁ v G0 H0 B hml hK ha hp hF q hq => absurd hq List.not_mem_nil)
  have S : CallFix p m c prog_14_method_76_code 1 s args (Jvm.Cond.code yX12_list prog_14_method_76_code 1 (some .int) :: zg_tb) RX12 := ⟨B.exec, B.bytes, hml, findClass_of_methodNamed B.named, atoms_spec (ws := Jvm.Cond.code yX12_list prog_14_method_76_code 1 (some .int) :: zg_tb) B.pre⟩
  exact ⟨List.forall_mem_cons.mpr ⟨zg_gp S (hK.2.1 12 _ rfl) (fun w h => (List.mem_cons_of_mem _ (zc12 w h))) rfl zt12_57 (List.mem_cons_of_mem _ zw5_216) rfl, fun _ h => absurd h List.not_mem_nil⟩,
    fun _ h => absurd h List.not_mem_nil,
    fun _ h => absurd h List.not_mem_nil,
    fun _ h => absurd h List.not_mem_nil,
    fun h => absurd rfl h,
    fun _ h => absurd h List.not_mem_nil,
    fun _ h => absurd h List.not_mem_nil⟩
set_option maxRecDepth 100000 in
def qR53 : Room := { frames := 2, cells := 0, slots := 0, locals := 41 }
set_option maxHeartbeats 4000000 in
set_option maxRecDepth 100000 in
theorem qm53 {l : Launch} {D : zk_D} {base : Nat} {Hb : Heap} : zk_Met l qK D base Hb (zg_K D base Hb) yX11_off (Jvm.Cond.code yX11_off prog_1_method_12_code 3 (some .boolean) :: zg_tb) qR53 qC53 := by
  refine zk_met (ws' := zg_tb) (P := qP53) (AT := zg_AT) (by decide +kernel) rfl rfl rfl qk53 (fun s hK => zg_wd hK) (fun p e s m args below meth c s₁ Q B hml hK => ?_) (fun p e s m args below meth c s₁ v G0 H0 B hml hK ha hp hF q hq => absurd hq List.not_mem_nil)
  have S : CallFix p m c prog_1_method_12_code 3 s args (Jvm.Cond.code yX11_off prog_1_method_12_code 3 (some .boolean) :: zg_tb) RX11 := ⟨B.exec, B.bytes, hml, findClass_of_methodNamed B.named, atoms_spec (ws := Jvm.Cond.code yX11_off prog_1_method_12_code 3 (some .boolean) :: zg_tb) B.pre⟩
  exact ⟨fun _ h => absurd h List.not_mem_nil,
    fun _ h => absurd h List.not_mem_nil,
    fun _ h => absurd h List.not_mem_nil,
    fun _ h => absurd h List.not_mem_nil,
    fun h => absurd rfl h,
    fun _ h => absurd h List.not_mem_nil,
    List.forall_mem_cons.mpr ⟨zg_callV (fun w h => List.mem_cons_of_mem _ h) zg_tb_all S hK zg_Km qm43 zw3_73 zy_yX11_hasList_V (ci := 11) (by decide +kernel) (hK.2.1 11 _ rfl).2.1 ⟨rfl, rfl⟩ (by decide +kernel), fun _ h => absurd h List.not_mem_nil⟩⟩
set_option maxRecDepth 100000 in
def qR54 : Room := { frames := 1, cells := 0, slots := 0, locals := 20 }
set_option maxHeartbeats 4000000 in
set_option maxRecDepth 100000 in
theorem qm54 {l : Launch} {D : zk_D} {base : Nat} {Hb : Heap} : zk_Met l qK D base Hb (zg_K D base Hb) yX12_in (Jvm.Cond.code yX12_in prog_14_method_1_code 3 (some .boolean) :: zg_tb) qR54 qC54 := by
  refine zk_met (ws' := zg_tb) (P := qP54) (AT := zg_AT) (by decide +kernel) rfl rfl rfl qk54 (fun s hK => zg_wd hK) (fun p e s m args below meth c s₁ Q B hml hK => ?_) (fun p e s m args below meth c s₁ v G0 H0 B hml hK ha hp hF q hq => absurd hq List.not_mem_nil)
  have S : CallFix p m c prog_14_method_1_code 3 s args (Jvm.Cond.code yX12_in prog_14_method_1_code 3 (some .boolean) :: zg_tb) RX12 := ⟨B.exec, B.bytes, hml, findClass_of_methodNamed B.named, atoms_spec (ws := Jvm.Cond.code yX12_in prog_14_method_1_code 3 (some .boolean) :: zg_tb) B.pre⟩
  exact ⟨fun _ h => absurd h List.not_mem_nil,
    fun _ h => absurd h List.not_mem_nil,
    fun _ h => absurd h List.not_mem_nil,
    fun _ h => absurd h List.not_mem_nil,
    fun h => absurd rfl h,
    fun _ h => absurd h List.not_mem_nil,
    fun _ h => absurd h List.not_mem_nil⟩
set_option maxRecDepth 100000 in
def qR55 : Room := { frames := 2, cells := 0, slots := 0, locals := 42 }
set_option maxHeartbeats 4000000 in
set_option maxRecDepth 100000 in
theorem qm55 {l : Launch} {D : zk_D} {base : Nat} {Hb : Heap} : zk_Met l qK D base Hb (zg_K D base Hb) yX12_isList (Jvm.Cond.code yX12_isList prog_14_method_77_code 2 (some .boolean) :: zg_tb) qR55 qC55 := by
  refine zk_met (ws' := zg_tb) (P := qP55) (AT := zg_AT) (by decide +kernel) rfl rfl rfl qk55 (fun s hK => zg_wd hK) (fun p e s m args below meth c s₁ Q B hml hK => ?_) (fun p e s m args below meth c s₁ v G0 H0 B hml hK ha hp hF q hq => absurd hq List.not_mem_nil)
  have S : CallFix p m c prog_14_method_77_code 2 s args (Jvm.Cond.code yX12_isList prog_14_method_77_code 2 (some .boolean) :: zg_tb) RX12 := ⟨B.exec, B.bytes, hml, findClass_of_methodNamed B.named, atoms_spec (ws := Jvm.Cond.code yX12_isList prog_14_method_77_code 2 (some .boolean) :: zg_tb) B.pre⟩
  exact ⟨List.forall_mem_cons.mpr ⟨zg_gp S (hK.2.1 12 _ rfl) (fun w h => (List.mem_cons_of_mem _ (zc12 w h))) rfl zt12_57 (List.mem_cons_of_mem _ zw5_216) rfl, fun _ h => absurd h List.not_mem_nil⟩,
    fun _ h => absurd h List.not_mem_nil,
    fun _ h => absurd h List.not_mem_nil,
    fun _ h => absurd h List.not_mem_nil,
    fun h => absurd rfl h,
    fun _ h => absurd h List.not_mem_nil,
    List.forall_mem_cons.mpr ⟨zg_callS (fun w h => List.mem_cons_of_mem _ h) zg_tb_all S hK zg_Km qm54 zw6_145 zy_yX12_in_S (by decide +kernel) ⟨rfl, rfl⟩ (by decide +kernel), fun _ h => absurd h List.not_mem_nil⟩⟩
set_option maxRecDepth 100000 in
def qR56 : Room := { frames := 3, cells := 0, slots := 0, locals := 63 }
set_option maxHeartbeats 4000000 in
set_option maxRecDepth 100000 in
theorem qm56 {l : Launch} {D : zk_D} {base : Nat} {Hb : Heap} : zk_Met l qK D base Hb (zg_K D base Hb) yX12_off (Jvm.Cond.code yX12_off prog_14_method_78_code 3 (some .boolean) :: zg_tb) qR56 qC56 := by
  refine zk_met (ws' := zg_tb) (P := qP56) (AT := zg_AT) (by decide +kernel) rfl rfl rfl qk56 (fun s hK => zg_wd hK) (fun p e s m args below meth c s₁ Q B hml hK => ?_) (fun p e s m args below meth c s₁ v G0 H0 B hml hK ha hp hF q hq => absurd hq List.not_mem_nil)
  have S : CallFix p m c prog_14_method_78_code 3 s args (Jvm.Cond.code yX12_off prog_14_method_78_code 3 (some .boolean) :: zg_tb) RX12 := ⟨B.exec, B.bytes, hml, findClass_of_methodNamed B.named, atoms_spec (ws := Jvm.Cond.code yX12_off prog_14_method_78_code 3 (some .boolean) :: zg_tb) B.pre⟩
  exact ⟨fun _ h => absurd h List.not_mem_nil,
    fun _ h => absurd h List.not_mem_nil,
    fun _ h => absurd h List.not_mem_nil,
    fun _ h => absurd h List.not_mem_nil,
    fun h => absurd rfl h,
    fun _ h => absurd h List.not_mem_nil,
    List.forall_mem_cons.mpr ⟨zg_callV (fun w h => List.mem_cons_of_mem _ h) zg_tb_all S hK zg_Km qm55 zw7_172 zy_yX12_isList_V (ci := 12) (by decide +kernel) (hK.2.1 12 _ rfl).2.1 ⟨rfl, rfl⟩ (by decide +kernel), fun _ h => absurd h List.not_mem_nil⟩⟩
set_option maxRecDepth 100000 in
def qR57 : Room := { frames := 2, cells := 0, slots := 0, locals := 41 }
set_option maxHeartbeats 4000000 in
set_option maxRecDepth 100000 in
theorem qm57 {l : Launch} {D : zk_D} {base : Nat} {Hb : Heap} : zk_Met l qK D base Hb (zg_K D base Hb) yX11_bars (Jvm.Cond.code yX11_bars prog_1_method_13_code 5 (some .int) :: zg_tb) qR57 qC57 := by
  refine zk_met (ws' := zg_tb) (P := qP57) (AT := zg_AT) (by decide +kernel) rfl rfl rfl qk57 (fun s hK => zg_wd hK) (fun p e s m args below meth c s₁ Q B hml hK => ?_) (fun p e s m args below meth c s₁ v G0 H0 B hml hK ha hp hF q hq => absurd hq List.not_mem_nil)
  have S : CallFix p m c prog_1_method_13_code 5 s args (Jvm.Cond.code yX11_bars prog_1_method_13_code 5 (some .int) :: zg_tb) RX11 := ⟨B.exec, B.bytes, hml, findClass_of_methodNamed B.named, atoms_spec (ws := Jvm.Cond.code yX11_bars prog_1_method_13_code 5 (some .int) :: zg_tb) B.pre⟩
  exact ⟨fun _ h => absurd h List.not_mem_nil,
    fun _ h => absurd h List.not_mem_nil,
    fun _ h => absurd h List.not_mem_nil,
    fun _ h => absurd h List.not_mem_nil,
    fun h => absurd rfl h,
    fun _ h => absurd h List.not_mem_nil,
    List.forall_mem_cons.mpr ⟨zg_callV (fun w h => List.mem_cons_of_mem _ h) zg_tb_all S hK zg_Km qm43 zw3_73 zy_yX11_hasList_V (ci := 11) (by decide +kernel) (hK.2.1 11 _ rfl).2.1 ⟨rfl, rfl⟩ (by decide +kernel), fun _ h => absurd h List.not_mem_nil⟩⟩
set_option maxRecDepth 100000 in
def qR58 : Room := { frames := 3, cells := 0, slots := 0, locals := 63 }
set_option maxHeartbeats 4000000 in
set_option maxRecDepth 100000 in
theorem qm58 {l : Launch} {D : zk_D} {base : Nat} {Hb : Heap} : zk_Met l qK D base Hb (zg_K D base Hb) yX12_bars (Jvm.Cond.code yX12_bars prog_14_method_80_code 5 (some .int) :: zg_tb) qR58 qC58 := by
  refine zk_met (ws' := zg_tb) (P := qP58) (AT := zg_AT) (by decide +kernel) rfl rfl rfl qk58 (fun s hK => zg_wd hK) (fun p e s m args below meth c s₁ Q B hml hK => ?_) (fun p e s m args below meth c s₁ v G0 H0 B hml hK ha hp hF q hq => absurd hq List.not_mem_nil)
  have S : CallFix p m c prog_14_method_80_code 5 s args (Jvm.Cond.code yX12_bars prog_14_method_80_code 5 (some .int) :: zg_tb) RX12 := ⟨B.exec, B.bytes, hml, findClass_of_methodNamed B.named, atoms_spec (ws := Jvm.Cond.code yX12_bars prog_14_method_80_code 5 (some .int) :: zg_tb) B.pre⟩
  exact ⟨fun _ h => absurd h List.not_mem_nil,
    fun _ h => absurd h List.not_mem_nil,
    fun _ h => absurd h List.not_mem_nil,
    fun _ h => absurd h List.not_mem_nil,
    fun h => absurd rfl h,
    fun _ h => absurd h List.not_mem_nil,
    List.forall_mem_cons.mpr ⟨zg_callV (fun w h => List.mem_cons_of_mem _ h) zg_tb_all S hK zg_Km qm55 zw7_172 zy_yX12_isList_V (ci := 12) (by decide +kernel) (hK.2.1 12 _ rfl).2.1 ⟨rfl, rfl⟩ (by decide +kernel), fun _ h => absurd h List.not_mem_nil⟩⟩
set_option maxRecDepth 100000 in
def qR59 : Room := { frames := 2, cells := 0, slots := 0, locals := 41 }
set_option maxHeartbeats 4000000 in
set_option maxRecDepth 100000 in
theorem qm59 {l : Launch} {D : zk_D} {base : Nat} {Hb : Heap} : zk_Met l qK D base Hb (zg_K D base Hb) yX11_harm (Jvm.Cond.code yX11_harm prog_1_method_14_code 4 (some .int) :: zg_tb) qR59 qC59 := by
  refine zk_met (ws' := zg_tb) (P := qP59) (AT := zg_AT) (by decide +kernel) rfl rfl rfl qk59 (fun s hK => zg_wd hK) (fun p e s m args below meth c s₁ Q B hml hK => ?_) (fun p e s m args below meth c s₁ v G0 H0 B hml hK ha hp hF q hq => absurd hq List.not_mem_nil)
  have S : CallFix p m c prog_1_method_14_code 4 s args (Jvm.Cond.code yX11_harm prog_1_method_14_code 4 (some .int) :: zg_tb) RX11 := ⟨B.exec, B.bytes, hml, findClass_of_methodNamed B.named, atoms_spec (ws := Jvm.Cond.code yX11_harm prog_1_method_14_code 4 (some .int) :: zg_tb) B.pre⟩
  exact ⟨fun _ h => absurd h List.not_mem_nil,
    fun _ h => absurd h List.not_mem_nil,
    fun _ h => absurd h List.not_mem_nil,
    fun _ h => absurd h List.not_mem_nil,
    fun h => absurd rfl h,
    fun _ h => absurd h List.not_mem_nil,
    List.forall_mem_cons.mpr ⟨zg_callV (fun w h => List.mem_cons_of_mem _ h) zg_tb_all S hK zg_Km qm43 zw3_73 zy_yX11_hasList_V (ci := 11) (by decide +kernel) (hK.2.1 11 _ rfl).2.1 ⟨rfl, rfl⟩ (by decide +kernel), fun _ h => absurd h List.not_mem_nil⟩⟩
set_option maxRecDepth 100000 in
def qR60 : Room := { frames := 3, cells := 0, slots := 0, locals := 63 }
set_option maxHeartbeats 4000000 in
set_option maxRecDepth 100000 in
theorem qm60 {l : Launch} {D : zk_D} {base : Nat} {Hb : Heap} : zk_Met l qK D base Hb (zg_K D base Hb) yX12_harm (Jvm.Cond.code yX12_harm prog_14_method_81_code 6 (some .int) :: zg_tb) qR60 qC60 := by
  refine zk_met (ws' := zg_tb) (P := qP60) (AT := zg_AT) (by decide +kernel) rfl rfl rfl qk60 (fun s hK => zg_wd hK) (fun p e s m args below meth c s₁ Q B hml hK => ?_) (fun p e s m args below meth c s₁ v G0 H0 B hml hK ha hp hF q hq => absurd hq List.not_mem_nil)
  have S : CallFix p m c prog_14_method_81_code 6 s args (Jvm.Cond.code yX12_harm prog_14_method_81_code 6 (some .int) :: zg_tb) RX12 := ⟨B.exec, B.bytes, hml, findClass_of_methodNamed B.named, atoms_spec (ws := Jvm.Cond.code yX12_harm prog_14_method_81_code 6 (some .int) :: zg_tb) B.pre⟩
  exact ⟨fun _ h => absurd h List.not_mem_nil,
    fun _ h => absurd h List.not_mem_nil,
    fun _ h => absurd h List.not_mem_nil,
    fun _ h => absurd h List.not_mem_nil,
    fun h => absurd rfl h,
    fun _ h => absurd h List.not_mem_nil,
    List.forall_mem_cons.mpr ⟨zg_callV (fun w h => List.mem_cons_of_mem _ h) zg_tb_all S hK zg_Km qm55 zw7_172 zy_yX12_isList_V (ci := 12) (by decide +kernel) (hK.2.1 12 _ rfl).2.1 ⟨rfl, rfl⟩ (by decide +kernel), fun _ h => absurd h List.not_mem_nil⟩⟩
set_option maxRecDepth 100000 in
def qR61 : Room := { frames := 1, cells := 0, slots := 0, locals := 20 }
set_option maxHeartbeats 4000000 in
set_option maxRecDepth 100000 in
theorem qm61 {l : Launch} {D : zk_D} {base : Nat} {Hb : Heap} : zk_Met l qK D base Hb (zg_K D base Hb) yX4_hasName (Jvm.Cond.code yX4_hasName prog_6_method_3_code 2 (some .boolean) :: zg_tb) qR61 qC61 := by
  refine zk_met (ws' := zg_tb) (P := qP61) (AT := zg_AT) (by decide +kernel) rfl rfl rfl qk61 (fun s hK => zg_wd hK) (fun p e s m args below meth c s₁ Q B hml hK => ?_) (fun p e s m args below meth c s₁ v G0 H0 B hml hK ha hp hF q hq => absurd hq List.not_mem_nil)
  have S : CallFix p m c prog_6_method_3_code 2 s args (Jvm.Cond.code yX4_hasName prog_6_method_3_code 2 (some .boolean) :: zg_tb) RX4 := ⟨B.exec, B.bytes, hml, findClass_of_methodNamed B.named, atoms_spec (ws := Jvm.Cond.code yX4_hasName prog_6_method_3_code 2 (some .boolean) :: zg_tb) B.pre⟩
  exact ⟨List.forall_mem_cons.mpr ⟨zg_gp S (hK.2.1 4 _ rfl) (fun w h => (List.mem_cons_of_mem _ (zc4 w h))) rfl zt4_7 (List.mem_cons_of_mem _ zw1_50) rfl, fun _ h => absurd h List.not_mem_nil⟩,
    fun _ h => absurd h List.not_mem_nil,
    fun _ h => absurd h List.not_mem_nil,
    fun _ h => absurd h List.not_mem_nil,
    fun h => absurd rfl h,
    fun _ h => absurd h List.not_mem_nil,
    fun _ h => absurd h List.not_mem_nil⟩
set_option maxRecDepth 100000 in
def qR62 : Room := { frames := 2, cells := 0, slots := 0, locals := 41 }
set_option maxHeartbeats 4000000 in
set_option maxRecDepth 100000 in
theorem qm62 {l : Launch} {D : zk_D} {base : Nat} {Hb : Heap} : zk_Met l qK D base Hb (zg_K D base Hb) yX11_write (Jvm.Cond.code yX11_write prog_1_method_15_code 6 (some .int) :: zg_tb) qR62 qC62 := by
  refine zk_met (ws' := zg_tb) (P := qP62) (AT := zg_AT) (by decide +kernel) rfl rfl rfl qk62 (fun s hK => zg_wd hK) (fun p e s m args below meth c s₁ Q B hml hK => ?_) (fun p e s m args below meth c s₁ v G0 H0 B hml hK ha hp hF q hq => absurd hq List.not_mem_nil)
  have S : CallFix p m c prog_1_method_15_code 6 s args (Jvm.Cond.code yX11_write prog_1_method_15_code 6 (some .int) :: zg_tb) RX11 := ⟨B.exec, B.bytes, hml, findClass_of_methodNamed B.named, atoms_spec (ws := Jvm.Cond.code yX11_write prog_1_method_15_code 6 (some .int) :: zg_tb) B.pre⟩
  exact ⟨List.forall_mem_cons.mpr ⟨zg_gp4 S (hK.2.1 11 _ rfl) (fun w h => (List.mem_cons_of_mem _ (zc11 w h))) rfl zt11_0 (List.mem_cons_of_mem _ zw2_53), fun _ h => absurd h List.not_mem_nil⟩,
    fun _ h => absurd h List.not_mem_nil,
    fun _ h => absurd h List.not_mem_nil,
    fun _ h => absurd h List.not_mem_nil,
    fun h => absurd rfl h,
    fun _ h => absurd h List.not_mem_nil,
    List.forall_mem_cons.mpr ⟨zg_callV (fun w h => List.mem_cons_of_mem _ h) zg_tb_all S hK zg_Km qm61 zw3_204 zy_yX4_hasName_V (ci := 4) (by decide +kernel) (hK.2.1 4 _ rfl).2.1 ⟨rfl, rfl⟩ (by decide +kernel), fun _ h => absurd h List.not_mem_nil⟩⟩
set_option maxRecDepth 100000 in
def qR63 : Room := { frames := 1, cells := 0, slots := 0, locals := 20 }
set_option maxHeartbeats 4000000 in
set_option maxRecDepth 100000 in
theorem qm63 {l : Launch} {D : zk_D} {base : Nat} {Hb : Heap} : zk_Met l qK D base Hb (zg_K D base Hb) yX12_in (Jvm.Cond.code yX12_in prog_14_method_1_code 3 (some .boolean) :: zg_tb) qR63 qC63 := by
  refine zk_met (ws' := zg_tb) (P := qP63) (AT := zg_AT) (by decide +kernel) rfl rfl rfl qk63 (fun s hK => zg_wd hK) (fun p e s m args below meth c s₁ Q B hml hK => ?_) (fun p e s m args below meth c s₁ v G0 H0 B hml hK ha hp hF q hq => absurd hq List.not_mem_nil)
  have S : CallFix p m c prog_14_method_1_code 3 s args (Jvm.Cond.code yX12_in prog_14_method_1_code 3 (some .boolean) :: zg_tb) RX12 := ⟨B.exec, B.bytes, hml, findClass_of_methodNamed B.named, atoms_spec (ws := Jvm.Cond.code yX12_in prog_14_method_1_code 3 (some .boolean) :: zg_tb) B.pre⟩
  exact ⟨fun _ h => absurd h List.not_mem_nil,
    fun _ h => absurd h List.not_mem_nil,
    fun _ h => absurd h List.not_mem_nil,
    fun _ h => absurd h List.not_mem_nil,
    fun h => absurd rfl h,
    fun _ h => absurd h List.not_mem_nil,
    fun _ h => absurd h List.not_mem_nil⟩
set_option maxRecDepth 100000 in
def qR64 : Room := { frames := 2, cells := 0, slots := 0, locals := 42 }
set_option maxHeartbeats 4000000 in
set_option maxRecDepth 100000 in
theorem qm64 {l : Launch} {D : zk_D} {base : Nat} {Hb : Heap} : zk_Met l qK D base Hb (zg_K D base Hb) yX12_isName (Jvm.Cond.code yX12_isName prog_14_method_5_code 2 (some .boolean) :: zg_tb) qR64 qC64 := by
  refine zk_met (ws' := zg_tb) (P := qP64) (AT := zg_AT) (by decide +kernel) rfl rfl rfl qk64 (fun s hK => zg_wd hK) (fun p e s m args below meth c s₁ Q B hml hK => ?_) (fun p e s m args below meth c s₁ v G0 H0 B hml hK ha hp hF q hq => absurd hq List.not_mem_nil)
  have S : CallFix p m c prog_14_method_5_code 2 s args (Jvm.Cond.code yX12_isName prog_14_method_5_code 2 (some .boolean) :: zg_tb) RX12 := ⟨B.exec, B.bytes, hml, findClass_of_methodNamed B.named, atoms_spec (ws := Jvm.Cond.code yX12_isName prog_14_method_5_code 2 (some .boolean) :: zg_tb) B.pre⟩
  exact ⟨List.forall_mem_cons.mpr ⟨zg_gp S (hK.2.1 12 _ rfl) (fun w h => (List.mem_cons_of_mem _ (zc12 w h))) rfl zt12_7 (List.mem_cons_of_mem _ zw5_166) rfl, fun _ h => absurd h List.not_mem_nil⟩,
    fun _ h => absurd h List.not_mem_nil,
    fun _ h => absurd h List.not_mem_nil,
    fun _ h => absurd h List.not_mem_nil,
    fun h => absurd rfl h,
    fun _ h => absurd h List.not_mem_nil,
    List.forall_mem_cons.mpr ⟨zg_callS (fun w h => List.mem_cons_of_mem _ h) zg_tb_all S hK zg_Km qm63 zw6_145 zy_yX12_in_S (by decide +kernel) ⟨rfl, rfl⟩ (by decide +kernel), fun _ h => absurd h List.not_mem_nil⟩⟩
set_option maxRecDepth 100000 in
def qR65 : Room := { frames := 3, cells := 0, slots := 0, locals := 63 }
set_option maxHeartbeats 4000000 in
set_option maxRecDepth 100000 in
theorem qm65 {l : Launch} {D : zk_D} {base : Nat} {Hb : Heap} : zk_Met l qK D base Hb (zg_K D base Hb) yX12_write (Jvm.Cond.code yX12_write prog_14_method_55_code 6 (some .int) :: zg_tb) qR65 qC65 := by
  refine zk_met (ws' := zg_tb) (P := qP65) (AT := zg_AT) (by decide +kernel) rfl rfl rfl qk65 (fun s hK => zg_wd hK) (fun p e s m args below meth c s₁ Q B hml hK => ?_) (fun p e s m args below meth c s₁ v G0 H0 B hml hK ha hp hF q hq => absurd hq List.not_mem_nil)
  have S : CallFix p m c prog_14_method_55_code 6 s args (Jvm.Cond.code yX12_write prog_14_method_55_code 6 (some .int) :: zg_tb) RX12 := ⟨B.exec, B.bytes, hml, findClass_of_methodNamed B.named, atoms_spec (ws := Jvm.Cond.code yX12_write prog_14_method_55_code 6 (some .int) :: zg_tb) B.pre⟩
  exact ⟨fun _ h => absurd h List.not_mem_nil,
    fun _ h => absurd h List.not_mem_nil,
    fun _ h => absurd h List.not_mem_nil,
    fun _ h => absurd h List.not_mem_nil,
    fun h => absurd rfl h,
    fun _ h => absurd h List.not_mem_nil,
    List.forall_mem_cons.mpr ⟨zg_callV (fun w h => List.mem_cons_of_mem _ h) zg_tb_all S hK zg_Km qm64 zw6_160 zy_yX12_isName_V (ci := 12) (by decide +kernel) (hK.2.1 12 _ rfl).2.1 ⟨rfl, rfl⟩ (by decide +kernel), fun _ h => absurd h List.not_mem_nil⟩⟩
set_option maxRecDepth 100000 in
def qR66 : Room := { frames := 1, cells := 0, slots := 0, locals := 20 }
set_option maxHeartbeats 4000000 in
set_option maxRecDepth 100000 in
theorem qm66 {l : Launch} {D : zk_D} {base : Nat} {Hb : Heap} : zk_Met l qK D base Hb (zg_K D base Hb) yX11_letterAt (Jvm.Cond.code yX11_letterAt prog_1_method_42_code 2 (some (.object "UnaskedLetters$Letter")) :: zg_tb) qR66 qC66 := by
  refine zk_met (ws' := zg_tb) (P := qP66) (AT := zg_AT) (by decide +kernel) rfl rfl rfl qk66 (fun s hK => zg_wd hK) (fun p e s m args below meth c s₁ Q B hml hK => ?_) (fun p e s m args below meth c s₁ v G0 H0 B hml hK ha hp hF q hq => absurd hq List.not_mem_nil)
  have S : CallFix p m c prog_1_method_42_code 2 s args (Jvm.Cond.code yX11_letterAt prog_1_method_42_code 2 (some (.object "UnaskedLetters$Letter")) :: zg_tb) RX11 := ⟨B.exec, B.bytes, hml, findClass_of_methodNamed B.named, atoms_spec (ws := Jvm.Cond.code yX11_letterAt prog_1_method_42_code 2 (some (.object "UnaskedLetters$Letter")) :: zg_tb) B.pre⟩
  exact ⟨List.forall_mem_cons.mpr ⟨zg_gp S (hK.2.1 11 _ rfl) (fun w h => (List.mem_cons_of_mem _ (zc11 w h))) rfl zt11_15 (List.mem_cons_of_mem _ zw2_68) rfl, fun _ h => absurd h List.not_mem_nil⟩,
    fun _ h => absurd h List.not_mem_nil,
    fun _ h => absurd h List.not_mem_nil,
    fun _ h => absurd h List.not_mem_nil,
    fun h => absurd rfl h,
    fun _ h => absurd h List.not_mem_nil,
    fun _ h => absurd h List.not_mem_nil⟩
set_option maxRecDepth 100000 in
def qR67 : Room := { frames := 2, cells := 0, slots := 0, locals := 41 }
set_option maxHeartbeats 4000000 in
set_option maxRecDepth 100000 in
theorem qm67 {l : Launch} {D : zk_D} {base : Nat} {Hb : Heap} : zk_Met l qK D base Hb (zg_K D base Hb) yX11_words (Jvm.Cond.code yX11_words prog_1_method_16_code 4 (some .int) :: zg_tb) qR67 qC67 := by
  refine zk_met (ws' := zg_tb) (P := qP67) (AT := zg_AT) (by decide +kernel) rfl rfl rfl qk67 (fun s hK => zg_wd hK) (fun p e s m args below meth c s₁ Q B hml hK => ?_) (fun p e s m args below meth c s₁ v G0 H0 B hml hK ha hp hF q hq => absurd hq List.not_mem_nil)
  have S : CallFix p m c prog_1_method_16_code 4 s args (Jvm.Cond.code yX11_words prog_1_method_16_code 4 (some .int) :: zg_tb) RX11 := ⟨B.exec, B.bytes, hml, findClass_of_methodNamed B.named, atoms_spec (ws := Jvm.Cond.code yX11_words prog_1_method_16_code 4 (some .int) :: zg_tb) B.pre⟩
  exact ⟨fun _ h => absurd h List.not_mem_nil,
    fun _ h => absurd h List.not_mem_nil,
    fun _ h => absurd h List.not_mem_nil,
    fun _ h => absurd h List.not_mem_nil,
    fun h => absurd rfl h,
    fun _ h => absurd h List.not_mem_nil,
    List.forall_mem_cons.mpr ⟨zg_callV (fun w h => List.mem_cons_of_mem _ h) zg_tb_all S hK zg_Km qm66 zw4_142 zy_yX11_letterAt_V (ci := 11) (by decide +kernel) (hK.2.1 11 _ rfl).2.1 ⟨rfl, rfl⟩ (by decide +kernel), fun _ h => absurd h List.not_mem_nil⟩⟩
set_option maxRecDepth 100000 in
def qR68 : Room := { frames := 1, cells := 0, slots := 0, locals := 20 }
set_option maxHeartbeats 4000000 in
set_option maxRecDepth 100000 in
theorem qm68 {l : Launch} {D : zk_D} {base : Nat} {Hb : Heap} : zk_Met l qK D base Hb (zg_K D base Hb) yX12_in (Jvm.Cond.code yX12_in prog_14_method_1_code 3 (some .boolean) :: zg_tb) qR68 qC68 := by
  refine zk_met (ws' := zg_tb) (P := qP68) (AT := zg_AT) (by decide +kernel) rfl rfl rfl qk68 (fun s hK => zg_wd hK) (fun p e s m args below meth c s₁ Q B hml hK => ?_) (fun p e s m args below meth c s₁ v G0 H0 B hml hK ha hp hF q hq => absurd hq List.not_mem_nil)
  have S : CallFix p m c prog_14_method_1_code 3 s args (Jvm.Cond.code yX12_in prog_14_method_1_code 3 (some .boolean) :: zg_tb) RX12 := ⟨B.exec, B.bytes, hml, findClass_of_methodNamed B.named, atoms_spec (ws := Jvm.Cond.code yX12_in prog_14_method_1_code 3 (some .boolean) :: zg_tb) B.pre⟩
  exact ⟨fun _ h => absurd h List.not_mem_nil,
    fun _ h => absurd h List.not_mem_nil,
    fun _ h => absurd h List.not_mem_nil,
    fun _ h => absurd h List.not_mem_nil,
    fun h => absurd rfl h,
    fun _ h => absurd h List.not_mem_nil,
    fun _ h => absurd h List.not_mem_nil⟩
set_option maxRecDepth 100000 in
def qR69 : Room := { frames := 2, cells := 0, slots := 0, locals := 42 }
set_option maxHeartbeats 4000000 in
set_option maxRecDepth 100000 in
theorem qm69 {l : Launch} {D : zk_D} {base : Nat} {Hb : Heap} : zk_Met l qK D base Hb (zg_K D base Hb) yX12_isLetter (Jvm.Cond.code yX12_isLetter prog_14_method_52_code 2 (some .boolean) :: zg_tb) qR69 qC69 := by
  refine zk_met (ws' := zg_tb) (P := qP69) (AT := zg_AT) (by decide +kernel) rfl rfl rfl qk69 (fun s hK => zg_wd hK) (fun p e s m args below meth c s₁ Q B hml hK => ?_) (fun p e s m args below meth c s₁ v G0 H0 B hml hK ha hp hF q hq => absurd hq List.not_mem_nil)
  have S : CallFix p m c prog_14_method_52_code 2 s args (Jvm.Cond.code yX12_isLetter prog_14_method_52_code 2 (some .boolean) :: zg_tb) RX12 := ⟨B.exec, B.bytes, hml, findClass_of_methodNamed B.named, atoms_spec (ws := Jvm.Cond.code yX12_isLetter prog_14_method_52_code 2 (some .boolean) :: zg_tb) B.pre⟩
  exact ⟨List.forall_mem_cons.mpr ⟨zg_gp S (hK.2.1 12 _ rfl) (fun w h => (List.mem_cons_of_mem _ (zc12 w h))) rfl zt12_44 (List.mem_cons_of_mem _ zw5_203) rfl, fun _ h => absurd h List.not_mem_nil⟩,
    fun _ h => absurd h List.not_mem_nil,
    fun _ h => absurd h List.not_mem_nil,
    fun _ h => absurd h List.not_mem_nil,
    fun h => absurd rfl h,
    fun _ h => absurd h List.not_mem_nil,
    List.forall_mem_cons.mpr ⟨zg_callS (fun w h => List.mem_cons_of_mem _ h) zg_tb_all S hK zg_Km qm68 zw6_145 zy_yX12_in_S (by decide +kernel) ⟨rfl, rfl⟩ (by decide +kernel), fun _ h => absurd h List.not_mem_nil⟩⟩
set_option maxRecDepth 100000 in
def qR70 : Room := { frames := 3, cells := 0, slots := 0, locals := 63 }
set_option maxHeartbeats 4000000 in
set_option maxRecDepth 100000 in
theorem qm70 {l : Launch} {D : zk_D} {base : Nat} {Hb : Heap} : zk_Met l qK D base Hb (zg_K D base Hb) yX12_words (Jvm.Cond.code yX12_words prog_14_method_56_code 3 (some .int) :: zg_tb) qR70 qC70 := by
  refine zk_met (ws' := zg_tb) (P := qP70) (AT := zg_AT) (by decide +kernel) rfl rfl rfl qk70 (fun s hK => zg_wd hK) (fun p e s m args below meth c s₁ Q B hml hK => ?_) (fun p e s m args below meth c s₁ v G0 H0 B hml hK ha hp hF q hq => absurd hq List.not_mem_nil)
  have S : CallFix p m c prog_14_method_56_code 3 s args (Jvm.Cond.code yX12_words prog_14_method_56_code 3 (some .int) :: zg_tb) RX12 := ⟨B.exec, B.bytes, hml, findClass_of_methodNamed B.named, atoms_spec (ws := Jvm.Cond.code yX12_words prog_14_method_56_code 3 (some .int) :: zg_tb) B.pre⟩
  exact ⟨fun _ h => absurd h List.not_mem_nil,
    fun _ h => absurd h List.not_mem_nil,
    fun _ h => absurd h List.not_mem_nil,
    fun _ h => absurd h List.not_mem_nil,
    fun h => absurd rfl h,
    fun _ h => absurd h List.not_mem_nil,
    List.forall_mem_cons.mpr ⟨zg_callV (fun w h => List.mem_cons_of_mem _ h) zg_tb_all S hK zg_Km qm69 zw7_80 zy_yX12_isLetter_V (ci := 12) (by decide +kernel) (hK.2.1 12 _ rfl).2.1 ⟨rfl, rfl⟩ (by decide +kernel), fun _ h => absurd h List.not_mem_nil⟩⟩
set_option maxRecDepth 100000 in
def qR71 : Room := { frames := 2, cells := 0, slots := 0, locals := 41 }
set_option maxHeartbeats 4000000 in
set_option maxRecDepth 100000 in
theorem qm71 {l : Launch} {D : zk_D} {base : Nat} {Hb : Heap} : zk_Met l qK D base Hb (zg_K D base Hb) yX11_read (Jvm.Cond.code yX11_read prog_1_method_17_code 6 (some .int) :: zg_tb) qR71 qC71 := by
  refine zk_met (ws' := zg_tb) (P := qP71) (AT := zg_AT) (by decide +kernel) rfl rfl rfl qk71 (fun s hK => zg_wd hK) (fun p e s m args below meth c s₁ Q B hml hK => ?_) (fun p e s m args below meth c s₁ v G0 H0 B hml hK ha hp hF q hq => absurd hq List.not_mem_nil)
  have S : CallFix p m c prog_1_method_17_code 6 s args (Jvm.Cond.code yX11_read prog_1_method_17_code 6 (some .int) :: zg_tb) RX11 := ⟨B.exec, B.bytes, hml, findClass_of_methodNamed B.named, atoms_spec (ws := Jvm.Cond.code yX11_read prog_1_method_17_code 6 (some .int) :: zg_tb) B.pre⟩
  exact ⟨fun _ h => absurd h List.not_mem_nil,
    fun _ h => absurd h List.not_mem_nil,
    fun _ h => absurd h List.not_mem_nil,
    fun _ h => absurd h List.not_mem_nil,
    fun h => absurd rfl h,
    fun _ h => absurd h List.not_mem_nil,
    List.forall_mem_cons.mpr ⟨zg_callV (fun w h => List.mem_cons_of_mem _ h) zg_tb_all S hK zg_Km qm66 zw4_142 zy_yX11_letterAt_V (ci := 11) (by decide +kernel) (hK.2.1 11 _ rfl).2.1 ⟨rfl, rfl⟩ (by decide +kernel), fun _ h => absurd h List.not_mem_nil⟩⟩
