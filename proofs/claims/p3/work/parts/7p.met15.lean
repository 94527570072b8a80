/-! CONTRACTS MET: found by wip/an (python). -/
noncomputable section
set_option maxRecDepth 100000 in
def qR554 : Room := { frames := 1, cells := 0, slots := 0, locals := 20 }
set_option maxHeartbeats 4000000 in
set_option maxRecDepth 100000 in
theorem qo554 {p : Program} {l : Launch} {e : Env} {s : State} {m : MethodId} {args : Array Value} {below : List Frame} {meth : Method} {c : Code} {s₁ : State} {Q : State → Prop} {D : zk_D} {base : Nat} {Hb : Heap} (B : BodyLoose p l yJ6_bitCount_0f7a4 (headSpec (Jvm.Cond.code yJ6_bitCount_0f7a4 prog_17_method_49_code 1 (some .int) :: zg_tb) qR554) prog_17_method_49_code 1 (some .int) e s m args below meth c s₁) (hml : c.maxLocals = 1) (hK : zg_K D base Hb s) : zk_ok p l e (headSpec (Jvm.Cond.code yJ6_bitCount_0f7a4 prog_17_method_49_code 1 (some .int) :: zg_tb) qR554).room s m args below meth c Q qK D base Hb 1 prog_17_method_49_code qP554 qC554.2.2.2.2 := by
  have S : CallFix p m c prog_17_method_49_code 1 s args (Jvm.Cond.code yJ6_bitCount_0f7a4 prog_17_method_49_code 1 (some .int) :: zg_tb) RJ6 := ⟨B.exec, B.bytes, hml, findClass_of_methodNamed B.named, atoms_spec (ws := (Jvm.Cond.code yJ6_bitCount_0f7a4 prog_17_method_49_code 1 (some .int) :: zg_tb)) B.pre⟩
  exact ⟨fun _ h => absurd h List.not_mem_nil,
    fun _ h => absurd h List.not_mem_nil,
    fun _ h => absurd h List.not_mem_nil,
    fun _ h => absurd h List.not_mem_nil,
    fun h => absurd rfl h,
    List.forall_mem_cons.mpr ⟨zg_kokW S (List.mem_cons_of_mem _ zw5_69) (by decide +kernel) (zk_dg_ok qdo_17_49 (by decide +kernel)), List.forall_mem_cons.mpr ⟨zg_kokW S (List.mem_cons_of_mem _ zw5_70) (by decide +kernel) (zk_dg_ok qdo_17_49 (by decide +kernel)), List.forall_mem_cons.mpr ⟨zg_kokW S (List.mem_cons_of_mem _ zw5_70) (by decide +kernel) (zk_dg_ok qdo_17_49 (by decide +kernel)), List.forall_mem_cons.mpr ⟨zg_kokW S (List.mem_cons_of_mem _ zw5_71) (by decide +kernel) (zk_dg_ok qdo_17_49 (by decide +kernel)), fun _ h => absurd h List.not_mem_nil⟩⟩⟩⟩,
    fun _ h => absurd h List.not_mem_nil⟩
set_option maxRecDepth 100000 in
theorem zpn_J6 : plainName RJ6 = true := by decide +kernel
set_option maxRecDepth 100000 in
theorem qm554 {l : Launch} {D : zk_D} {base : Nat} {Hb : Heap} : zk_Met l qK D base Hb (zg_K D base Hb) yJ6_bitCount_0f7a4 (Jvm.Cond.code yJ6_bitCount_0f7a4 prog_17_method_49_code 1 (some .int) :: zg_tb) qR554 qC554 := zk_met (ws' := zg_tb) (P := qP554) (AT := zg_AT) zpn_J6 rfl rfl rfl qk554 (fun s hK => zg_wd hK) (fun p e s m args below meth c s₁ Q B hml hK => qo554 B hml hK) (fun p e s m args below meth c s₁ v G0 H0 B hml hK ha hp hF q hq => absurd hq List.not_mem_nil)
set_option maxRecDepth 100000 in
def qR555 : Room := { frames := 1, cells := 0, slots := 0, locals := 20 }
set_option maxHeartbeats 4000000 in
set_option maxRecDepth 100000 in
theorem qo555 {p : Program} {l : Launch} {e : Env} {s : State} {m : MethodId} {args : Array Value} {below : List Frame} {meth : Method} {c : Code} {s₁ : State} {Q : State → Prop} {D : zk_D} {base : Nat} {Hb : Heap} (B : BodyLoose p l yJ6_bitCount_0f7a4 (headSpec (Jvm.Cond.code yJ6_bitCount_0f7a4 prog_17_method_49_code 1 (some .int) :: zg_tb) qR555) prog_17_method_49_code 1 (some .int) e s m args below meth c s₁) (hml : c.maxLocals = 1) (hK : zg_K D base Hb s) : zk_ok p l e (headSpec (Jvm.Cond.code yJ6_bitCount_0f7a4 prog_17_method_49_code 1 (some .int) :: zg_tb) qR555).room s m args below meth c Q qK D base Hb 1 prog_17_method_49_code qP555 qC555.2.2.2.2 := by
  have S : CallFix p m c prog_17_method_49_code 1 s args (Jvm.Cond.code yJ6_bitCount_0f7a4 prog_17_method_49_code 1 (some .int) :: zg_tb) RJ6 := ⟨B.exec, B.bytes, hml, findClass_of_methodNamed B.named, atoms_spec (ws := (Jvm.Cond.code yJ6_bitCount_0f7a4 prog_17_method_49_code 1 (some .int) :: zg_tb)) B.pre⟩
  exact ⟨fun _ h => absurd h List.not_mem_nil,
    fun _ h => absurd h List.not_mem_nil,
    fun _ h => absurd h List.not_mem_nil,
    fun _ h => absurd h List.not_mem_nil,
    fun h => absurd rfl h,
    List.forall_mem_cons.mpr ⟨zg_kokW S (List.mem_cons_of_mem _ zw5_69) (by decide +kernel) (zk_dg_ok qdo_17_49 (by decide +kernel)), List.forall_mem_cons.mpr ⟨zg_kokW S (List.mem_cons_of_mem _ zw5_70) (by decide +kernel) (zk_dg_ok qdo_17_49 (by decide +kernel)), List.forall_mem_cons.mpr ⟨zg_kokW S (List.mem_cons_of_mem _ zw5_70) (by decide +kernel) (zk_dg_ok qdo_17_49 (by decide +kernel)), List.forall_mem_cons.mpr ⟨zg_kokW S (List.mem_cons_of_mem _ zw5_71) (by decide +kernel) (zk_dg_ok qdo_17_49 (by decide +kernel)), fun _ h => absurd h List.not_mem_nil⟩⟩⟩⟩,
    fun _ h => absurd h List.not_mem_nil⟩
set_option maxRecDepth 100000 in
theorem qm555 {l : Launch} {D : zk_D} {base : Nat} {Hb : Heap} : zk_Met l qK D base Hb (zg_K D base Hb) yJ6_bitCount_0f7a4 (Jvm.Cond.code yJ6_bitCount_0f7a4 prog_17_method_49_code 1 (some .int) :: zg_tb) qR555 qC555 := zk_met (ws' := zg_tb) (P := qP555) (AT := zg_AT) zpn_J6 rfl rfl rfl qk555 (fun s hK => zg_wd hK) (fun p e s m args below meth c s₁ Q B hml hK => qo555 B hml hK) (fun p e s m args below meth c s₁ v G0 H0 B hml hK ha hp hF q hq => absurd hq List.not_mem_nil)
set_option maxRecDepth 100000 in
def qR556 : Room := { frames := 2, cells := 0, slots := 0, locals := 40 }
set_option maxHeartbeats 4000000 in
set_option maxRecDepth 100000 in
theorem qo556 {p : Program} {l : Launch} {e : Env} {s : State} {m : MethodId} {args : Array Value} {below : List Frame} {meth : Method} {c : Code} {s₁ : State} {Q : State → Prop} {D : zk_D} {base : Nat} {Hb : Heap} (B : BodyLoose p l yX11_isAhead (headSpec (Jvm.Cond.code yX11_isAhead prog_1_method_45_code 5 (some .boolean) :: zg_tb) qR556) prog_1_method_45_code 5 (some .boolean) e s m args below meth c s₁) (hml : c.maxLocals = 5) (hK : zg_K D base Hb s) : zk_ok p l e (headSpec (Jvm.Cond.code yX11_isAhead prog_1_method_45_code 5 (some .boolean) :: zg_tb) qR556).room s m args below meth c Q qK D base Hb 5 prog_1_method_45_code qP556 qC556.2.2.2.2 := by
  have S : CallFix p m c prog_1_method_45_code 5 s args (Jvm.Cond.code yX11_isAhead prog_1_method_45_code 5 (some .boolean) :: zg_tb) RX11 := ⟨B.exec, B.bytes, hml, findClass_of_methodNamed B.named, atoms_spec (ws := (Jvm.Cond.code yX11_isAhead prog_1_method_45_code 5 (some .boolean) :: zg_tb)) B.pre⟩
  exact ⟨fun _ h => absurd h List.not_mem_nil,
    fun _ h => absurd h List.not_mem_nil,
    fun _ h => absurd h List.not_mem_nil,
    fun _ h => absurd h List.not_mem_nil,
    fun h => absurd rfl h,
    fun _ h => absurd h List.not_mem_nil,
    List.forall_mem_cons.mpr ⟨zg_callS (fun w h => List.mem_cons_of_mem _ h) zg_tb_all S hK zg_Km qm554 zw5_66 zy_yJ6_bitCount_0f7a4_S (by decide +kernel) ⟨rfl, rfl⟩ (zk_dg_ok qdo_1_45 (by decide +kernel)), List.forall_mem_cons.mpr ⟨zg_callS (fun w h => List.mem_cons_of_mem _ h) zg_tb_all S hK zg_Km qm555 zw5_66 zy_yJ6_bitCount_0f7a4_S (by decide +kernel) ⟨rfl, rfl⟩ (zk_dg_ok qdo_1_45 (by decide +kernel)), fun _ h => absurd h List.not_mem_nil⟩⟩⟩
set_option maxRecDepth 100000 in
theorem qm556 {l : Launch} {D : zk_D} {base : Nat} {Hb : Heap} : zk_Met l qK D base Hb (zg_K D base Hb) yX11_isAhead (Jvm.Cond.code yX11_isAhead prog_1_method_45_code 5 (some .boolean) :: zg_tb) qR556 qC556 := zk_met (ws' := zg_tb) (P := qP556) (AT := zg_AT) zpn_X11 rfl rfl rfl qk556 (fun s hK => zg_wd hK) (fun p e s m args below meth c s₁ Q B hml hK => qo556 B hml hK) (fun p e s m args below meth c s₁ v G0 H0 B hml hK ha hp hF q hq => absurd hq List.not_mem_nil)
set_option maxRecDepth 100000 in
def qR557 : Room := { frames := 3, cells := 0, slots := 0, locals := 64 }
set_option maxHeartbeats 4000000 in
set_option maxRecDepth 100000 in
theorem qo557 {p : Program} {l : Launch} {e : Env} {s : State} {m : MethodId} {args : Array Value} {below : List Frame} {meth : Method} {c : Code} {s₁ : State} {Q : State → Prop} {D : zk_D} {base : Nat} {Hb : Heap} (B : BodyLoose p l yX11_spread (headSpec (Jvm.Cond.code yX11_spread prog_1_method_31_code 4 (some .int) :: zg_tb) qR557) prog_1_method_31_code 4 (some .int) e s m args below meth c s₁) (hml : c.maxLocals = 4) (hK : zg_K D base Hb s) : zk_ok p l e (headSpec (Jvm.Cond.code yX11_spread prog_1_method_31_code 4 (some .int) :: zg_tb) qR557).room s m args below meth c Q qK D base Hb 4 prog_1_method_31_code qP557 qC557.2.2.2.2 := by
  have S : CallFix p m c prog_1_method_31_code 4 s args (Jvm.Cond.code yX11_spread prog_1_method_31_code 4 (some .int) :: zg_tb) RX11 := ⟨B.exec, B.bytes, hml, findClass_of_methodNamed B.named, atoms_spec (ws := (Jvm.Cond.code yX11_spread prog_1_method_31_code 4 (some .int) :: zg_tb)) B.pre⟩
  exact ⟨List.forall_mem_cons.mpr ⟨zg_gp4 S (hK.2.1 11 _ rfl) (fun w h => (List.mem_cons_of_mem _ (zc11 w h))) rfl zt11_0 (List.mem_cons_of_mem _ zw2_53), List.forall_mem_cons.mpr ⟨zg_gp S (hK.2.1 11 _ rfl) (fun w h => (List.mem_cons_of_mem _ (zc11 w h))) rfl zt11_15 (List.mem_cons_of_mem _ zw2_68) rfl, List.forall_mem_cons.mpr ⟨zg_gp4 S (hK.2.1 4 _ rfl) (fun w h => (List.mem_cons_of_mem _ (zc4 w h))) rfl zt4_2 (List.mem_cons_of_mem _ zw1_41), List.forall_mem_cons.mpr ⟨zg_gp4 S (hK.2.1 11 _ rfl) (fun w h => (List.mem_cons_of_mem _ (zc11 w h))) rfl zt11_7 (List.mem_cons_of_mem _ zw2_60), List.forall_mem_cons.mpr ⟨zg_gp4 S (hK.2.1 1 _ rfl) (fun w h => (List.mem_cons_of_mem _ (zc1 w h))) rfl zt1_0 (List.mem_cons_of_mem _ zw3_214), List.forall_mem_cons.mpr ⟨zg_gp4 S (hK.2.1 4 _ rfl) (fun w h => (List.mem_cons_of_mem _ (zc4 w h))) rfl zt4_5 (List.mem_cons_of_mem _ zw1_47), List.forall_mem_cons.mpr ⟨zg_gp4 S (hK.2.1 1 _ rfl) (fun w h => (List.mem_cons_of_mem _ (zc1 w h))) rfl zt1_1 (List.mem_cons_of_mem _ zw3_216), fun _ h => absurd h List.not_mem_nil⟩⟩⟩⟩⟩⟩⟩,
    fun _ h => absurd h List.not_mem_nil,
    fun _ h => absurd h List.not_mem_nil,
    fun _ h => absurd h List.not_mem_nil,
    fun h => absurd rfl h,
    fun _ h => absurd h List.not_mem_nil,
    List.forall_mem_cons.mpr ⟨zg_callV (fun w h => List.mem_cons_of_mem _ h) zg_tb_all S hK zg_Km qm16 zw2_117 zy_yX4_hasHouse_V (ci := 4) (by decide +kernel) (hK.2.1 4 _ rfl).2.1 ⟨rfl, rfl⟩ (zk_dg_ok qdo_1_31 (by decide +kernel)), List.forall_mem_cons.mpr ⟨zg_callV (fun w h => List.mem_cons_of_mem _ h) zg_tb_all S hK zg_Km qm552 zw5_55 zy_yX4_clearReached_V (ci := 4) (by decide +kernel) (hK.2.1 4 _ rfl).2.1 ⟨rfl, rfl⟩ (zk_dg_ok qdo_1_31 (by decide +kernel)), List.forall_mem_cons.mpr ⟨zg_callV (fun w h => List.mem_cons_of_mem _ h) zg_tb_all S hK zg_Km qm501 zw4_222 zy_yX11_isAsked_V (ci := 11) (by decide +kernel) (hK.2.1 11 _ rfl).2.1 ⟨rfl, rfl⟩ (zk_dg_ok qdo_1_31 (by decide +kernel)), List.forall_mem_cons.mpr ⟨zg_callV (fun w h => List.mem_cons_of_mem _ h) zg_tb_all S hK zg_Km qm553 zw5_59 zy_yX4_explains_V (ci := 4) (by decide +kernel) (hK.2.1 4 _ rfl).2.1 ⟨rfl, rfl⟩ (zk_dg_ok qdo_1_31 (by decide +kernel)), List.forall_mem_cons.mpr ⟨zg_callS (fun w h => List.mem_cons_of_mem _ h) zg_tb_all S hK zg_Km qm556 zw5_63 zy_yX11_isAhead_S (by decide +kernel) ⟨rfl, rfl⟩ (zk_dg_ok qdo_1_31 (by decide +kernel)), fun _ h => absurd h List.not_mem_nil⟩⟩⟩⟩⟩⟩
set_option maxRecDepth 100000 in
theorem qm557 {l : Launch} {D : zk_D} {base : Nat} {Hb : Heap} : zk_Met l qK D base Hb (zg_K D base Hb) yX11_spread (Jvm.Cond.code yX11_spread prog_1_method_31_code 4 (some .int) :: zg_tb) qR557 qC557 := zk_met (ws' := zg_tb) (P := qP557) (AT := zg_AT) zpn_X11 rfl rfl rfl qk557 (fun s hK => zg_wd hK) (fun p e s m args below meth c s₁ Q B hml hK => qo557 B hml hK) (fun p e s m args below meth c s₁ v G0 H0 B hml hK ha hp hF q hq => absurd hq List.not_mem_nil)
set_option maxRecDepth 100000 in
def qR558 : Room := { frames := 1, cells := 0, slots := 0, locals := 20 }
set_option maxHeartbeats 4000000 in
set_option maxRecDepth 100000 in
theorem qo558 {p : Program} {l : Launch} {e : Env} {s : State} {m : MethodId} {args : Array Value} {below : List Frame} {meth : Method} {c : Code} {s₁ : State} {Q : State → Prop} {D : zk_D} {base : Nat} {Hb : Heap} (B : BodyLoose p l yJ6_bitCount_0f7a4 (headSpec (Jvm.Cond.code yJ6_bitCount_0f7a4 prog_17_method_49_code 1 (some .int) :: zg_tb) qR558) prog_17_method_49_code 1 (some .int) e s m args below meth c s₁) (hml : c.maxLocals = 1) (hK : zg_K D base Hb s) : zk_ok p l e (headSpec (Jvm.Cond.code yJ6_bitCount_0f7a4 prog_17_method_49_code 1 (some .int) :: zg_tb) qR558).room s m args below meth c Q qK D base Hb 1 prog_17_method_49_code qP558 qC558.2.2.2.2 := by
  have S : CallFix p m c prog_17_method_49_code 1 s args (Jvm.Cond.code yJ6_bitCount_0f7a4 prog_17_method_49_code 1 (some .int) :: zg_tb) RJ6 := ⟨B.exec, B.bytes, hml, findClass_of_methodNamed B.named, atoms_spec (ws := (Jvm.Cond.code yJ6_bitCount_0f7a4 prog_17_method_49_code 1 (some .int) :: zg_tb)) B.pre⟩
  exact ⟨fun _ h => absurd h List.not_mem_nil,
    fun _ h => absurd h List.not_mem_nil,
    fun _ h => absurd h List.not_mem_nil,
    fun _ h => absurd h List.not_mem_nil,
    fun h => absurd rfl h,
    List.forall_mem_cons.mpr ⟨zg_kokW S (List.mem_cons_of_mem _ zw5_69) (by decide +kernel) (zk_dg_ok qdo_17_49 (by decide +kernel)), List.forall_mem_cons.mpr ⟨zg_kokW S (List.mem_cons_of_mem _ zw5_70) (by decide +kernel) (zk_dg_ok qdo_17_49 (by decide +kernel)), List.forall_mem_cons.mpr ⟨zg_kokW S (List.mem_cons_of_mem _ zw5_70) (by decide +kernel) (zk_dg_ok qdo_17_49 (by decide +kernel)), List.forall_mem_cons.mpr ⟨zg_kokW S (List.mem_cons_of_mem _ zw5_71) (by decide +kernel) (zk_dg_ok qdo_17_49 (by decide +kernel)), fun _ h => absurd h List.not_mem_nil⟩⟩⟩⟩,
    fun _ h => absurd h List.not_mem_nil⟩
set_option maxRecDepth 100000 in
theorem qm558 {l : Launch} {D : zk_D} {base : Nat} {Hb : Heap} : zk_Met l qK D base Hb (zg_K D base Hb) yJ6_bitCount_0f7a4 (Jvm.Cond.code yJ6_bitCount_0f7a4 prog_17_method_49_code 1 (some .int) :: zg_tb) qR558 qC558 := zk_met (ws' := zg_tb) (P := qP558) (AT := zg_AT) zpn_J6 rfl rfl rfl qk558 (fun s hK => zg_wd hK) (fun p e s m args below meth c s₁ Q B hml hK => qo558 B hml hK) (fun p e s m args below meth c s₁ v G0 H0 B hml hK ha hp hF q hq => absurd hq List.not_mem_nil)
set_option maxRecDepth 100000 in
def qR559 : Room := { frames := 1, cells := 0, slots := 0, locals := 20 }
set_option maxHeartbeats 4000000 in
set_option maxRecDepth 100000 in
theorem qo559 {p : Program} {l : Launch} {e : Env} {s : State} {m : MethodId} {args : Array Value} {below : List Frame} {meth : Method} {c : Code} {s₁ : State} {Q : State → Prop} {D : zk_D} {base : Nat} {Hb : Heap} (B : BodyLoose p l yJ6_bitCount_0f7a4 (headSpec (Jvm.Cond.code yJ6_bitCount_0f7a4 prog_17_method_49_code 1 (some .int) :: zg_tb) qR559) prog_17_method_49_code 1 (some .int) e s m args below meth c s₁) (hml : c.maxLocals = 1) (hK : zg_K D base Hb s) : zk_ok p l e (headSpec (Jvm.Cond.code yJ6_bitCount_0f7a4 prog_17_method_49_code 1 (some .int) :: zg_tb) qR559).room s m args below meth c Q qK D base Hb 1 prog_17_method_49_code qP559 qC559.2.2.2.2 := by
  have S : CallFix p m c prog_17_method_49_code 1 s args (Jvm.Cond.code yJ6_bitCount_0f7a4 prog_17_method_49_code 1 (some .int) :: zg_tb) RJ6 := ⟨B.exec, B.bytes, hml, findClass_of_methodNamed B.named, atoms_spec (ws := (Jvm.Cond.code yJ6_bitCount_0f7a4 prog_17_method_49_code 1 (some .int) :: zg_tb)) B.pre⟩
  exact ⟨fun _ h => absurd h List.not_mem_nil,
    fun _ h => absurd h List.not_mem_nil,
    fun _ h => absurd h List.not_mem_nil,
    fun _ h => absurd h List.not_mem_nil,
    fun h => absurd rfl h,
    List.forall_mem_cons.mpr ⟨zg_kokW S (List.mem_cons_of_mem _ zw5_69) (by decide +kernel) (zk_dg_ok qdo_17_49 (by decide +kernel)), List.forall_mem_cons.mpr ⟨zg_kokW S (List.mem_cons_of_mem _ zw5_70) (by decide +kernel) (zk_dg_ok qdo_17_49 (by decide +kernel)), List.forall_mem_cons.mpr ⟨zg_kokW S (List.mem_cons_of_mem _ zw5_70) (by decide +kernel) (zk_dg_ok qdo_17_49 (by decide +kernel)), List.forall_mem_cons.mpr ⟨zg_kokW S (List.mem_cons_of_mem _ zw5_71) (by decide +kernel) (zk_dg_ok qdo_17_49 (by decide +kernel)), fun _ h => absurd h List.not_mem_nil⟩⟩⟩⟩,
    fun _ h => absurd h List.not_mem_nil⟩
set_option maxRecDepth 100000 in
theorem qm559 {l : Launch} {D : zk_D} {base : Nat} {Hb : Heap} : zk_Met l qK D base Hb (zg_K D base Hb) yJ6_bitCount_0f7a4 (Jvm.Cond.code yJ6_bitCount_0f7a4 prog_17_method_49_code 1 (some .int) :: zg_tb) qR559 qC559 := zk_met (ws' := zg_tb) (P := qP559) (AT := zg_AT) zpn_J6 rfl rfl rfl qk559 (fun s hK => zg_wd hK) (fun p e s m args below meth c s₁ Q B hml hK => qo559 B hml hK) (fun p e s m args below meth c s₁ v G0 H0 B hml hK ha hp hF q hq => absurd hq List.not_mem_nil)
set_option maxRecDepth 100000 in
def qR560 : Room := { frames := 2, cells := 0, slots := 0, locals := 44 }
set_option maxHeartbeats 4000000 in
set_option maxRecDepth 100000 in
theorem qo560 {p : Program} {l : Launch} {e : Env} {s : State} {m : MethodId} {args : Array Value} {below : List Frame} {meth : Method} {c : Code} {s₁ : State} {Q : State → Prop} {D : zk_D} {base : Nat} {Hb : Heap} (B : BodyLoose p l yX12_explains (headSpec (Jvm.Cond.code yX12_explains prog_14_method_90_code 4 (some .boolean) :: zg_tb) qR560) prog_14_method_90_code 4 (some .boolean) e s m args below meth c s₁) (hml : c.maxLocals = 4) (hK : zg_K D base Hb s) : zk_ok p l e (headSpec (Jvm.Cond.code yX12_explains prog_14_method_90_code 4 (some .boolean) :: zg_tb) qR560).room s m args below meth c Q qK D base Hb 4 prog_14_method_90_code qP560 qC560.2.2.2.2 := by
  have S : CallFix p m c prog_14_method_90_code 4 s args (Jvm.Cond.code yX12_explains prog_14_method_90_code 4 (some .boolean) :: zg_tb) RX12 := ⟨B.exec, B.bytes, hml, findClass_of_methodNamed B.named, atoms_spec (ws := (Jvm.Cond.code yX12_explains prog_14_method_90_code 4 (some .boolean) :: zg_tb)) B.pre⟩
  exact ⟨List.forall_mem_cons.mpr ⟨zg_gp S (hK.2.1 12 _ rfl) (fun w h => (List.mem_cons_of_mem _ (zc12 w h))) rfl zt12_44 (List.mem_cons_of_mem _ zw5_203) rfl, List.forall_mem_cons.mpr ⟨zg_gp4 S (hK.2.1 12 _ rfl) (fun w h => (List.mem_cons_of_mem _ (zc12 w h))) rfl zt12_3 (List.mem_cons_of_mem _ zw5_162), List.forall_mem_cons.mpr ⟨zg_gp4 S (hK.2.1 12 _ rfl) (fun w h => (List.mem_cons_of_mem _ (zc12 w h))) rfl zt12_35 (List.mem_cons_of_mem _ zw5_194), List.forall_mem_cons.mpr ⟨zg_gp4 S (hK.2.1 12 _ rfl) (fun w h => (List.mem_cons_of_mem _ (zc12 w h))) rfl zt12_36 (List.mem_cons_of_mem _ zw5_195), List.forall_mem_cons.mpr ⟨zg_gp4 S (hK.2.1 12 _ rfl) (fun w h => (List.mem_cons_of_mem _ (zc12 w h))) rfl zt12_5 (List.mem_cons_of_mem _ zw5_164), fun _ h => absurd h List.not_mem_nil⟩⟩⟩⟩⟩,
    fun _ h => absurd h List.not_mem_nil,
    fun _ h => absurd h List.not_mem_nil,
    fun _ h => absurd h List.not_mem_nil,
    fun h => absurd rfl h,
    fun _ h => absurd h List.not_mem_nil,
    List.forall_mem_cons.mpr ⟨zg_callV (fun w h => List.mem_cons_of_mem _ h) zg_tb_all S hK zg_Km qm517 zw7_226 zy_yX12_wroteAhead_V (ci := 12) (by decide +kernel) (hK.2.1 12 _ rfl).2.1 ⟨rfl, rfl⟩ (zk_dg_ok qdo_14_90 (by decide +kernel)), fun _ h => absurd h List.not_mem_nil⟩⟩
set_option maxRecDepth 100000 in
theorem qm560 {l : Launch} {D : zk_D} {base : Nat} {Hb : Heap} : zk_Met l qK D base Hb (zg_K D base Hb) yX12_explains (Jvm.Cond.code yX12_explains prog_14_method_90_code 4 (some .boolean) :: zg_tb) qR560 qC560 := zk_met (ws' := zg_tb) (P := qP560) (AT := zg_AT) zpn_X12 rfl rfl rfl qk560 (fun s hK => zg_wd hK) (fun p e s m args below meth c s₁ Q B hml hK => qo560 B hml hK) (fun p e s m args below meth c s₁ v G0 H0 B hml hK ha hp hF q hq => absurd hq List.not_mem_nil)
set_option maxRecDepth 100000 in
def qR561 : Room := { frames := 3, cells := 0, slots := 0, locals := 67 }
set_option maxHeartbeats 4000000 in
set_option maxRecDepth 100000 in
theorem qo561 {p : Program} {l : Launch} {e : Env} {s : State} {m : MethodId} {args : Array Value} {below : List Frame} {meth : Method} {c : Code} {s₁ : State} {Q : State → Prop} {D : zk_D} {base : Nat} {Hb : Heap} (B : BodyLoose p l yX12_spread (headSpec (Jvm.Cond.code yX12_spread prog_14_method_89_code 7 (some .int) :: zg_tb) qR561) prog_14_method_89_code 7 (some .int) e s m args below meth c s₁) (hml : c.maxLocals = 7) (hK : zg_K D base Hb s) : zk_ok p l e (headSpec (Jvm.Cond.code yX12_spread prog_14_method_89_code 7 (some .int) :: zg_tb) qR561).room s m args below meth c Q qK D base Hb 7 prog_14_method_89_code qP561 qC561.2.2.2.2 := by
  have S : CallFix p m c prog_14_method_89_code 7 s args (Jvm.Cond.code yX12_spread prog_14_method_89_code 7 (some .int) :: zg_tb) RX12 := ⟨B.exec, B.bytes, hml, findClass_of_methodNamed B.named, atoms_spec (ws := (Jvm.Cond.code yX12_spread prog_14_method_89_code 7 (some .int) :: zg_tb)) B.pre⟩
  exact ⟨fun _ h => absurd h List.not_mem_nil,
    fun _ h => absurd h List.not_mem_nil,
    fun _ h => absurd h List.not_mem_nil,
    fun _ h => absurd h List.not_mem_nil,
    fun h => absurd rfl h,
    fun _ h => absurd h List.not_mem_nil,
    List.forall_mem_cons.mpr ⟨zg_callV (fun w h => List.mem_cons_of_mem _ h) zg_tb_all S hK zg_Km qm21 zw6_141 zy_yX12_isHouse_V (ci := 12) (by decide +kernel) (hK.2.1 12 _ rfl).2.1 ⟨rfl, rfl⟩ (zk_dg_ok qdo_14_89 (by decide +kernel)), List.forall_mem_cons.mpr ⟨zg_callS (fun w h => List.mem_cons_of_mem _ h) zg_tb_all S hK zg_Km qm558 zw8_2 zy_yJ6_bitCount_0f7a4_S (by decide +kernel) ⟨rfl, rfl⟩ (zk_dg_ok qdo_14_89 (by decide +kernel)), List.forall_mem_cons.mpr ⟨zg_callS (fun w h => List.mem_cons_of_mem _ h) zg_tb_all S hK zg_Km qm559 zw8_2 zy_yJ6_bitCount_0f7a4_S (by decide +kernel) ⟨rfl, rfl⟩ (zk_dg_ok qdo_14_89 (by decide +kernel)), List.forall_mem_cons.mpr ⟨zg_callV (fun w h => List.mem_cons_of_mem _ h) zg_tb_all S hK zg_Km qm560 zw8_3 zy_yX12_explains_V (ci := 12) (by decide +kernel) (hK.2.1 12 _ rfl).2.1 ⟨rfl, rfl⟩ (zk_dg_ok qdo_14_89 (by decide +kernel)), fun _ h => absurd h List.not_mem_nil⟩⟩⟩⟩⟩
set_option maxRecDepth 100000 in
theorem qm561 {l : Launch} {D : zk_D} {base : Nat} {Hb : Heap} : zk_Met l qK D base Hb (zg_K D base Hb) yX12_spread (Jvm.Cond.code yX12_spread prog_14_method_89_code 7 (some .int) :: zg_tb) qR561 qC561 := zk_met (ws' := zg_tb) (P := qP561) (AT := zg_AT) zpn_X12 rfl rfl rfl qk561 (fun s hK => zg_wd hK) (fun p e s m args below meth c s₁ Q B hml hK => qo561 B hml hK) (fun p e s m args below meth c s₁ v G0 H0 B hml hK ha hp hF q hq => absurd hq List.not_mem_nil)
set_option maxRecDepth 100000 in
def qR562 : Room := { frames := 2, cells := 0, slots := 0, locals := 41 }
set_option maxHeartbeats 4000000 in
set_option maxRecDepth 100000 in
theorem qo562 {p : Program} {l : Launch} {e : Env} {s : State} {m : MethodId} {args : Array Value} {below : List Frame} {meth : Method} {c : Code} {s₁ : State} {Q : State → Prop} {D : zk_D} {base : Nat} {Hb : Heap} (B : BodyLoose p l yX8_wordEnd (headSpec (Jvm.Cond.code yX8_wordEnd prog_10_method_5_code 3 (some .int) :: zg_tb) qR562) prog_10_method_5_code 3 (some .int) e s m args below meth c s₁) (hml : c.maxLocals = 3) (hK : zg_K D base Hb s) : zk_ok p l e (headSpec (Jvm.Cond.code yX8_wordEnd prog_10_method_5_code 3 (some .int) :: zg_tb) qR562).room s m args below meth c Q qK D base Hb 3 prog_10_method_5_code qP562 qC562.2.2.2.2 := by
  have S : CallFix p m c prog_10_method_5_code 3 s args (Jvm.Cond.code yX8_wordEnd prog_10_method_5_code 3 (some .int) :: zg_tb) RX8 := ⟨B.exec, B.bytes, hml, findClass_of_methodNamed B.named, atoms_spec (ws := (Jvm.Cond.code yX8_wordEnd prog_10_method_5_code 3 (some .int) :: zg_tb)) B.pre⟩
  exact ⟨List.forall_mem_cons.mpr ⟨zg_gp S (hK.2.1 8 _ rfl) (fun w h => (List.mem_cons_of_mem _ (zc8 w h))) rfl zt8_1 (List.mem_cons_of_mem _ zw1_79) rfl, fun _ h => absurd h List.not_mem_nil⟩,
    fun _ h => absurd h List.not_mem_nil,
    fun _ h => absurd h List.not_mem_nil,
    fun _ h => absurd h List.not_mem_nil,
    fun h => absurd rfl h,
    fun _ h => absurd h List.not_mem_nil,
    List.forall_mem_cons.mpr ⟨zg_callV (fun w h => List.mem_cons_of_mem _ h) zg_tb_all S hK zg_Km qm32 zw5_80 zy_yX8_at_V (ci := 8) (by decide +kernel) (hK.2.1 8 _ rfl).2.1 ⟨rfl, rfl⟩ (zk_dg_ok qdo_10_5 (by decide +kernel)), List.forall_mem_cons.mpr ⟨zg_callS (fun w h => List.mem_cons_of_mem _ h) zg_tb_all S hK zg_Km qm34 zw5_81 zy_yX9_isByte_S (by decide +kernel) ⟨rfl, rfl⟩ (zk_dg_ok qdo_10_5 (by decide +kernel)), fun _ h => absurd h List.not_mem_nil⟩⟩⟩
set_option maxRecDepth 100000 in
theorem qm562 {l : Launch} {D : zk_D} {base : Nat} {Hb : Heap} : zk_Met l qK D base Hb (zg_K D base Hb) yX8_wordEnd (Jvm.Cond.code yX8_wordEnd prog_10_method_5_code 3 (some .int) :: zg_tb) qR562 qC562 := zk_met (ws' := zg_tb) (P := qP562) (AT := zg_AT) zpn_X8 rfl rfl rfl qk562 (fun s hK => zg_wd hK) (fun p e s m args below meth c s₁ Q B hml hK => qo562 B hml hK) (fun p e s m args below meth c s₁ v G0 H0 B hml hK ha hp hF q hq => absurd hq List.not_mem_nil)
set_option maxRecDepth 100000 in
def qR563 : Room := { frames := 1, cells := 0, slots := 0, locals := 20 }
set_option maxHeartbeats 4000000 in
set_option maxRecDepth 100000 in
theorem qo563 {p : Program} {l : Launch} {e : Env} {s : State} {m : MethodId} {args : Array Value} {below : List Frame} {meth : Method} {c : Code} {s₁ : State} {Q : State → Prop} {D : zk_D} {base : Nat} {Hb : Heap} (B : BodyLoose p l yX9_isLength (headSpec (Jvm.Cond.code yX9_isLength prog_11_method_2_code 1 (some .boolean) :: zg_tb) qR563) prog_11_method_2_code 1 (some .boolean) e s m args below meth c s₁) (hml : c.maxLocals = 1) (hK : zg_K D base Hb s) : zk_ok p l e (headSpec (Jvm.Cond.code yX9_isLength prog_11_method_2_code 1 (some .boolean) :: zg_tb) qR563).room s m args below meth c Q qK D base Hb 1 prog_11_method_2_code qP563 qC563.2.2.2.2 := by
  have S : CallFix p m c prog_11_method_2_code 1 s args (Jvm.Cond.code yX9_isLength prog_11_method_2_code 1 (some .boolean) :: zg_tb) RX9 := ⟨B.exec, B.bytes, hml, findClass_of_methodNamed B.named, atoms_spec (ws := (Jvm.Cond.code yX9_isLength prog_11_method_2_code 1 (some .boolean) :: zg_tb)) B.pre⟩
  exact ⟨fun _ h => absurd h List.not_mem_nil,
    fun _ h => absurd h List.not_mem_nil,
    fun _ h => absurd h List.not_mem_nil,
    fun _ h => absurd h List.not_mem_nil,
    fun h => absurd rfl h,
    fun _ h => absurd h List.not_mem_nil,
    fun _ h => absurd h List.not_mem_nil⟩
set_option maxRecDepth 100000 in
theorem qm563 {l : Launch} {D : zk_D} {base : Nat} {Hb : Heap} : zk_Met l qK D base Hb (zg_K D base Hb) yX9_isLength (Jvm.Cond.code yX9_isLength prog_11_method_2_code 1 (some .boolean) :: zg_tb) qR563 qC563 := zk_met (ws' := zg_tb) (P := qP563) (AT := zg_AT) zpn_X9 rfl rfl rfl qk563 (fun s hK => zg_wd hK) (fun p e s m args below meth c s₁ Q B hml hK => qo563 B hml hK) (fun p e s m args below meth c s₁ v G0 H0 B hml hK ha hp hF q hq => absurd hq List.not_mem_nil)
set_option maxRecDepth 100000 in
def qR564 : Room := { frames := 2, cells := 0, slots := 0, locals := 42 }
set_option maxHeartbeats 4000000 in
set_option maxRecDepth 100000 in
theorem qo564 {p : Program} {l : Launch} {e : Env} {s : State} {m : MethodId} {args : Array Value} {below : List Frame} {meth : Method} {c : Code} {s₁ : State} {Q : State → Prop} {D : zk_D} {base : Nat} {Hb : Heap} (B : BodyLoose p l yX8_spell (headSpec (Jvm.Cond.code yX8_spell prog_10_method_6_code 6 (some .long) :: zg_tb) qR564) prog_10_method_6_code 6 (some .long) e s m args below meth c s₁) (hml : c.maxLocals = 6) (hK : zg_K D base Hb s) : zk_ok p l e (headSpec (Jvm.Cond.code yX8_spell prog_10_method_6_code 6 (some .long) :: zg_tb) qR564).room s m args below meth c Q qK D base Hb 6 prog_10_method_6_code qP564 qC564.2.2.2.2 := by
  have S : CallFix p m c prog_10_method_6_code 6 s args (Jvm.Cond.code yX8_spell prog_10_method_6_code 6 (some .long) :: zg_tb) RX8 := ⟨B.exec, B.bytes, hml, findClass_of_methodNamed B.named, atoms_spec (ws := (Jvm.Cond.code yX8_spell prog_10_method_6_code 6 (some .long) :: zg_tb)) B.pre⟩
  exact ⟨fun _ h => absurd h List.not_mem_nil,
    fun _ h => absurd h List.not_mem_nil,
    fun _ h => absurd h List.not_mem_nil,
    fun _ h => absurd h List.not_mem_nil,
    fun h => absurd rfl h,
    fun _ h => absurd h List.not_mem_nil,
    List.forall_mem_cons.mpr ⟨zg_callV (fun w h => List.mem_cons_of_mem _ h) zg_tb_all S hK zg_Km qm32 zw5_80 zy_yX8_at_V (ci := 8) (by decide +kernel) (hK.2.1 8 _ rfl).2.1 ⟨rfl, rfl⟩ (zk_dg_ok qdo_10_6 (by decide +kernel)), List.forall_mem_cons.mpr ⟨zg_callS (fun w h => List.mem_cons_of_mem _ h) zg_tb_all S hK zg_Km qm437 zw5_90 zy_yX9_longer_S (by decide +kernel) ⟨rfl, rfl⟩ (zk_dg_ok qdo_10_6 (by decide +kernel)), fun _ h => absurd h List.not_mem_nil⟩⟩⟩
set_option maxRecDepth 100000 in
theorem qm564 {l : Launch} {D : zk_D} {base : Nat} {Hb : Heap} : zk_Met l qK D base Hb (zg_K D base Hb) yX8_spell (Jvm.Cond.code yX8_spell prog_10_method_6_code 6 (some .long) :: zg_tb) qR564 qC564 := zk_met (ws' := zg_tb) (P := qP564) (AT := zg_AT) zpn_X8 rfl rfl rfl qk564 (fun s hK => zg_wd hK) (fun p e s m args below meth c s₁ Q B hml hK => qo564 B hml hK) (fun p e s m args below meth c s₁ v G0 H0 B hml hK ha hp hF q hq => absurd hq List.not_mem_nil)
set_option maxRecDepth 100000 in
def qR565 : Room := { frames := 1, cells := 0, slots := 0, locals := 20 }
set_option maxHeartbeats 4000000 in
set_option maxRecDepth 100000 in
theorem qo565 {p : Program} {l : Launch} {e : Env} {s : State} {m : MethodId} {args : Array Value} {below : List Frame} {meth : Method} {c : Code} {s₁ : State} {Q : State → Prop} {D : zk_D} {base : Nat} {Hb : Heap} (B : BodyLoose p l yX10_addSwap (headSpec (Jvm.Cond.code yX10_addSwap prog_12_method_5_code 3 (some .int) :: zg_tb) qR565) prog_12_method_5_code 3 (some .int) e s m args below meth c s₁) (hml : c.maxLocals = 3) (hK : zg_K D base Hb s) : zk_ok p l e (headSpec (Jvm.Cond.code yX10_addSwap prog_12_method_5_code 3 (some .int) :: zg_tb) qR565).room s m args below meth c Q qK D base Hb 3 prog_12_method_5_code qP565 qC565.2.2.2.2 := by
  have S : CallFix p m c prog_12_method_5_code 3 s args (Jvm.Cond.code yX10_addSwap prog_12_method_5_code 3 (some .int) :: zg_tb) RX10 := ⟨B.exec, B.bytes, hml, findClass_of_methodNamed B.named, atoms_spec (ws := (Jvm.Cond.code yX10_addSwap prog_12_method_5_code 3 (some .int) :: zg_tb)) B.pre⟩
  exact ⟨List.forall_mem_cons.mpr ⟨zg_gp S (hK.2.1 10 _ rfl) (fun w h => (List.mem_cons_of_mem _ (zc10 w h))) rfl zt10_4 (List.mem_cons_of_mem _ zw1_224) rfl, List.forall_mem_cons.mpr ⟨zg_gp4 S (hK.2.1 10 _ rfl) (fun w h => (List.mem_cons_of_mem _ (zc10 w h))) rfl zt10_1 (List.mem_cons_of_mem _ zw1_220), List.forall_mem_cons.mpr ⟨zg_gp4 S (hK.2.1 10 _ rfl) (fun w h => (List.mem_cons_of_mem _ (zc10 w h))) rfl zt10_2 (List.mem_cons_of_mem _ zw1_221), fun _ h => absurd h List.not_mem_nil⟩⟩⟩,
    List.forall_mem_cons.mpr ⟨zg_sokR (ci := 9) S (hK.2.2.2.1 (11, _) (List.mem_of_getElem? (i := 6) rfl)) (hK.2.2.2.2.2.1 _ (List.mem_of_getElem? (i := 0) rfl)) (hK.2.1 9 _ rfl).2.1 (by decide +kernel) (by decide +kernel), fun _ h => absurd h List.not_mem_nil⟩,
    fun _ h => absurd h List.not_mem_nil,
    fun _ h => absurd h List.not_mem_nil,
    fun h => absurd rfl h,
    fun _ h => absurd h List.not_mem_nil,
    fun _ h => absurd h List.not_mem_nil⟩
set_option maxRecDepth 100000 in
theorem qm565 {l : Launch} {D : zk_D} {base : Nat} {Hb : Heap} : zk_Met l qK D base Hb (zg_K D base Hb) yX10_addSwap (Jvm.Cond.code yX10_addSwap prog_12_method_5_code 3 (some .int) :: zg_tb) qR565 qC565 := zk_met (ws' := zg_tb) (P := qP565) (AT := zg_AT) zpn_X10 rfl rfl rfl qk565 (fun s hK => zg_wd hK) (fun p e s m args below meth c s₁ Q B hml hK => qo565 B hml hK) (fun p e s m args below meth c s₁ v G0 H0 B hml hK ha hp hF q hq => absurd hq List.not_mem_nil)
set_option maxRecDepth 100000 in
def qR566 : Room := { frames := 3, cells := 2, slots := 12, locals := 69 }
set_option maxHeartbeats 4000000 in
set_option maxRecDepth 100000 in
theorem qo566 {p : Program} {l : Launch} {e : Env} {s : State} {m : MethodId} {args : Array Value} {below : List Frame} {meth : Method} {c : Code} {s₁ : State} {Q : State → Prop} {D : zk_D} {base : Nat} {Hb : Heap} (B : BodyLoose p l yX11_swap (headSpec (Jvm.Cond.code yX11_swap prog_1_method_32_code 5 (some .int) :: zg_tb) qR566) prog_1_method_32_code 5 (some .int) e s m args below meth c s₁) (hml : c.maxLocals = 5) (hK : zg_K D base Hb s) : zk_ok p l e (headSpec (Jvm.Cond.code yX11_swap prog_1_method_32_code 5 (some .int) :: zg_tb) qR566).room s m args below meth c Q qK D base Hb 5 prog_1_method_32_code qP566 qC566.2.2.2.2 := by
  have S : CallFix p m c prog_1_method_32_code 5 s args (Jvm.Cond.code yX11_swap prog_1_method_32_code 5 (some .int) :: zg_tb) RX11 := ⟨B.exec, B.bytes, hml, findClass_of_methodNamed B.named, atoms_spec (ws := (Jvm.Cond.code yX11_swap prog_1_method_32_code 5 (some .int) :: zg_tb)) B.pre⟩
  exact ⟨List.forall_mem_cons.mpr ⟨zg_gp4 S (hK.2.1 11 _ rfl) (fun w h => (List.mem_cons_of_mem _ (zc11 w h))) rfl zt11_1 (List.mem_cons_of_mem _ zw2_54), List.forall_mem_cons.mpr ⟨zg_gp4 S (hK.2.1 11 _ rfl) (fun w h => (List.mem_cons_of_mem _ (zc11 w h))) rfl zt11_6 (List.mem_cons_of_mem _ zw2_59), List.forall_mem_cons.mpr ⟨zg_gp S (hK.2.1 10 _ rfl) (fun w h => (List.mem_cons_of_mem _ (zc10 w h))) rfl zt10_4 (List.mem_cons_of_mem _ zw1_225) rfl, List.forall_mem_cons.mpr ⟨zg_gp S (hK.2.1 8 _ rfl) (fun w h => (List.mem_cons_of_mem _ (zc8 w h))) rfl zt8_1 (List.mem_cons_of_mem _ zw1_81) rfl, fun _ h => absurd h List.not_mem_nil⟩⟩⟩⟩,
    fun _ h => absurd h List.not_mem_nil,
    fun _ h => absurd h List.not_mem_nil,
    fun _ h => absurd h List.not_mem_nil,
    fun h => absurd rfl h,
    fun _ h => absurd h List.not_mem_nil,
    List.forall_mem_cons.mpr ⟨zg_callV (fun w h => List.mem_cons_of_mem _ h) zg_tb_all S hK zg_Km qm562 zw5_76 zy_yX8_wordEnd_V (ci := 8) (by decide +kernel) (hK.2.1 8 _ rfl).2.1 ⟨rfl, rfl⟩ (zk_dg_ok qdo_1_32 (by decide +kernel)), List.forall_mem_cons.mpr ⟨zg_callV (fun w h => List.mem_cons_of_mem _ h) zg_tb_all S hK zg_Km qm32 zw5_82 zy_yX8_at_V (ci := 8) (by decide +kernel) (hK.2.1 8 _ rfl).2.1 ⟨rfl, rfl⟩ (zk_dg_ok qdo_1_32 (by decide +kernel)), List.forall_mem_cons.mpr ⟨zg_callV (fun w h => List.mem_cons_of_mem _ h) zg_tb_all S hK zg_Km qm562 zw5_76 zy_yX8_wordEnd_V (ci := 8) (by decide +kernel) (hK.2.1 8 _ rfl).2.1 ⟨rfl, rfl⟩ (zk_dg_ok qdo_1_32 (by decide +kernel)), List.forall_mem_cons.mpr ⟨zg_callS (fun w h => List.mem_cons_of_mem _ h) zg_tb_all S hK zg_Km qm563 zw5_83 zy_yX9_isLength_S (by decide +kernel) ⟨rfl, rfl⟩ (zk_dg_ok qdo_1_32 (by decide +kernel)), List.forall_mem_cons.mpr ⟨zg_callS (fun w h => List.mem_cons_of_mem _ h) zg_tb_all S hK zg_Km qm563 zw5_83 zy_yX9_isLength_S (by decide +kernel) ⟨rfl, rfl⟩ (zk_dg_ok qdo_1_32 (by decide +kernel)), List.forall_mem_cons.mpr ⟨zg_callV (fun w h => List.mem_cons_of_mem _ h) zg_tb_all S hK zg_Km qm564 zw5_86 zy_yX8_spell_V (ci := 8) (by decide +kernel) (hK.2.1 8 _ rfl).2.1 ⟨rfl, rfl⟩ (zk_dg_ok qdo_1_32 (by decide +kernel)), List.forall_mem_cons.mpr ⟨zg_callV (fun w h => List.mem_cons_of_mem _ h) zg_tb_all S hK zg_Km qm461 zw4_98 zy_yX10_find_V (ci := 10) (by decide +kernel) (hK.2.1 10 _ rfl).2.1 ⟨rfl, rfl⟩ (zk_dg_ok qdo_1_32 (by decide +kernel)), List.forall_mem_cons.mpr ⟨zg_callV (fun w h => List.mem_cons_of_mem _ h) zg_tb_all S hK zg_Km qm564 zw5_86 zy_yX8_spell_V (ci := 8) (by decide +kernel) (hK.2.1 8 _ rfl).2.1 ⟨rfl, rfl⟩ (zk_dg_ok qdo_1_32 (by decide +kernel)), List.forall_mem_cons.mpr ⟨zg_callV (fun w h => List.mem_cons_of_mem _ h) zg_tb_all S hK zg_Km qm461 zw4_98 zy_yX10_find_V (ci := 10) (by decide +kernel) (hK.2.1 10 _ rfl).2.1 ⟨rfl, rfl⟩ (zk_dg_ok qdo_1_32 (by decide +kernel)), List.forall_mem_cons.mpr ⟨zg_callV (fun w h => List.mem_cons_of_mem _ h) zg_tb_all S hK zg_Km qm565 zw5_91 zy_yX10_addSwap_V (ci := 10) (by decide +kernel) (hK.2.1 10 _ rfl).2.1 ⟨rfl, rfl⟩ (zk_dg_ok qdo_1_32 (by decide +kernel)), fun _ h => absurd h List.not_mem_nil⟩⟩⟩⟩⟩⟩⟩⟩⟩⟩⟩
set_option maxRecDepth 100000 in
theorem qm566 {l : Launch} {D : zk_D} {base : Nat} {Hb : Heap} : zk_Met l qK D base Hb (zg_K D base Hb) yX11_swap (Jvm.Cond.code yX11_swap prog_1_method_32_code 5 (some .int) :: zg_tb) qR566 qC566 := zk_met (ws' := zg_tb) (P := qP566) (AT := zg_AT) zpn_X11 rfl rfl rfl qk566 (fun s hK => zg_wd hK) (fun p e s m args below meth c s₁ Q B hml hK => qo566 B hml hK) (fun p e s m args below meth c s₁ v G0 H0 B hml hK ha hp hF q hq => absurd hq List.not_mem_nil)
set_option maxRecDepth 100000 in
def qR567 : Room := { frames := 1, cells := 0, slots := 0, locals := 20 }
set_option maxHeartbeats 4000000 in
set_option maxRecDepth 100000 in
theorem qo567 {p : Program} {l : Launch} {e : Env} {s : State} {m : MethodId} {args : Array Value} {below : List Frame} {meth : Method} {c : Code} {s₁ : State} {Q : State → Prop} {D : zk_D} {base : Nat} {Hb : Heap} (B : BodyLoose p l yX12_in (headSpec (Jvm.Cond.code yX12_in prog_14_method_1_code 3 (some .boolean) :: zg_tb) qR567) prog_14_method_1_code 3 (some .boolean) e s m args below meth c s₁) (hml : c.maxLocals = 3) (hK : zg_K D base Hb s) : zk_ok p l e (headSpec (Jvm.Cond.code yX12_in prog_14_method_1_code 3 (some .boolean) :: zg_tb) qR567).room s m args below meth c Q qK D base Hb 3 prog_14_method_1_code qP567 qC567.2.2.2.2 := by
  have S : CallFix p m c prog_14_method_1_code 3 s args (Jvm.Cond.code yX12_in prog_14_method_1_code 3 (some .boolean) :: zg_tb) RX12 := ⟨B.exec, B.bytes, hml, findClass_of_methodNamed B.named, atoms_spec (ws := (Jvm.Cond.code yX12_in prog_14_method_1_code 3 (some .boolean) :: zg_tb)) B.pre⟩
  exact ⟨fun _ h => absurd h List.not_mem_nil,
    fun _ h => absurd h List.not_mem_nil,
    fun _ h => absurd h List.not_mem_nil,
    fun _ h => absurd h List.not_mem_nil,
    fun h => absurd rfl h,
    fun _ h => absurd h List.not_mem_nil,
    fun _ h => absurd h List.not_mem_nil⟩
set_option maxRecDepth 100000 in
theorem qm567 {l : Launch} {D : zk_D} {base : Nat} {Hb : Heap} : zk_Met l qK D base Hb (zg_K D base Hb) yX12_in (Jvm.Cond.code yX12_in prog_14_method_1_code 3 (some .boolean) :: zg_tb) qR567 qC567 := zk_met (ws' := zg_tb) (P := qP567) (AT := zg_AT) zpn_X12 rfl rfl rfl qk567 (fun s hK => zg_wd hK) (fun p e s m args below meth c s₁ Q B hml hK => qo567 B hml hK) (fun p e s m args below meth c s₁ v G0 H0 B hml hK ha hp hF q hq => absurd hq List.not_mem_nil)
set_option maxRecDepth 100000 in
def qR568 : Room := { frames := 1, cells := 0, slots := 0, locals := 20 }
set_option maxHeartbeats 4000000 in
set_option maxRecDepth 100000 in
theorem qo568 {p : Program} {l : Launch} {e : Env} {s : State} {m : MethodId} {args : Array Value} {below : List Frame} {meth : Method} {c : Code} {s₁ : State} {Q : State → Prop} {D : zk_D} {base : Nat} {Hb : Heap} (B : BodyLoose p l yX12_in (headSpec (Jvm.Cond.code yX12_in prog_14_method_1_code 3 (some .boolean) :: zg_tb) qR568) prog_14_method_1_code 3 (some .boolean) e s m args below meth c s₁) (hml : c.maxLocals = 3) (hK : zg_K D base Hb s) : zk_ok p l e (headSpec (Jvm.Cond.code yX12_in prog_14_method_1_code 3 (some .boolean) :: zg_tb) qR568).room s m args below meth c Q qK D base Hb 3 prog_14_method_1_code qP568 qC568.2.2.2.2 := by
  have S : CallFix p m c prog_14_method_1_code 3 s args (Jvm.Cond.code yX12_in prog_14_method_1_code 3 (some .boolean) :: zg_tb) RX12 := ⟨B.exec, B.bytes, hml, findClass_of_methodNamed B.named, atoms_spec (ws := (Jvm.Cond.code yX12_in prog_14_method_1_code 3 (some .boolean) :: zg_tb)) B.pre⟩
  exact ⟨fun _ h => absurd h List.not_mem_nil,
    fun _ h => absurd h List.not_mem_nil,
    fun _ h => absurd h List.not_mem_nil,
    fun _ h => absurd h List.not_mem_nil,
    fun h => absurd rfl h,
    fun _ h => absurd h List.not_mem_nil,
    fun _ h => absurd h List.not_mem_nil⟩
set_option maxRecDepth 100000 in
theorem qm568 {l : Launch} {D : zk_D} {base : Nat} {Hb : Heap} : zk_Met l qK D base Hb (zg_K D base Hb) yX12_in (Jvm.Cond.code yX12_in prog_14_method_1_code 3 (some .boolean) :: zg_tb) qR568 qC568 := zk_met (ws' := zg_tb) (P := qP568) (AT := zg_AT) zpn_X12 rfl rfl rfl qk568 (fun s hK => zg_wd hK) (fun p e s m args below meth c s₁ Q B hml hK => qo568 B hml hK) (fun p e s m args below meth c s₁ v G0 H0 B hml hK ha hp hF q hq => absurd hq List.not_mem_nil)
set_option maxRecDepth 100000 in
def qR569 : Room := { frames := 3, cells := 0, slots := 0, locals := 60 }
set_option maxHeartbeats 4000000 in
set_option maxRecDepth 100000 in
theorem qo569 {p : Program} {l : Launch} {e : Env} {s : State} {m : MethodId} {args : Array Value} {below : List Frame} {meth : Method} {c : Code} {s₁ : State} {Q : State → Prop} {D : zk_D} {base : Nat} {Hb : Heap} (B : BodyLoose p l yX12_swap (headSpec (Jvm.Cond.code yX12_swap prog_14_method_91_code 3 (some .int) :: zg_tb) qR569) prog_14_method_91_code 3 (some .int) e s m args below meth c s₁) (hml : c.maxLocals = 3) (hK : zg_K D base Hb s) : zk_ok p l e (headSpec (Jvm.Cond.code yX12_swap prog_14_method_91_code 3 (some .int) :: zg_tb) qR569).room s m args below meth c Q qK D base Hb 3 prog_14_method_91_code qP569 qC569.2.2.2.2 := by
  have S : CallFix p m c prog_14_method_91_code 3 s args (Jvm.Cond.code yX12_swap prog_14_method_91_code 3 (some .int) :: zg_tb) RX12 := ⟨B.exec, B.bytes, hml, findClass_of_methodNamed B.named, atoms_spec (ws := (Jvm.Cond.code yX12_swap prog_14_method_91_code 3 (some .int) :: zg_tb)) B.pre⟩
  exact ⟨List.forall_mem_cons.mpr ⟨zg_gp S (hK.2.1 12 _ rfl) (fun w h => (List.mem_cons_of_mem _ (zc12 w h))) rfl zt12_9 (List.mem_cons_of_mem _ zw5_168) rfl, List.forall_mem_cons.mpr ⟨zg_gp4 S (hK.2.1 12 _ rfl) (fun w h => (List.mem_cons_of_mem _ (zc12 w h))) rfl zt12_8 (List.mem_cons_of_mem _ zw5_167), List.forall_mem_cons.mpr ⟨zg_gp S (hK.2.1 12 _ rfl) (fun w h => (List.mem_cons_of_mem _ (zc12 w h))) rfl zt12_65 (List.mem_cons_of_mem _ zw5_224) rfl, List.forall_mem_cons.mpr ⟨zg_gp4 S (hK.2.1 12 _ rfl) (fun w h => (List.mem_cons_of_mem _ (zc12 w h))) rfl zt12_62 (List.mem_cons_of_mem _ zw5_221), List.forall_mem_cons.mpr ⟨zg_gp4 S (hK.2.1 12 _ rfl) (fun w h => (List.mem_cons_of_mem _ (zc12 w h))) rfl zt12_63 (List.mem_cons_of_mem _ zw5_222), fun _ h => absurd h List.not_mem_nil⟩⟩⟩⟩⟩,
    fun _ h => absurd h List.not_mem_nil,
    fun _ h => absurd h List.not_mem_nil,
    fun _ h => absurd h List.not_mem_nil,
    fun h => absurd rfl h,
    List.forall_mem_cons.mpr ⟨zg_kokL S (List.mem_cons_of_mem _ zw7_72) (by decide +kernel) (zk_dg_ok qdo_14_91 (by decide +kernel)), List.forall_mem_cons.mpr ⟨zg_kokL S (List.mem_cons_of_mem _ zw7_72) (by decide +kernel) (zk_dg_ok qdo_14_91 (by decide +kernel)), fun _ h => absurd h List.not_mem_nil⟩⟩,
    List.forall_mem_cons.mpr ⟨zg_callS (fun w h => List.mem_cons_of_mem _ h) zg_tb_all S hK zg_Km qm170 zw6_207 zy_yX12_isWord_S (by decide +kernel) ⟨rfl, rfl⟩ (zk_dg_ok qdo_14_91 (by decide +kernel)), List.forall_mem_cons.mpr ⟨zg_callS (fun w h => List.mem_cons_of_mem _ h) zg_tb_all S hK zg_Km qm567 zw6_145 zy_yX12_in_S (by decide +kernel) ⟨rfl, rfl⟩ (zk_dg_ok qdo_14_91 (by decide +kernel)), List.forall_mem_cons.mpr ⟨zg_callS (fun w h => List.mem_cons_of_mem _ h) zg_tb_all S hK zg_Km qm568 zw6_145 zy_yX12_in_S (by decide +kernel) ⟨rfl, rfl⟩ (zk_dg_ok qdo_14_91 (by decide +kernel)), List.forall_mem_cons.mpr ⟨zg_callS (fun w h => List.mem_cons_of_mem _ h) zg_tb_all S hK zg_Km qm468 zw7_73 zy_yX12_codeOf_S (by decide +kernel) ⟨rfl, rfl⟩ (zk_dg_ok qdo_14_91 (by decide +kernel)), List.forall_mem_cons.mpr ⟨zg_callS (fun w h => List.mem_cons_of_mem _ h) zg_tb_all S hK zg_Km qm468 zw7_73 zy_yX12_codeOf_S (by decide +kernel) ⟨rfl, rfl⟩ (zk_dg_ok qdo_14_91 (by decide +kernel)), fun _ h => absurd h List.not_mem_nil⟩⟩⟩⟩⟩⟩
set_option maxRecDepth 100000 in
theorem qm569 {l : Launch} {D : zk_D} {base : Nat} {Hb : Heap} : zk_Met l qK D base Hb (zg_K D base Hb) yX12_swap (Jvm.Cond.code yX12_swap prog_14_method_91_code 3 (some .int) :: zg_tb) qR569 qC569 := zk_met (ws' := zg_tb) (P := qP569) (AT := zg_AT) zpn_X12 rfl rfl rfl qk569 (fun s hK => zg_wd hK) (fun p e s m args below meth c s₁ Q B hml hK => qo569 B hml hK) (fun p e s m args below meth c s₁ v G0 H0 B hml hK ha hp hF q hq => absurd hq List.not_mem_nil)
set_option maxRecDepth 100000 in
def qR570 : Room := { frames := 1, cells := 0, slots := 0, locals := 20 }
set_option maxHeartbeats 4000000 in
set_option maxRecDepth 100000 in
theorem qo570 {p : Program} {l : Launch} {e : Env} {s : State} {m : MethodId} {args : Array Value} {below : List Frame} {meth : Method} {c : Code} {s₁ : State} {Q : State → Prop} {D : zk_D} {base : Nat} {Hb : Heap} (B : BodyLoose p l yX10_inPlaceOf (headSpec (Jvm.Cond.code yX10_inPlaceOf prog_12_method_7_code 4 (some (.object "UnaskedLetters$Word")) :: zg_tb) qR570) prog_12_method_7_code 4 (some (.object "UnaskedLetters$Word")) e s m args below meth c s₁) (hml : c.maxLocals = 4) (hK : zg_K D base Hb s) : zk_ok p l e (headSpec (Jvm.Cond.code yX10_inPlaceOf prog_12_method_7_code 4 (some (.object "UnaskedLetters$Word")) :: zg_tb) qR570).room s m args below meth c Q qK D base Hb 4 prog_12_method_7_code qP570 qC570.2.2.2.2 := by
  have S : CallFix p m c prog_12_method_7_code 4 s args (Jvm.Cond.code yX10_inPlaceOf prog_12_method_7_code 4 (some (.object "UnaskedLetters$Word")) :: zg_tb) RX10 := ⟨B.exec, B.bytes, hml, findClass_of_methodNamed B.named, atoms_spec (ws := (Jvm.Cond.code yX10_inPlaceOf prog_12_method_7_code 4 (some (.object "UnaskedLetters$Word")) :: zg_tb)) B.pre⟩
  exact ⟨List.forall_mem_cons.mpr ⟨zg_gp S (hK.2.1 10 _ rfl) (fun w h => (List.mem_cons_of_mem _ (zc10 w h))) rfl zt10_4 (List.mem_cons_of_mem _ zw1_224) rfl, List.forall_mem_cons.mpr ⟨zg_gp4 S (hK.2.1 10 _ rfl) (fun w h => (List.mem_cons_of_mem _ (zc10 w h))) rfl zt10_1 (List.mem_cons_of_mem _ zw1_220), List.forall_mem_cons.mpr ⟨zg_gp4 S (hK.2.1 9 _ rfl) (fun w h => (List.mem_cons_of_mem _ (zc9 w h))) rfl zt9_0 (List.mem_cons_of_mem _ zw4_112), List.forall_mem_cons.mpr ⟨zg_gp4 S (hK.2.1 10 _ rfl) (fun w h => (List.mem_cons_of_mem _ (zc10 w h))) rfl zt10_2 (List.mem_cons_of_mem _ zw1_221), fun _ h => absurd h List.not_mem_nil⟩⟩⟩⟩,
    fun _ h => absurd h List.not_mem_nil,
    fun _ h => absurd h List.not_mem_nil,
    fun _ h => absurd h List.not_mem_nil,
    fun h => absurd rfl h,
    fun _ h => absurd h List.not_mem_nil,
    fun _ h => absurd h List.not_mem_nil⟩
set_option maxRecDepth 100000 in
theorem qm570 {l : Launch} {D : zk_D} {base : Nat} {Hb : Heap} : zk_Met l qK D base Hb (zg_K D base Hb) yX10_inPlaceOf (Jvm.Cond.code yX10_inPlaceOf prog_12_method_7_code 4 (some (.object "UnaskedLetters$Word")) :: zg_tb) qR570 qC570 := zk_met (ws' := zg_tb) (P := qP570) (AT := zg_AT) zpn_X10 rfl rfl rfl qk570 (fun s hK => zg_wd hK) (fun p e s m args below meth c s₁ Q B hml hK => qo570 B hml hK) (fun p e s m args below meth c s₁ v G0 H0 B hml hK ha hp hF q hq => absurd hq List.not_mem_nil)
set_option maxRecDepth 100000 in
def qR571 : Room := { frames := 2, cells := 0, slots := 0, locals := 43 }
set_option maxHeartbeats 4000000 in
set_option maxRecDepth 100000 in
theorem qo571 {p : Program} {l : Launch} {e : Env} {s : State} {m : MethodId} {args : Array Value} {below : List Frame} {meth : Method} {c : Code} {s₁ : State} {Q : State → Prop} {D : zk_D} {base : Nat} {Hb : Heap} (B : BodyLoose p l yX10_change (headSpec (Jvm.Cond.code yX10_change prog_12_method_6_code 6 (some .int) :: zg_tb) qR571) prog_12_method_6_code 6 (some .int) e s m args below meth c s₁) (hml : c.maxLocals = 6) (hK : zg_K D base Hb s) : zk_ok p l e (headSpec (Jvm.Cond.code yX10_change prog_12_method_6_code 6 (some .int) :: zg_tb) qR571).room s m args below meth c Q qK D base Hb 6 prog_12_method_6_code qP571 qC571.2.2.2.2 := by
  have S : CallFix p m c prog_12_method_6_code 6 s args (Jvm.Cond.code yX10_change prog_12_method_6_code 6 (some .int) :: zg_tb) RX10 := ⟨B.exec, B.bytes, hml, findClass_of_methodNamed B.named, atoms_spec (ws := (Jvm.Cond.code yX10_change prog_12_method_6_code 6 (some .int) :: zg_tb)) B.pre⟩
  exact ⟨List.forall_mem_cons.mpr ⟨zg_gp S (hK.2.1 1 _ rfl) (fun w h => (List.mem_cons_of_mem _ (zc1 w h))) rfl zt1_13 (List.mem_cons_of_mem _ zw3_239) rfl, List.forall_mem_cons.mpr ⟨zg_gp4 S (hK.2.1 10 _ rfl) (fun w h => (List.mem_cons_of_mem _ (zc10 w h))) rfl zt10_3 (List.mem_cons_of_mem _ zw1_222), List.forall_mem_cons.mpr ⟨zg_gp S (hK.2.1 1 _ rfl) (fun w h => (List.mem_cons_of_mem _ (zc1 w h))) rfl zt1_11 (List.mem_cons_of_mem _ zw3_235) rfl, fun _ h => absurd h List.not_mem_nil⟩⟩⟩,
    List.forall_mem_cons.mpr ⟨zg_sokR (ci := 9) S (hK.2.2.2.1 (11, _) (List.mem_of_getElem? (i := 6) rfl)) (hK.2.2.2.2.2.1 _ (List.mem_of_getElem? (i := 0) rfl)) (hK.2.1 9 _ rfl).2.1 (by decide +kernel) (by decide +kernel), fun _ h => absurd h List.not_mem_nil⟩,
    fun _ h => absurd h List.not_mem_nil,
    fun _ h => absurd h List.not_mem_nil,
    fun h => absurd rfl h,
    fun _ h => absurd h List.not_mem_nil,
    List.forall_mem_cons.mpr ⟨zg_callV (fun w h => List.mem_cons_of_mem _ h) zg_tb_all S hK zg_Km qm458 zw5_103 zy_yX10_lookAnew_V (ci := 10) (by decide +kernel) (hK.2.1 10 _ rfl).2.1 ⟨rfl, rfl⟩ (zk_dg_ok qdo_12_6 (by decide +kernel)), List.forall_mem_cons.mpr ⟨zg_callV (fun w h => List.mem_cons_of_mem _ h) zg_tb_all S hK zg_Km qm570 zw5_104 zy_yX10_inPlaceOf_V (ci := 10) (by decide +kernel) (hK.2.1 10 _ rfl).2.1 ⟨rfl, rfl⟩ (zk_dg_ok qdo_12_6 (by decide +kernel)), List.forall_mem_cons.mpr ⟨zg_callV (fun w h => List.mem_cons_of_mem _ h) zg_tb_all S hK zg_Km qm462 zw5_108 zy_yX10_isNew_V (ci := 10) (by decide +kernel) (hK.2.1 10 _ rfl).2.1 ⟨rfl, rfl⟩ (zk_dg_ok qdo_12_6 (by decide +kernel)), fun _ h => absurd h List.not_mem_nil⟩⟩⟩⟩
set_option maxRecDepth 100000 in
theorem qm571 {l : Launch} {D : zk_D} {base : Nat} {Hb : Heap} : zk_Met l qK D base Hb (zg_K D base Hb) yX10_change (Jvm.Cond.code yX10_change prog_12_method_6_code 6 (some .int) :: zg_tb) qR571 qC571 := zk_met (ws' := zg_tb) (P := qP571) (AT := zg_AT) zpn_X10 rfl rfl rfl qk571 (fun s hK => zg_wd hK) (fun p e s m args below meth c s₁ Q B hml hK => qo571 B hml hK) (fun p e s m args below meth c s₁ v G0 H0 B hml hK ha hp hF q hq => absurd hq List.not_mem_nil)
set_option maxRecDepth 100000 in
def qR572 : Room := { frames := 2, cells := 0, slots := 0, locals := 44 }
set_option maxHeartbeats 4000000 in
set_option maxRecDepth 100000 in
theorem qo572 {p : Program} {l : Launch} {e : Env} {s : State} {m : MethodId} {args : Array Value} {below : List Frame} {meth : Method} {c : Code} {s₁ : State} {Q : State → Prop} {D : zk_D} {base : Nat} {Hb : Heap} (B : BodyLoose p l yX7_weigh (headSpec (Jvm.Cond.code yX7_weigh prog_9_method_4_code 5 (some .int) :: zg_tb) qR572) prog_9_method_4_code 5 (some .int) e s m args below meth c s₁) (hml : c.maxLocals = 5) (hK : zg_K D base Hb s) : zk_ok p l e (headSpec (Jvm.Cond.code yX7_weigh prog_9_method_4_code 5 (some .int) :: zg_tb) qR572).room s m args below meth c Q qK D base Hb 5 prog_9_method_4_code qP572 qC572.2.2.2.2 := by
  have S : CallFix p m c prog_9_method_4_code 5 s args (Jvm.Cond.code yX7_weigh prog_9_method_4_code 5 (some .int) :: zg_tb) RX7 := ⟨B.exec, B.bytes, hml, findClass_of_methodNamed B.named, atoms_spec (ws := (Jvm.Cond.code yX7_weigh prog_9_method_4_code 5 (some .int) :: zg_tb)) B.pre⟩
  exact ⟨List.forall_mem_cons.mpr ⟨zg_gp S (hK.2.1 7 _ rfl) (fun w h => (List.mem_cons_of_mem _ (zc7 w h))) rfl zt7_2 (List.mem_cons_of_mem _ zw2_35) rfl, List.forall_mem_cons.mpr ⟨zg_gp S (hK.2.1 7 _ rfl) (fun w h => (List.mem_cons_of_mem _ (zc7 w h))) rfl zt7_4 (List.mem_cons_of_mem _ zw2_38) rfl, List.forall_mem_cons.mpr ⟨zg_gp S (hK.2.1 7 _ rfl) (fun w h => (List.mem_cons_of_mem _ (zc7 w h))) rfl zt7_5 (List.mem_cons_of_mem _ zw2_39) rfl, List.forall_mem_cons.mpr ⟨zg_gp S (hK.2.1 9 _ rfl) (fun w h => (List.mem_cons_of_mem _ (zc9 w h))) rfl zt9_2 (List.mem_cons_of_mem _ zw4_117) rfl, List.forall_mem_cons.mpr ⟨zg_gp S (hK.2.1 7 _ rfl) (fun w h => (List.mem_cons_of_mem _ (zc7 w h))) rfl zt7_3 (List.mem_cons_of_mem _ zw2_37) rfl, List.forall_mem_cons.mpr ⟨zg_gp4 S (hK.2.1 7 _ rfl) (fun w h => (List.mem_cons_of_mem _ (zc7 w h))) rfl zt7_0 (List.mem_cons_of_mem _ zw2_32), fun _ h => absurd h List.not_mem_nil⟩⟩⟩⟩⟩⟩,
    fun _ h => absurd h List.not_mem_nil,
    fun _ h => absurd h List.not_mem_nil,
    fun _ h => absurd h List.not_mem_nil,
    fun h => absurd rfl h,
    fun _ h => absurd h List.not_mem_nil,
    List.forall_mem_cons.mpr ⟨zg_callV (fun w h => List.mem_cons_of_mem _ h) zg_tb_all S hK zg_Km qm498 zw4_210 zy_yX7_worthOf_V (ci := 7) (by decide +kernel) (hK.2.1 7 _ rfl).2.1 ⟨rfl, rfl⟩ (zk_dg_ok qdo_9_4 (by decide +kernel)), List.forall_mem_cons.mpr ⟨zg_callV (fun w h => List.mem_cons_of_mem _ h) zg_tb_all S hK zg_Km qm499 zw4_214 zy_yX7_pick_V (ci := 7) (by decide +kernel) (hK.2.1 7 _ rfl).2.1 ⟨rfl, rfl⟩ (zk_dg_ok qdo_9_4 (by decide +kernel)), fun _ h => absurd h List.not_mem_nil⟩⟩⟩
set_option maxRecDepth 100000 in
theorem qm572 {l : Launch} {D : zk_D} {base : Nat} {Hb : Heap} : zk_Met l qK D base Hb (zg_K D base Hb) yX7_weigh (Jvm.Cond.code yX7_weigh prog_9_method_4_code 5 (some .int) :: zg_tb) qR572 qC572 :=
  zk_met (ws' := zg_tb) (P := qP572) (AT := zg_AT) (by decide +kernel) rfl rfl rfl qk572 (fun s hK => zg_wd hK) (fun p e s m args below meth c s₁ Q B hml hK => qo572 B hml hK) (fun p e s m args below meth c s₁ v G0 H0 B hml hK ha hp0 hF0 q hq G H locs ls vs v' hp he hl hF hL => by
    have hq := List.mem_singleton.mp hq
    subst hq
    exact zk_from (q0 := qG572) (hd := qH572) (xs := []) B.exec B.bytes (zg_wd hK) (qo572 B hml hK) rfl rfl B.returns B.notSynchronized (fun t h => h) qg572 (fun q hq => absurd hq List.not_mem_nil) hp he hl (zq_beg3 (x := qX572.2.1) (sy := 6) (kM := qn_M) (kS := qn_saying) (kC := qn_codes) (kT := qn_textSize) (kP := qn_SC) (kA := qn_pickAt) hK.1.2.2 (by decide) (by decide +kernel) (ci := 7) (by decide +kernel) (by decide +kernel) (by decide +kernel) (by decide +kernel) (by decide +kernel) hp hF) (zk_LS_af (fs := [(0, 1003, 6)]) (ns := []) (ps := []) hL))
set_option maxRecDepth 100000 in
def qR573 : Room := { frames := 1, cells := 0, slots := 0, locals := 20 }
set_option maxHeartbeats 4000000 in
set_option maxRecDepth 100000 in
theorem qo573 {p : Program} {l : Launch} {e : Env} {s : State} {m : MethodId} {args : Array Value} {below : List Frame} {meth : Method} {c : Code} {s₁ : State} {Q : State → Prop} {D : zk_D} {base : Nat} {Hb : Heap} (B : BodyLoose p l yJ6_bitCount_0f7a4 (headSpec (Jvm.Cond.code yJ6_bitCount_0f7a4 prog_17_method_49_code 1 (some .int) :: zg_tb) qR573) prog_17_method_49_code 1 (some .int) e s m args below meth c s₁) (hml : c.maxLocals = 1) (hK : zg_K D base Hb s) : zk_ok p l e (headSpec (Jvm.Cond.code yJ6_bitCount_0f7a4 prog_17_method_49_code 1 (some .int) :: zg_tb) qR573).room s m args below meth c Q qK D base Hb 1 prog_17_method_49_code qP573 qC573.2.2.2.2 := by
  have S : CallFix p m c prog_17_method_49_code 1 s args (Jvm.Cond.code yJ6_bitCount_0f7a4 prog_17_method_49_code 1 (some .int) :: zg_tb) RJ6 := ⟨B.exec, B.bytes, hml, findClass_of_methodNamed B.named, atoms_spec (ws := (Jvm.Cond.code yJ6_bitCount_0f7a4 prog_17_method_49_code 1 (some .int) :: zg_tb)) B.pre⟩
  exact ⟨fun _ h => absurd h List.not_mem_nil,
    fun _ h => absurd h List.not_mem_nil,
    fun _ h => absurd h List.not_mem_nil,
    fun _ h => absurd h List.not_mem_nil,
    fun h => absurd rfl h,
    List.forall_mem_cons.mpr ⟨zg_kokW S (List.mem_cons_of_mem _ zw5_69) (by decide +kernel) (zk_dg_ok qdo_17_49 (by decide +kernel)), List.forall_mem_cons.mpr ⟨zg_kokW S (List.mem_cons_of_mem _ zw5_70) (by decide +kernel) (zk_dg_ok qdo_17_49 (by decide +kernel)), List.forall_mem_cons.mpr ⟨zg_kokW S (List.mem_cons_of_mem _ zw5_70) (by decide +kernel) (zk_dg_ok qdo_17_49 (by decide +kernel)), List.forall_mem_cons.mpr ⟨zg_kokW S (List.mem_cons_of_mem _ zw5_71) (by decide +kernel) (zk_dg_ok qdo_17_49 (by decide +kernel)), fun _ h => absurd h List.not_mem_nil⟩⟩⟩⟩,
    fun _ h => absurd h List.not_mem_nil⟩
set_option maxRecDepth 100000 in
theorem qm573 {l : Launch} {D : zk_D} {base : Nat} {Hb : Heap} : zk_Met l qK D base Hb (zg_K D base Hb) yJ6_bitCount_0f7a4 (Jvm.Cond.code yJ6_bitCount_0f7a4 prog_17_method_49_code 1 (some .int) :: zg_tb) qR573 qC573 := zk_met (ws' := zg_tb) (P := qP573) (AT := zg_AT) zpn_J6 rfl rfl rfl qk573 (fun s hK => zg_wd hK) (fun p e s m args below meth c s₁ Q B hml hK => qo573 B hml hK) (fun p e s m args below meth c s₁ v G0 H0 B hml hK ha hp hF q hq => absurd hq List.not_mem_nil)
set_option maxRecDepth 100000 in
def qR574 : Room := { frames := 1, cells := 0, slots := 0, locals := 20 }
set_option maxHeartbeats 4000000 in
set_option maxRecDepth 100000 in
theorem qo574 {p : Program} {l : Launch} {e : Env} {s : State} {m : MethodId} {args : Array Value} {below : List Frame} {meth : Method} {c : Code} {s₁ : State} {Q : State → Prop} {D : zk_D} {base : Nat} {Hb : Heap} (B : BodyLoose p l yJ6_bitCount_0f7a4 (headSpec (Jvm.Cond.code yJ6_bitCount_0f7a4 prog_17_method_49_code 1 (some .int) :: zg_tb) qR574) prog_17_method_49_code 1 (some .int) e s m args below meth c s₁) (hml : c.maxLocals = 1) (hK : zg_K D base Hb s) : zk_ok p l e (headSpec (Jvm.Cond.code yJ6_bitCount_0f7a4 prog_17_method_49_code 1 (some .int) :: zg_tb) qR574).room s m args below meth c Q qK D base Hb 1 prog_17_method_49_code qP574 qC574.2.2.2.2 := by
  have S : CallFix p m c prog_17_method_49_code 1 s args (Jvm.Cond.code yJ6_bitCount_0f7a4 prog_17_method_49_code 1 (some .int) :: zg_tb) RJ6 := ⟨B.exec, B.bytes, hml, findClass_of_methodNamed B.named, atoms_spec (ws := (Jvm.Cond.code yJ6_bitCount_0f7a4 prog_17_method_49_code 1 (some .int) :: zg_tb)) B.pre⟩
  exact ⟨fun _ h => absurd h List.not_mem_nil,
    fun _ h => absurd h List.not_mem_nil,
    fun _ h => absurd h List.not_mem_nil,
    fun _ h => absurd h List.not_mem_nil,
    fun h => absurd rfl h,
    List.forall_mem_cons.mpr ⟨zg_kokW S (List.mem_cons_of_mem _ zw5_69) (by decide +kernel) (zk_dg_ok qdo_17_49 (by decide +kernel)), List.forall_mem_cons.mpr ⟨zg_kokW S (List.mem_cons_of_mem _ zw5_70) (by decide +kernel) (zk_dg_ok qdo_17_49 (by decide +kernel)), List.forall_mem_cons.mpr ⟨zg_kokW S (List.mem_cons_of_mem _ zw5_70) (by decide +kernel) (zk_dg_ok qdo_17_49 (by decide +kernel)), List.forall_mem_cons.mpr ⟨zg_kokW S (List.mem_cons_of_mem _ zw5_71) (by decide +kernel) (zk_dg_ok qdo_17_49 (by decide +kernel)), fun _ h => absurd h List.not_mem_nil⟩⟩⟩⟩,
    fun _ h => absurd h List.not_mem_nil⟩
set_option maxRecDepth 100000 in
theorem qm574 {l : Launch} {D : zk_D} {base : Nat} {Hb : Heap} : zk_Met l qK D base Hb (zg_K D base Hb) yJ6_bitCount_0f7a4 (Jvm.Cond.code yJ6_bitCount_0f7a4 prog_17_method_49_code 1 (some .int) :: zg_tb) qR574 qC574 := zk_met (ws' := zg_tb) (P := qP574) (AT := zg_AT) zpn_J6 rfl rfl rfl qk574 (fun s hK => zg_wd hK) (fun p e s m args below meth c s₁ Q B hml hK => qo574 B hml hK) (fun p e s m args below meth c s₁ v G0 H0 B hml hK ha hp hF q hq => absurd hq List.not_mem_nil)
set_option maxRecDepth 100000 in
def qR575 : Room := { frames := 1, cells := 0, slots := 0, locals := 20 }
set_option maxHeartbeats 4000000 in
set_option maxRecDepth 100000 in
theorem qo575 {p : Program} {l : Launch} {e : Env} {s : State} {m : MethodId} {args : Array Value} {below : List Frame} {meth : Method} {c : Code} {s₁ : State} {Q : State → Prop} {D : zk_D} {base : Nat} {Hb : Heap} (B : BodyLoose p l yJ6_bitCount_0f7a4 (headSpec (Jvm.Cond.code yJ6_bitCount_0f7a4 prog_17_method_49_code 1 (some .int) :: zg_tb) qR575) prog_17_method_49_code 1 (some .int) e s m args below meth c s₁) (hml : c.maxLocals = 1) (hK : zg_K D base Hb s) : zk_ok p l e (headSpec (Jvm.Cond.code yJ6_bitCount_0f7a4 prog_17_method_49_code 1 (some .int) :: zg_tb) qR575).room s m args below meth c Q qK D base Hb 1 prog_17_method_49_code qP575 qC575.2.2.2.2 := by
  have S : CallFix p m c prog_17_method_49_code 1 s args (Jvm.Cond.code yJ6_bitCount_0f7a4 prog_17_method_49_code 1 (some .int) :: zg_tb) RJ6 := ⟨B.exec, B.bytes, hml, findClass_of_methodNamed B.named, atoms_spec (ws := (Jvm.Cond.code yJ6_bitCount_0f7a4 prog_17_method_49_code 1 (some .int) :: zg_tb)) B.pre⟩
  exact ⟨fun _ h => absurd h List.not_mem_nil,
    fun _ h => absurd h List.not_mem_nil,
    fun _ h => absurd h List.not_mem_nil,
    fun _ h => absurd h List.not_mem_nil,
    fun h => absurd rfl h,
    List.forall_mem_cons.mpr ⟨zg_kokW S (List.mem_cons_of_mem _ zw5_69) (by decide +kernel) (zk_dg_ok qdo_17_49 (by decide +kernel)), List.forall_mem_cons.mpr ⟨zg_kokW S (List.mem_cons_of_mem _ zw5_70) (by decide +kernel) (zk_dg_ok qdo_17_49 (by decide +kernel)), List.forall_mem_cons.mpr ⟨zg_kokW S (List.mem_cons_of_mem _ zw5_70) (by decide +kernel) (zk_dg_ok qdo_17_49 (by decide +kernel)), List.forall_mem_cons.mpr ⟨zg_kokW S (List.mem_cons_of_mem _ zw5_71) (by decide +kernel) (zk_dg_ok qdo_17_49 (by decide +kernel)), fun _ h => absurd h List.not_mem_nil⟩⟩⟩⟩,
    fun _ h => absurd h List.not_mem_nil⟩
set_option maxRecDepth 100000 in
theorem qm575 {l : Launch} {D : zk_D} {base : Nat} {Hb : Heap} : zk_Met l qK D base Hb (zg_K D base Hb) yJ6_bitCount_0f7a4 (Jvm.Cond.code yJ6_bitCount_0f7a4 prog_17_method_49_code 1 (some .int) :: zg_tb) qR575 qC575 := zk_met (ws' := zg_tb) (P := qP575) (AT := zg_AT) zpn_J6 rfl rfl rfl qk575 (fun s hK => zg_wd hK) (fun p e s m args below meth c s₁ Q B hml hK => qo575 B hml hK) (fun p e s m args below meth c s₁ v G0 H0 B hml hK ha hp hF q hq => absurd hq List.not_mem_nil)
set_option maxRecDepth 100000 in
def qR576 : Room := { frames := 1, cells := 0, slots := 0, locals := 20 }
set_option maxHeartbeats 4000000 in
set_option maxRecDepth 100000 in
theorem qo576 {p : Program} {l : Launch} {e : Env} {s : State} {m : MethodId} {args : Array Value} {below : List Frame} {meth : Method} {c : Code} {s₁ : State} {Q : State → Prop} {D : zk_D} {base : Nat} {Hb : Heap} (B : BodyLoose p l yJ6_bitCount_0f7a4 (headSpec (Jvm.Cond.code yJ6_bitCount_0f7a4 prog_17_method_49_code 1 (some .int) :: zg_tb) qR576) prog_17_method_49_code 1 (some .int) e s m args below meth c s₁) (hml : c.maxLocals = 1) (hK : zg_K D base Hb s) : zk_ok p l e (headSpec (Jvm.Cond.code yJ6_bitCount_0f7a4 prog_17_method_49_code 1 (some .int) :: zg_tb) qR576).room s m args below meth c Q qK D base Hb 1 prog_17_method_49_code qP576 qC576.2.2.2.2 := by
  have S : CallFix p m c prog_17_method_49_code 1 s args (Jvm.Cond.code yJ6_bitCount_0f7a4 prog_17_method_49_code 1 (some .int) :: zg_tb) RJ6 := ⟨B.exec, B.bytes, hml, findClass_of_methodNamed B.named, atoms_spec (ws := (Jvm.Cond.code yJ6_bitCount_0f7a4 prog_17_method_49_code 1 (some .int) :: zg_tb)) B.pre⟩
  exact ⟨fun _ h => absurd h List.not_mem_nil,
    fun _ h => absurd h List.not_mem_nil,
    fun _ h => absurd h List.not_mem_nil,
    fun _ h => absurd h List.not_mem_nil,
    fun h => absurd rfl h,
    List.forall_mem_cons.mpr ⟨zg_kokW S (List.mem_cons_of_mem _ zw5_69) (by decide +kernel) (zk_dg_ok qdo_17_49 (by decide +kernel)), List.forall_mem_cons.mpr ⟨zg_kokW S (List.mem_cons_of_mem _ zw5_70) (by decide +kernel) (zk_dg_ok qdo_17_49 (by decide +kernel)), List.forall_mem_cons.mpr ⟨zg_kokW S (List.mem_cons_of_mem _ zw5_70) (by decide +kernel) (zk_dg_ok qdo_17_49 (by decide +kernel)), List.forall_mem_cons.mpr ⟨zg_kokW S (List.mem_cons_of_mem _ zw5_71) (by decide +kernel) (zk_dg_ok qdo_17_49 (by decide +kernel)), fun _ h => absurd h List.not_mem_nil⟩⟩⟩⟩,
    fun _ h => absurd h List.not_mem_nil⟩
set_option maxRecDepth 100000 in
theorem qm576 {l : Launch} {D : zk_D} {base : Nat} {Hb : Heap} : zk_Met l qK D base Hb (zg_K D base Hb) yJ6_bitCount_0f7a4 (Jvm.Cond.code yJ6_bitCount_0f7a4 prog_17_method_49_code 1 (some .int) :: zg_tb) qR576 qC576 := zk_met (ws' := zg_tb) (P := qP576) (AT := zg_AT) zpn_J6 rfl rfl rfl qk576 (fun s hK => zg_wd hK) (fun p e s m args below meth c s₁ Q B hml hK => qo576 B hml hK) (fun p e s m args below meth c s₁ v G0 H0 B hml hK ha hp hF q hq => absurd hq List.not_mem_nil)
set_option maxRecDepth 100000 in
def qR577 : Room := { frames := 1, cells := 0, slots := 0, locals := 20 }
set_option maxHeartbeats 4000000 in
set_option maxRecDepth 100000 in
theorem qo577 {p : Program} {l : Launch} {e : Env} {s : State} {m : MethodId} {args : Array Value} {below : List Frame} {meth : Method} {c : Code} {s₁ : State} {Q : State → Prop} {D : zk_D} {base : Nat} {Hb : Heap} (B : BodyLoose p l yJ6_bitCount_0f7a4 (headSpec (Jvm.Cond.code yJ6_bitCount_0f7a4 prog_17_method_49_code 1 (some .int) :: zg_tb) qR577) prog_17_method_49_code 1 (some .int) e s m args below meth c s₁) (hml : c.maxLocals = 1) (hK : zg_K D base Hb s) : zk_ok p l e (headSpec (Jvm.Cond.code yJ6_bitCount_0f7a4 prog_17_method_49_code 1 (some .int) :: zg_tb) qR577).room s m args below meth c Q qK D base Hb 1 prog_17_method_49_code qP577 qC577.2.2.2.2 := by
  have S : CallFix p m c prog_17_method_49_code 1 s args (Jvm.Cond.code yJ6_bitCount_0f7a4 prog_17_method_49_code 1 (some .int) :: zg_tb) RJ6 := ⟨B.exec, B.bytes, hml, findClass_of_methodNamed B.named, atoms_spec (ws := (Jvm.Cond.code yJ6_bitCount_0f7a4 prog_17_method_49_code 1 (some .int) :: zg_tb)) B.pre⟩
  exact ⟨fun _ h => absurd h List.not_mem_nil,
    fun _ h => absurd h List.not_mem_nil,
    fun _ h => absurd h List.not_mem_nil,
    fun _ h => absurd h List.not_mem_nil,
    fun h => absurd rfl h,
    List.forall_mem_cons.mpr ⟨zg_kokW S (List.mem_cons_of_mem _ zw5_69) (by decide +kernel) (zk_dg_ok qdo_17_49 (by decide +kernel)), List.forall_mem_cons.mpr ⟨zg_kokW S (List.mem_cons_of_mem _ zw5_70) (by decide +kernel) (zk_dg_ok qdo_17_49 (by decide +kernel)), List.forall_mem_cons.mpr ⟨zg_kokW S (List.mem_cons_of_mem _ zw5_70) (by decide +kernel) (zk_dg_ok qdo_17_49 (by decide +kernel)), List.forall_mem_cons.mpr ⟨zg_kokW S (List.mem_cons_of_mem _ zw5_71) (by decide +kernel) (zk_dg_ok qdo_17_49 (by decide +kernel)), fun _ h => absurd h List.not_mem_nil⟩⟩⟩⟩,
    fun _ h => absurd h List.not_mem_nil⟩
set_option maxRecDepth 100000 in
theorem qm577 {l : Launch} {D : zk_D} {base : Nat} {Hb : Heap} : zk_Met l qK D base Hb (zg_K D base Hb) yJ6_bitCount_0f7a4 (Jvm.Cond.code yJ6_bitCount_0f7a4 prog_17_method_49_code 1 (some .int) :: zg_tb) qR577 qC577 := zk_met (ws' := zg_tb) (P := qP577) (AT := zg_AT) zpn_J6 rfl rfl rfl qk577 (fun s hK => zg_wd hK) (fun p e s m args below meth c s₁ Q B hml hK => qo577 B hml hK) (fun p e s m args below meth c s₁ v G0 H0 B hml hK ha hp hF q hq => absurd hq List.not_mem_nil)
set_option maxRecDepth 100000 in
def qR578 : Room := { frames := 4, cells := 0, slots := 0, locals := 86 }
set_option maxHeartbeats 4000000 in
set_option maxRecDepth 100000 in
theorem qo578 {p : Program} {l : Launch} {e : Env} {s : State} {m : MethodId} {args : Array Value} {below : List Frame} {meth : Method} {c : Code} {s₁ : State} {Q : State → Prop} {D : zk_D} {base : Nat} {Hb : Heap} (B : BodyLoose p l yX11_round (headSpec (Jvm.Cond.code yX11_round prog_1_method_33_code 10 (some .int) :: zg_tb) qR578) prog_1_method_33_code 10 (some .int) e s m args below meth c s₁) (hml : c.maxLocals = 10) (hK : zg_K D base Hb s) : zk_ok p l e (headSpec (Jvm.Cond.code yX11_round prog_1_method_33_code 10 (some .int) :: zg_tb) qR578).room s m args below meth c Q qK D base Hb 10 prog_1_method_33_code qP578 qC578.2.2.2.2 := by
  have S : CallFix p m c prog_1_method_33_code 10 s args (Jvm.Cond.code yX11_round prog_1_method_33_code 10 (some .int) :: zg_tb) RX11 := ⟨B.exec, B.bytes, hml, findClass_of_methodNamed B.named, atoms_spec (ws := (Jvm.Cond.code yX11_round prog_1_method_33_code 10 (some .int) :: zg_tb)) B.pre⟩
  exact ⟨List.forall_mem_cons.mpr ⟨zg_gp S (hK.2.1 11 _ rfl) (fun w h => (List.mem_cons_of_mem _ (zc11 w h))) rfl zt11_13 (List.mem_cons_of_mem _ zw2_66) rfl, List.forall_mem_cons.mpr ⟨zg_gp4 S (hK.2.1 11 _ rfl) (fun w h => (List.mem_cons_of_mem _ (zc11 w h))) rfl zt11_6 (List.mem_cons_of_mem _ zw2_59), List.forall_mem_cons.mpr ⟨zg_gp S (hK.2.1 10 _ rfl) (fun w h => (List.mem_cons_of_mem _ (zc10 w h))) rfl zt10_4 (List.mem_cons_of_mem _ zw1_225) rfl, List.forall_mem_cons.mpr ⟨zg_gp4 S (hK.2.1 11 _ rfl) (fun w h => (List.mem_cons_of_mem _ (zc11 w h))) rfl zt11_9 (List.mem_cons_of_mem _ zw2_62), List.forall_mem_cons.mpr ⟨zg_gp4 S (hK.2.1 10 _ rfl) (fun w h => (List.mem_cons_of_mem _ (zc10 w h))) rfl zt10_3 (List.mem_cons_of_mem _ zw1_223), fun _ h => absurd h List.not_mem_nil⟩⟩⟩⟩⟩,
    fun _ h => absurd h List.not_mem_nil,
    fun _ h => absurd h List.not_mem_nil,
    fun _ h => absurd h List.not_mem_nil,
    fun h => absurd rfl h,
    fun _ h => absurd h List.not_mem_nil,
    List.forall_mem_cons.mpr ⟨zg_callV (fun w h => List.mem_cons_of_mem _ h) zg_tb_all S hK zg_Km qm472 zw4_142 zy_yX11_letterAt_V (ci := 11) (by decide +kernel) (hK.2.1 11 _ rfl).2.1 ⟨rfl, rfl⟩ (zk_dg_ok qdo_1_33 (by decide +kernel)), List.forall_mem_cons.mpr ⟨zg_callV (fun w h => List.mem_cons_of_mem _ h) zg_tb_all S hK zg_Km qm494 zw4_169 zy_yX11_learn_V (ci := 11) (by decide +kernel) (hK.2.1 11 _ rfl).2.1 ⟨rfl, rfl⟩ (zk_dg_ok qdo_1_33 (by decide +kernel)), List.forall_mem_cons.mpr ⟨zg_callV (fun w h => List.mem_cons_of_mem _ h) zg_tb_all S hK zg_Km qm571 zw5_99 zy_yX10_change_V (ci := 10) (by decide +kernel) (hK.2.1 10 _ rfl).2.1 ⟨rfl, rfl⟩ (zk_dg_ok qdo_1_33 (by decide +kernel)), List.forall_mem_cons.mpr ⟨zg_callV (fun w h => List.mem_cons_of_mem _ h) zg_tb_all S hK zg_Km qm572 zw4_206 zy_yX7_weigh_V (ci := 7) (by decide +kernel) (hK.2.1 7 _ rfl).2.1 ⟨rfl, rfl⟩ (zk_dg_ok qdo_1_33 (by decide +kernel)), List.forall_mem_cons.mpr ⟨zg_callS (fun w h => List.mem_cons_of_mem _ h) zg_tb_all S hK zg_Km qm573 zw5_66 zy_yJ6_bitCount_0f7a4_S (by decide +kernel) ⟨rfl, rfl⟩ (zk_dg_ok qdo_1_33 (by decide +kernel)), List.forall_mem_cons.mpr ⟨zg_callS (fun w h => List.mem_cons_of_mem _ h) zg_tb_all S hK zg_Km qm574 zw5_66 zy_yJ6_bitCount_0f7a4_S (by decide +kernel) ⟨rfl, rfl⟩ (zk_dg_ok qdo_1_33 (by decide +kernel)), List.forall_mem_cons.mpr ⟨zg_callS (fun w h => List.mem_cons_of_mem _ h) zg_tb_all S hK zg_Km qm575 zw5_66 zy_yJ6_bitCount_0f7a4_S (by decide +kernel) ⟨rfl, rfl⟩ (zk_dg_ok qdo_1_33 (by decide +kernel)), List.forall_mem_cons.mpr ⟨zg_callS (fun w h => List.mem_cons_of_mem _ h) zg_tb_all S hK zg_Km qm576 zw5_66 zy_yJ6_bitCount_0f7a4_S (by decide +kernel) ⟨rfl, rfl⟩ (zk_dg_ok qdo_1_33 (by decide +kernel)), List.forall_mem_cons.mpr ⟨zg_callS (fun w h => List.mem_cons_of_mem _ h) zg_tb_all S hK zg_Km qm556 zw5_63 zy_yX11_isAhead_S (by decide +kernel) ⟨rfl, rfl⟩ (zk_dg_ok qdo_1_33 (by decide +kernel)), List.forall_mem_cons.mpr ⟨zg_callS (fun w h => List.mem_cons_of_mem _ h) zg_tb_all S hK zg_Km qm577 zw5_66 zy_yJ6_bitCount_0f7a4_S (by decide +kernel) ⟨rfl, rfl⟩ (zk_dg_ok qdo_1_33 (by decide +kernel)), fun _ h => absurd h List.not_mem_nil⟩⟩⟩⟩⟩⟩⟩⟩⟩⟩⟩
set_option maxRecDepth 100000 in
theorem qm578 {l : Launch} {D : zk_D} {base : Nat} {Hb : Heap} : zk_Met l qK D base Hb (zg_K D base Hb) yX11_round (Jvm.Cond.code yX11_round prog_1_method_33_code 10 (some .int) :: zg_tb) qR578 qC578 := zk_met (ws' := zg_tb) (P := qP578) (AT := zg_AT) zpn_X11 rfl rfl rfl qk578 (fun s hK => zg_wd hK) (fun p e s m args below meth c s₁ Q B hml hK => qo578 B hml hK) (fun p e s m args below meth c s₁ v G0 H0 B hml hK ha hp hF q hq => absurd hq List.not_mem_nil)
set_option maxRecDepth 100000 in
def qR579 : Room := { frames := 1, cells := 0, slots := 0, locals := 20 }
set_option maxHeartbeats 4000000 in
set_option maxRecDepth 100000 in
theorem qo579 {p : Program} {l : Launch} {e : Env} {s : State} {m : MethodId} {args : Array Value} {below : List Frame} {meth : Method} {c : Code} {s₁ : State} {Q : State → Prop} {D : zk_D} {base : Nat} {Hb : Heap} (B : BodyLoose p l yX12_in (headSpec (Jvm.Cond.code yX12_in prog_14_method_1_code 3 (some .boolean) :: zg_tb) qR579) prog_14_method_1_code 3 (some .boolean) e s m args below meth c s₁) (hml : c.maxLocals = 3) (hK : zg_K D base Hb s) : zk_ok p l e (headSpec (Jvm.Cond.code yX12_in prog_14_method_1_code 3 (some .boolean) :: zg_tb) qR579).room s m args below meth c Q qK D base Hb 3 prog_14_method_1_code qP579 qC579.2.2.2.2 := by
  have S : CallFix p m c prog_14_method_1_code 3 s args (Jvm.Cond.code yX12_in prog_14_method_1_code 3 (some .boolean) :: zg_tb) RX12 := ⟨B.exec, B.bytes, hml, findClass_of_methodNamed B.named, atoms_spec (ws := (Jvm.Cond.code yX12_in prog_14_method_1_code 3 (some .boolean) :: zg_tb)) B.pre⟩
  exact ⟨fun _ h => absurd h List.not_mem_nil,
    fun _ h => absurd h List.not_mem_nil,
    fun _ h => absurd h List.not_mem_nil,
    fun _ h => absurd h List.not_mem_nil,
    fun h => absurd rfl h,
    fun _ h => absurd h List.not_mem_nil,
    fun _ h => absurd h List.not_mem_nil⟩
set_option maxRecDepth 100000 in
theorem qm579 {l : Launch} {D : zk_D} {base : Nat} {Hb : Heap} : zk_Met l qK D base Hb (zg_K D base Hb) yX12_in (Jvm.Cond.code yX12_in prog_14_method_1_code 3 (some .boolean) :: zg_tb) qR579 qC579 := zk_met (ws' := zg_tb) (P := qP579) (AT := zg_AT) zpn_X12 rfl rfl rfl qk579 (fun s hK => zg_wd hK) (fun p e s m args below meth c s₁ Q B hml hK => qo579 B hml hK) (fun p e s m args below meth c s₁ v G0 H0 B hml hK ha hp hF q hq => absurd hq List.not_mem_nil)
set_option maxRecDepth 100000 in
def qR580 : Room := { frames := 1, cells := 0, slots := 0, locals := 20 }
set_option maxHeartbeats 4000000 in
set_option maxRecDepth 100000 in
theorem qo580 {p : Program} {l : Launch} {e : Env} {s : State} {m : MethodId} {args : Array Value} {below : List Frame} {meth : Method} {c : Code} {s₁ : State} {Q : State → Prop} {D : zk_D} {base : Nat} {Hb : Heap} (B : BodyLoose p l yJ6_bitCount_0f7a4 (headSpec (Jvm.Cond.code yJ6_bitCount_0f7a4 prog_17_method_49_code 1 (some .int) :: zg_tb) qR580) prog_17_method_49_code 1 (some .int) e s m args below meth c s₁) (hml : c.maxLocals = 1) (hK : zg_K D base Hb s) : zk_ok p l e (headSpec (Jvm.Cond.code yJ6_bitCount_0f7a4 prog_17_method_49_code 1 (some .int) :: zg_tb) qR580).room s m args below meth c Q qK D base Hb 1 prog_17_method_49_code qP580 qC580.2.2.2.2 := by
  have S : CallFix p m c prog_17_method_49_code 1 s args (Jvm.Cond.code yJ6_bitCount_0f7a4 prog_17_method_49_code 1 (some .int) :: zg_tb) RJ6 := ⟨B.exec, B.bytes, hml, findClass_of_methodNamed B.named, atoms_spec (ws := (Jvm.Cond.code yJ6_bitCount_0f7a4 prog_17_method_49_code 1 (some .int) :: zg_tb)) B.pre⟩
  exact ⟨fun _ h => absurd h List.not_mem_nil,
    fun _ h => absurd h List.not_mem_nil,
    fun _ h => absurd h List.not_mem_nil,
    fun _ h => absurd h List.not_mem_nil,
    fun h => absurd rfl h,
    List.forall_mem_cons.mpr ⟨zg_kokW S (List.mem_cons_of_mem _ zw5_69) (by decide +kernel) (zk_dg_ok qdo_17_49 (by decide +kernel)), List.forall_mem_cons.mpr ⟨zg_kokW S (List.mem_cons_of_mem _ zw5_70) (by decide +kernel) (zk_dg_ok qdo_17_49 (by decide +kernel)), List.forall_mem_cons.mpr ⟨zg_kokW S (List.mem_cons_of_mem _ zw5_70) (by decide +kernel) (zk_dg_ok qdo_17_49 (by decide +kernel)), List.forall_mem_cons.mpr ⟨zg_kokW S (List.mem_cons_of_mem _ zw5_71) (by decide +kernel) (zk_dg_ok qdo_17_49 (by decide +kernel)), fun _ h => absurd h List.not_mem_nil⟩⟩⟩⟩,
    fun _ h => absurd h List.not_mem_nil⟩
set_option maxRecDepth 100000 in
theorem qm580 {l : Launch} {D : zk_D} {base : Nat} {Hb : Heap} : zk_Met l qK D base Hb (zg_K D base Hb) yJ6_bitCount_0f7a4 (Jvm.Cond.code yJ6_bitCount_0f7a4 prog_17_method_49_code 1 (some .int) :: zg_tb) qR580 qC580 := zk_met (ws' := zg_tb) (P := qP580) (AT := zg_AT) zpn_J6 rfl rfl rfl qk580 (fun s hK => zg_wd hK) (fun p e s m args below meth c s₁ Q B hml hK => qo580 B hml hK) (fun p e s m args below meth c s₁ v G0 H0 B hml hK ha hp hF q hq => absurd hq List.not_mem_nil)
set_option maxRecDepth 100000 in
def qR581 : Room := { frames := 1, cells := 0, slots := 0, locals := 20 }
set_option maxHeartbeats 4000000 in
set_option maxRecDepth 100000 in
theorem qo581 {p : Program} {l : Launch} {e : Env} {s : State} {m : MethodId} {args : Array Value} {below : List Frame} {meth : Method} {c : Code} {s₁ : State} {Q : State → Prop} {D : zk_D} {base : Nat} {Hb : Heap} (B : BodyLoose p l yJ6_bitCount_0f7a4 (headSpec (Jvm.Cond.code yJ6_bitCount_0f7a4 prog_17_method_49_code 1 (some .int) :: zg_tb) qR581) prog_17_method_49_code 1 (some .int) e s m args below meth c s₁) (hml : c.maxLocals = 1) (hK : zg_K D base Hb s) : zk_ok p l e (headSpec (Jvm.Cond.code yJ6_bitCount_0f7a4 prog_17_method_49_code 1 (some .int) :: zg_tb) qR581).room s m args below meth c Q qK D base Hb 1 prog_17_method_49_code qP581 qC581.2.2.2.2 := by
  have S : CallFix p m c prog_17_method_49_code 1 s args (Jvm.Cond.code yJ6_bitCount_0f7a4 prog_17_method_49_code 1 (some .int) :: zg_tb) RJ6 := ⟨B.exec, B.bytes, hml, findClass_of_methodNamed B.named, atoms_spec (ws := (Jvm.Cond.code yJ6_bitCount_0f7a4 prog_17_method_49_code 1 (some .int) :: zg_tb)) B.pre⟩
  exact ⟨fun _ h => absurd h List.not_mem_nil,
    fun _ h => absurd h List.not_mem_nil,
    fun _ h => absurd h List.not_mem_nil,
    fun _ h => absurd h List.not_mem_nil,
    fun h => absurd rfl h,
    List.forall_mem_cons.mpr ⟨zg_kokW S (List.mem_cons_of_mem _ zw5_69) (by decide +kernel) (zk_dg_ok qdo_17_49 (by decide +kernel)), List.forall_mem_cons.mpr ⟨zg_kokW S (List.mem_cons_of_mem _ zw5_70) (by decide +kernel) (zk_dg_ok qdo_17_49 (by decide +kernel)), List.forall_mem_cons.mpr ⟨zg_kokW S (List.mem_cons_of_mem _ zw5_70) (by decide +kernel) (zk_dg_ok qdo_17_49 (by decide +kernel)), List.forall_mem_cons.mpr ⟨zg_kokW S (List.mem_cons_of_mem _ zw5_71) (by decide +kernel) (zk_dg_ok qdo_17_49 (by decide +kernel)), fun _ h => absurd h List.not_mem_nil⟩⟩⟩⟩,
    fun _ h => absurd h List.not_mem_nil⟩
set_option maxRecDepth 100000 in
theorem qm581 {l : Launch} {D : zk_D} {base : Nat} {Hb : Heap} : zk_Met l qK D base Hb (zg_K D base Hb) yJ6_bitCount_0f7a4 (Jvm.Cond.code yJ6_bitCount_0f7a4 prog_17_method_49_code 1 (some .int) :: zg_tb) qR581 qC581 := zk_met (ws' := zg_tb) (P := qP581) (AT := zg_AT) zpn_J6 rfl rfl rfl qk581 (fun s hK => zg_wd hK) (fun p e s m args below meth c s₁ Q B hml hK => qo581 B hml hK) (fun p e s m args below meth c s₁ v G0 H0 B hml hK ha hp hF q hq => absurd hq List.not_mem_nil)
set_option maxRecDepth 100000 in
def qR582 : Room := { frames := 1, cells := 0, slots := 0, locals := 20 }
set_option maxHeartbeats 4000000 in
set_option maxRecDepth 100000 in
theorem qo582 {p : Program} {l : Launch} {e : Env} {s : State} {m : MethodId} {args : Array Value} {below : List Frame} {meth : Method} {c : Code} {s₁ : State} {Q : State → Prop} {D : zk_D} {base : Nat} {Hb : Heap} (B : BodyLoose p l yX12_has (headSpec (Jvm.Cond.code yX12_has prog_14_method_64_code 6 (some .boolean) :: zg_tb) qR582) prog_14_method_64_code 6 (some .boolean) e s m args below meth c s₁) (hml : c.maxLocals = 6) (hK : zg_K D base Hb s) : zk_ok p l e (headSpec (Jvm.Cond.code yX12_has prog_14_method_64_code 6 (some .boolean) :: zg_tb) qR582).room s m args below meth c Q qK D base Hb 6 prog_14_method_64_code qP582 qC582.2.2.2.2 := by
  have S : CallFix p m c prog_14_method_64_code 6 s args (Jvm.Cond.code yX12_has prog_14_method_64_code 6 (some .boolean) :: zg_tb) RX12 := ⟨B.exec, B.bytes, hml, findClass_of_methodNamed B.named, atoms_spec (ws := (Jvm.Cond.code yX12_has prog_14_method_64_code 6 (some .boolean) :: zg_tb)) B.pre⟩
  exact ⟨fun _ h => absurd h List.not_mem_nil,
    fun _ h => absurd h List.not_mem_nil,
    fun _ h => absurd h List.not_mem_nil,
    fun _ h => absurd h List.not_mem_nil,
    fun h => absurd rfl h,
    fun _ h => absurd h List.not_mem_nil,
    fun _ h => absurd h List.not_mem_nil⟩
set_option maxRecDepth 100000 in
theorem qm582 {l : Launch} {D : zk_D} {base : Nat} {Hb : Heap} : zk_Met l qK D base Hb (zg_K D base Hb) yX12_has (Jvm.Cond.code yX12_has prog_14_method_64_code 6 (some .boolean) :: zg_tb) qR582 qC582 := zk_met (ws' := zg_tb) (P := qP582) (AT := zg_AT) zpn_X12 rfl rfl rfl qk582 (fun s hK => zg_wd hK) (fun p e s m args below meth c s₁ Q B hml hK => qo582 B hml hK) (fun p e s m args below meth c s₁ v G0 H0 B hml hK ha hp hF q hq => absurd hq List.not_mem_nil)
set_option maxRecDepth 100000 in
def qR583 : Room := { frames := 3, cells := 0, slots := 0, locals := 64 }
set_option maxHeartbeats 4000000 in
set_option maxRecDepth 100000 in
theorem qo583 {p : Program} {l : Launch} {e : Env} {s : State} {m : MethodId} {args : Array Value} {below : List Frame} {meth : Method} {c : Code} {s₁ : State} {Q : State → Prop} {D : zk_D} {base : Nat} {Hb : Heap} (B : BodyLoose p l yX12_weigh (headSpec (Jvm.Cond.code yX12_weigh prog_14_method_65_code 16 (some .int) :: zg_tb) qR583) prog_14_method_65_code 16 (some .int) e s m args below meth c s₁) (hml : c.maxLocals = 16) (hK : zg_K D base Hb s) : zk_ok p l e (headSpec (Jvm.Cond.code yX12_weigh prog_14_method_65_code 16 (some .int) :: zg_tb) qR583).room s m args below meth c Q qK D base Hb 16 prog_14_method_65_code qP583 qC583.2.2.2.2 := by
  have S : CallFix p m c prog_14_method_65_code 16 s args (Jvm.Cond.code yX12_weigh prog_14_method_65_code 16 (some .int) :: zg_tb) RX12 := ⟨B.exec, B.bytes, hml, findClass_of_methodNamed B.named, atoms_spec (ws := (Jvm.Cond.code yX12_weigh prog_14_method_65_code 16 (some .int) :: zg_tb)) B.pre⟩
  exact ⟨List.forall_mem_cons.mpr ⟨zg_gp S (hK.2.1 12 _ rfl) (fun w h => (List.mem_cons_of_mem _ (zc12 w h))) rfl zt12_52 (List.mem_cons_of_mem _ zw5_211) rfl, List.forall_mem_cons.mpr ⟨zg_gp S (hK.2.1 12 _ rfl) (fun w h => (List.mem_cons_of_mem _ (zc12 w h))) rfl zt12_44 (List.mem_cons_of_mem _ zw5_203) rfl, List.forall_mem_cons.mpr ⟨zg_gp4 S (hK.2.1 12 _ rfl) (fun w h => (List.mem_cons_of_mem _ (zc12 w h))) rfl zt12_48 (List.mem_cons_of_mem _ zw5_207), List.forall_mem_cons.mpr ⟨zg_gp4 S (hK.2.1 12 _ rfl) (fun w h => (List.mem_cons_of_mem _ (zc12 w h))) rfl zt12_32 (List.mem_cons_of_mem _ zw5_191), List.forall_mem_cons.mpr ⟨zg_gp4 S (hK.2.1 12 _ rfl) (fun w h => (List.mem_cons_of_mem _ (zc12 w h))) rfl zt12_34 (List.mem_cons_of_mem _ zw5_193), List.forall_mem_cons.mpr ⟨zg_gp4 S (hK.2.1 12 _ rfl) (fun w h => (List.mem_cons_of_mem _ (zc12 w h))) rfl zt12_51 (List.mem_cons_of_mem _ zw5_210), fun _ h => absurd h List.not_mem_nil⟩⟩⟩⟩⟩⟩,
    fun _ h => absurd h List.not_mem_nil,
    fun _ h => absurd h List.not_mem_nil,
    fun _ h => absurd h List.not_mem_nil,
    fun h => absurd rfl h,
    List.forall_mem_cons.mpr ⟨zg_kokL S (List.mem_cons_of_mem _ zw7_134) (by decide +kernel) (zk_dg_ok qdo_14_65 (by decide +kernel)), fun _ h => absurd h List.not_mem_nil⟩,
    List.forall_mem_cons.mpr ⟨zg_callS (fun w h => List.mem_cons_of_mem _ h) zg_tb_all S hK zg_Km qm582 zw7_131 zy_yX12_has_S (by decide +kernel) ⟨rfl, rfl⟩ (zk_dg_ok qdo_14_65 (by decide +kernel)), List.forall_mem_cons.mpr ⟨zg_callS (fun w h => List.mem_cons_of_mem _ h) zg_tb_all S hK zg_Km qm510 zw7_131 zy_yX12_has_S (by decide +kernel) ⟨rfl, rfl⟩ (zk_dg_ok qdo_14_65 (by decide +kernel)), List.forall_mem_cons.mpr ⟨zg_callV (fun w h => List.mem_cons_of_mem _ h) zg_tb_all S hK zg_Km qm514 zw7_135 zy_yX12_put_V (ci := 12) (by decide +kernel) (hK.2.1 12 _ rfl).2.1 ⟨rfl, rfl⟩ (zk_dg_ok qdo_14_65 (by decide +kernel)), fun _ h => absurd h List.not_mem_nil⟩⟩⟩⟩
set_option maxRecDepth 100000 in
theorem qm583 {l : Launch} {D : zk_D} {base : Nat} {Hb : Heap} : zk_Met l qK D base Hb (zg_K D base Hb) yX12_weigh (Jvm.Cond.code yX12_weigh prog_14_method_65_code 16 (some .int) :: zg_tb) qR583 qC583 := zk_met (ws' := zg_tb) (P := qP583) (AT := zg_AT) zpn_X12 rfl rfl rfl qk583 (fun s hK => zg_wd hK) (fun p e s m args below meth c s₁ Q B hml hK => qo583 B hml hK) (fun p e s m args below meth c s₁ v G0 H0 B hml hK ha hp hF q hq => absurd hq List.not_mem_nil)
set_option maxRecDepth 100000 in
def qR584 : Room := { frames := 4, cells := 0, slots := 0, locals := 99 }
set_option maxHeartbeats 4000000 in
set_option maxRecDepth 100000 in
theorem qo584 {p : Program} {l : Launch} {e : Env} {s : State} {m : MethodId} {args : Array Value} {below : List Frame} {meth : Method} {c : Code} {s₁ : State} {Q : State → Prop} {D : zk_D} {base : Nat} {Hb : Heap} (B : BodyLoose p l yX12_weighSwapped (headSpec (Jvm.Cond.code yX12_weighSwapped prog_14_method_92_code 7 (some .int) :: zg_tb) qR584) prog_14_method_92_code 7 (some .int) e s m args below meth c s₁) (hml : c.maxLocals = 7) (hK : zg_K D base Hb s) : zk_ok p l e (headSpec (Jvm.Cond.code yX12_weighSwapped prog_14_method_92_code 7 (some .int) :: zg_tb) qR584).room s m args below meth c Q qK D base Hb 7 prog_14_method_92_code qP584 qC584.2.2.2.2 := by
  have S : CallFix p m c prog_14_method_92_code 7 s args (Jvm.Cond.code yX12_weighSwapped prog_14_method_92_code 7 (some .int) :: zg_tb) RX12 := ⟨B.exec, B.bytes, hml, findClass_of_methodNamed B.named, atoms_spec (ws := (Jvm.Cond.code yX12_weighSwapped prog_14_method_92_code 7 (some .int) :: zg_tb)) B.pre⟩
  exact ⟨List.forall_mem_cons.mpr ⟨zg_gp4 S (hK.2.1 12 _ rfl) (fun w h => (List.mem_cons_of_mem _ (zc12 w h))) rfl zt12_34 (List.mem_cons_of_mem _ zw5_193), List.forall_mem_cons.mpr ⟨zg_gp4 S (hK.2.1 12 _ rfl) (fun w h => (List.mem_cons_of_mem _ (zc12 w h))) rfl zt12_32 (List.mem_cons_of_mem _ zw5_191), List.forall_mem_cons.mpr ⟨zg_gp4 S (hK.2.1 12 _ rfl) (fun w h => (List.mem_cons_of_mem _ (zc12 w h))) rfl zt12_64 (List.mem_cons_of_mem _ zw5_223), List.forall_mem_cons.mpr ⟨zg_gp S (hK.2.1 12 _ rfl) (fun w h => (List.mem_cons_of_mem _ (zc12 w h))) rfl zt12_65 (List.mem_cons_of_mem _ zw5_224) rfl, List.forall_mem_cons.mpr ⟨zg_gp4 S (hK.2.1 12 _ rfl) (fun w h => (List.mem_cons_of_mem _ (zc12 w h))) rfl zt12_62 (List.mem_cons_of_mem _ zw5_221), List.forall_mem_cons.mpr ⟨zg_gp4 S (hK.2.1 12 _ rfl) (fun w h => (List.mem_cons_of_mem _ (zc12 w h))) rfl zt12_63 (List.mem_cons_of_mem _ zw5_222), fun _ h => absurd h List.not_mem_nil⟩⟩⟩⟩⟩⟩,
    fun _ h => absurd h List.not_mem_nil,
    fun _ h => absurd h List.not_mem_nil,
    fun _ h => absurd h List.not_mem_nil,
    fun h => absurd rfl h,
    fun _ h => absurd h List.not_mem_nil,
    List.forall_mem_cons.mpr ⟨zg_callV (fun w h => List.mem_cons_of_mem _ h) zg_tb_all S hK zg_Km qm583 zw7_127 zy_yX12_weigh_V (ci := 12) (by decide +kernel) (hK.2.1 12 _ rfl).2.1 ⟨rfl, rfl⟩ (zk_dg_ok qdo_14_92 (by decide +kernel)), fun _ h => absurd h List.not_mem_nil⟩⟩
set_option maxRecDepth 100000 in
theorem qm584 {l : Launch} {D : zk_D} {base : Nat} {Hb : Heap} : zk_Met l qK D base Hb (zg_K D base Hb) yX12_weighSwapped (Jvm.Cond.code yX12_weighSwapped prog_14_method_92_code 7 (some .int) :: zg_tb) qR584 qC584 := zk_met (ws' := zg_tb) (P := qP584) (AT := zg_AT) zpn_X12 rfl rfl rfl qk584 (fun s hK => zg_wd hK) (fun p e s m args below meth c s₁ Q B hml hK => qo584 B hml hK) (fun p e s m args below meth c s₁ v G0 H0 B hml hK ha hp hF q hq => absurd hq List.not_mem_nil)
set_option maxRecDepth 100000 in
def qR585 : Room := { frames := 5, cells := 0, slots := 0, locals := 125 }
set_option maxHeartbeats 4000000 in
set_option maxRecDepth 100000 in
theorem qo585 {p : Program} {l : Launch} {e : Env} {s : State} {m : MethodId} {args : Array Value} {below : List Frame} {meth : Method} {c : Code} {s₁ : State} {Q : State → Prop} {D : zk_D} {base : Nat} {Hb : Heap} (B : BodyLoose p l yX12_findRound (headSpec (Jvm.Cond.code yX12_findRound prog_14_method_93_code 7 (some .boolean) :: zg_tb) qR585) prog_14_method_93_code 7 (some .boolean) e s m args below meth c s₁) (hml : c.maxLocals = 7) (hK : zg_K D base Hb s) : zk_ok p l e (headSpec (Jvm.Cond.code yX12_findRound prog_14_method_93_code 7 (some .boolean) :: zg_tb) qR585).room s m args below meth c Q qK D base Hb 7 prog_14_method_93_code qP585 qC585.2.2.2.2 := by
  have S : CallFix p m c prog_14_method_93_code 7 s args (Jvm.Cond.code yX12_findRound prog_14_method_93_code 7 (some .boolean) :: zg_tb) RX12 := ⟨B.exec, B.bytes, hml, findClass_of_methodNamed B.named, atoms_spec (ws := (Jvm.Cond.code yX12_findRound prog_14_method_93_code 7 (some .boolean) :: zg_tb)) B.pre⟩
  exact ⟨List.forall_mem_cons.mpr ⟨zg_gp S (hK.2.1 12 _ rfl) (fun w h => (List.mem_cons_of_mem _ (zc12 w h))) rfl zt12_0 (List.mem_cons_of_mem _ zw5_159) rfl, List.forall_mem_cons.mpr ⟨zg_gp S (hK.2.1 12 _ rfl) (fun w h => (List.mem_cons_of_mem _ (zc12 w h))) rfl zt12_66 (List.mem_cons_of_mem _ zw5_225) rfl, List.forall_mem_cons.mpr ⟨zg_gp S (hK.2.1 12 _ rfl) (fun w h => (List.mem_cons_of_mem _ (zc12 w h))) rfl zt12_67 (List.mem_cons_of_mem _ zw5_226) rfl, List.forall_mem_cons.mpr ⟨zg_gp S (hK.2.1 12 _ rfl) (fun w h => (List.mem_cons_of_mem _ (zc12 w h))) rfl zt12_65 (List.mem_cons_of_mem _ zw5_224) rfl, fun _ h => absurd h List.not_mem_nil⟩⟩⟩⟩,
    fun _ h => absurd h List.not_mem_nil,
    fun _ h => absurd h List.not_mem_nil,
    fun _ h => absurd h List.not_mem_nil,
    fun h => absurd rfl h,
    fun _ h => absurd h List.not_mem_nil,
    List.forall_mem_cons.mpr ⟨zg_callV (fun w h => List.mem_cons_of_mem _ h) zg_tb_all S hK zg_Km qm475 zw7_80 zy_yX12_isLetter_V (ci := 12) (by decide +kernel) (hK.2.1 12 _ rfl).2.1 ⟨rfl, rfl⟩ (zk_dg_ok qdo_14_93 (by decide +kernel)), List.forall_mem_cons.mpr ⟨zg_callV (fun w h => List.mem_cons_of_mem _ h) zg_tb_all S hK zg_Km qm422 zw7_119 zy_yX12_gather_V (ci := 12) (by decide +kernel) (hK.2.1 12 _ rfl).2.1 ⟨rfl, rfl⟩ (zk_dg_ok qdo_14_93 (by decide +kernel)), List.forall_mem_cons.mpr ⟨zg_callS (fun w h => List.mem_cons_of_mem _ h) zg_tb_all S hK zg_Km qm580 zw8_2 zy_yJ6_bitCount_0f7a4_S (by decide +kernel) ⟨rfl, rfl⟩ (zk_dg_ok qdo_14_93 (by decide +kernel)), List.forall_mem_cons.mpr ⟨zg_callS (fun w h => List.mem_cons_of_mem _ h) zg_tb_all S hK zg_Km qm581 zw8_2 zy_yJ6_bitCount_0f7a4_S (by decide +kernel) ⟨rfl, rfl⟩ (zk_dg_ok qdo_14_93 (by decide +kernel)), List.forall_mem_cons.mpr ⟨zg_callV (fun w h => List.mem_cons_of_mem _ h) zg_tb_all S hK zg_Km qm584 zw8_19 zy_yX12_weighSwapped_V (ci := 12) (by decide +kernel) (hK.2.1 12 _ rfl).2.1 ⟨rfl, rfl⟩ (zk_dg_ok qdo_14_93 (by decide +kernel)), fun _ h => absurd h List.not_mem_nil⟩⟩⟩⟩⟩⟩
set_option maxRecDepth 100000 in
theorem qm585 {l : Launch} {D : zk_D} {base : Nat} {Hb : Heap} : zk_Met l qK D base Hb (zg_K D base Hb) yX12_findRound (Jvm.Cond.code yX12_findRound prog_14_method_93_code 7 (some .boolean) :: zg_tb) qR585 qC585 := zk_met (ws' := zg_tb) (P := qP585) (AT := zg_AT) zpn_X12 rfl rfl rfl qk585 (fun s hK => zg_wd hK) (fun p e s m args below meth c s₁ Q B hml hK => qo585 B hml hK) (fun p e s m args below meth c s₁ v G0 H0 B hml hK ha hp hF q hq => absurd hq List.not_mem_nil)
set_option maxRecDepth 100000 in
def qR586 : Room := { frames := 1, cells := 0, slots := 0, locals := 20 }
set_option maxHeartbeats 4000000 in
set_option maxRecDepth 100000 in
theorem qo586 {p : Program} {l : Launch} {e : Env} {s : State} {m : MethodId} {args : Array Value} {below : List Frame} {meth : Method} {c : Code} {s₁ : State} {Q : State → Prop} {D : zk_D} {base : Nat} {Hb : Heap} (B : BodyLoose p l yJ6_bitCount_0f7a4 (headSpec (Jvm.Cond.code yJ6_bitCount_0f7a4 prog_17_method_49_code 1 (some .int) :: zg_tb) qR586) prog_17_method_49_code 1 (some .int) e s m args below meth c s₁) (hml : c.maxLocals = 1) (hK : zg_K D base Hb s) : zk_ok p l e (headSpec (Jvm.Cond.code yJ6_bitCount_0f7a4 prog_17_method_49_code 1 (some .int) :: zg_tb) qR586).room s m args below meth c Q qK D base Hb 1 prog_17_method_49_code qP586 qC586.2.2.2.2 := by
  have S : CallFix p m c prog_17_method_49_code 1 s args (Jvm.Cond.code yJ6_bitCount_0f7a4 prog_17_method_49_code 1 (some .int) :: zg_tb) RJ6 := ⟨B.exec, B.bytes, hml, findClass_of_methodNamed B.named, atoms_spec (ws := (Jvm.Cond.code yJ6_bitCount_0f7a4 prog_17_method_49_code 1 (some .int) :: zg_tb)) B.pre⟩
  exact ⟨fun _ h => absurd h List.not_mem_nil,
    fun _ h => absurd h List.not_mem_nil,
    fun _ h => absurd h List.not_mem_nil,
    fun _ h => absurd h List.not_mem_nil,
    fun h => absurd rfl h,
    List.forall_mem_cons.mpr ⟨zg_kokW S (List.mem_cons_of_mem _ zw5_69) (by decide +kernel) (zk_dg_ok qdo_17_49 (by decide +kernel)), List.forall_mem_cons.mpr ⟨zg_kokW S (List.mem_cons_of_mem _ zw5_70) (by decide +kernel) (zk_dg_ok qdo_17_49 (by decide +kernel)), List.forall_mem_cons.mpr ⟨zg_kokW S (List.mem_cons_of_mem _ zw5_70) (by decide +kernel) (zk_dg_ok qdo_17_49 (by decide +kernel)), List.forall_mem_cons.mpr ⟨zg_kokW S (List.mem_cons_of_mem _ zw5_71) (by decide +kernel) (zk_dg_ok qdo_17_49 (by decide +kernel)), fun _ h => absurd h List.not_mem_nil⟩⟩⟩⟩,
    fun _ h => absurd h List.not_mem_nil⟩
set_option maxRecDepth 100000 in
theorem qm586 {l : Launch} {D : zk_D} {base : Nat} {Hb : Heap} : zk_Met l qK D base Hb (zg_K D base Hb) yJ6_bitCount_0f7a4 (Jvm.Cond.code yJ6_bitCount_0f7a4 prog_17_method_49_code 1 (some .int) :: zg_tb) qR586 qC586 := zk_met (ws' := zg_tb) (P := qP586) (AT := zg_AT) zpn_J6 rfl rfl rfl qk586 (fun s hK => zg_wd hK) (fun p e s m args below meth c s₁ Q B hml hK => qo586 B hml hK) (fun p e s m args below meth c s₁ v G0 H0 B hml hK ha hp hF q hq => absurd hq List.not_mem_nil)
set_option maxRecDepth 100000 in
def qR587 : Room := { frames := 6, cells := 0, slots := 0, locals := 151 }
set_option maxHeartbeats 4000000 in
set_option maxRecDepth 100000 in
theorem qo587 {p : Program} {l : Launch} {e : Env} {s : State} {m : MethodId} {args : Array Value} {below : List Frame} {meth : Method} {c : Code} {s₁ : State} {Q : State → Prop} {D : zk_D} {base : Nat} {Hb : Heap} (B : BodyLoose p l yX12_round (headSpec (Jvm.Cond.code yX12_round prog_14_method_94_code 4 (some .int) :: zg_tb) qR587) prog_14_method_94_code 4 (some .int) e s m args below meth c s₁) (hml : c.maxLocals = 4) (hK : zg_K D base Hb s) : zk_ok p l e (headSpec (Jvm.Cond.code yX12_round prog_14_method_94_code 4 (some .int) :: zg_tb) qR587).room s m args below meth c Q qK D base Hb 4 prog_14_method_94_code qP587 qC587.2.2.2.2 := by
  have S : CallFix p m c prog_14_method_94_code 4 s args (Jvm.Cond.code yX12_round prog_14_method_94_code 4 (some .int) :: zg_tb) RX12 := ⟨B.exec, B.bytes, hml, findClass_of_methodNamed B.named, atoms_spec (ws := (Jvm.Cond.code yX12_round prog_14_method_94_code 4 (some .int) :: zg_tb)) B.pre⟩
  exact ⟨List.forall_mem_cons.mpr ⟨zg_gp S (hK.2.1 12 _ rfl) (fun w h => (List.mem_cons_of_mem _ (zc12 w h))) rfl zt12_66 (List.mem_cons_of_mem _ zw5_225) rfl, List.forall_mem_cons.mpr ⟨zg_gp S (hK.2.1 12 _ rfl) (fun w h => (List.mem_cons_of_mem _ (zc12 w h))) rfl zt12_67 (List.mem_cons_of_mem _ zw5_226) rfl, fun _ h => absurd h List.not_mem_nil⟩⟩,
    fun _ h => absurd h List.not_mem_nil,
    fun _ h => absurd h List.not_mem_nil,
    fun _ h => absurd h List.not_mem_nil,
    fun h => absurd rfl h,
    fun _ h => absurd h List.not_mem_nil,
    List.forall_mem_cons.mpr ⟨zg_callS (fun w h => List.mem_cons_of_mem _ h) zg_tb_all S hK zg_Km qm579 zw6_145 zy_yX12_in_S (by decide +kernel) ⟨rfl, rfl⟩ (zk_dg_ok qdo_14_94 (by decide +kernel)), List.forall_mem_cons.mpr ⟨zg_callV (fun w h => List.mem_cons_of_mem _ h) zg_tb_all S hK zg_Km qm585 zw8_15 zy_yX12_findRound_V (ci := 12) (by decide +kernel) (hK.2.1 12 _ rfl).2.1 ⟨rfl, rfl⟩ (zk_dg_ok qdo_14_94 (by decide +kernel)), List.forall_mem_cons.mpr ⟨zg_callS (fun w h => List.mem_cons_of_mem _ h) zg_tb_all S hK zg_Km qm586 zw8_2 zy_yJ6_bitCount_0f7a4_S (by decide +kernel) ⟨rfl, rfl⟩ (zk_dg_ok qdo_14_94 (by decide +kernel)), fun _ h => absurd h List.not_mem_nil⟩⟩⟩⟩
set_option maxRecDepth 100000 in
theorem qm587 {l : Launch} {D : zk_D} {base : Nat} {Hb : Heap} : zk_Met l qK D base Hb (zg_K D base Hb) yX12_round (Jvm.Cond.code yX12_round prog_14_method_94_code 4 (some .int) :: zg_tb) qR587 qC587 := zk_met (ws' := zg_tb) (P := qP587) (AT := zg_AT) zpn_X12 rfl rfl rfl qk587 (fun s hK => zg_wd hK) (fun p e s m args below meth c s₁ Q B hml hK => qo587 B hml hK) (fun p e s m args below meth c s₁ v G0 H0 B hml hK ha hp hF q hq => absurd hq List.not_mem_nil)
set_option maxRecDepth 100000 in
def qR588 : Room := { frames := 1, cells := 0, slots := 0, locals := 20 }
set_option maxHeartbeats 4000000 in
set_option maxRecDepth 100000 in
theorem qo588 {p : Program} {l : Launch} {e : Env} {s : State} {m : MethodId} {args : Array Value} {below : List Frame} {meth : Method} {c : Code} {s₁ : State} {Q : State → Prop} {D : zk_D} {base : Nat} {Hb : Heap} (B : BodyLoose p l yX11_ends (headSpec (Jvm.Cond.code yX11_ends prog_1_method_34_code 8 (some .int) :: zg_tb) qR588) prog_1_method_34_code 8 (some .int) e s m args below meth c s₁) (hml : c.maxLocals = 8) (hK : zg_K D base Hb s) : zk_ok p l e (headSpec (Jvm.Cond.code yX11_ends prog_1_method_34_code 8 (some .int) :: zg_tb) qR588).room s m args below meth c Q qK D base Hb 8 prog_1_method_34_code qP588 qC588.2.2.2.2 := by
  have S : CallFix p m c prog_1_method_34_code 8 s args (Jvm.Cond.code yX11_ends prog_1_method_34_code 8 (some .int) :: zg_tb) RX11 := ⟨B.exec, B.bytes, hml, findClass_of_methodNamed B.named, atoms_spec (ws := (Jvm.Cond.code yX11_ends prog_1_method_34_code 8 (some .int) :: zg_tb)) B.pre⟩
  exact ⟨fun _ h => absurd h List.not_mem_nil,
    fun _ h => absurd h List.not_mem_nil,
    fun _ h => absurd h List.not_mem_nil,
    fun _ h => absurd h List.not_mem_nil,
    fun h => absurd rfl h,
    List.forall_mem_cons.mpr ⟨zg_kokW S (List.mem_cons_of_mem _ zw5_113) (by decide +kernel) (zk_dg_ok qdo_1_34 (by decide +kernel)), List.forall_mem_cons.mpr ⟨zg_kokW S (List.mem_cons_of_mem _ zw5_113) (by decide +kernel) (zk_dg_ok qdo_1_34 (by decide +kernel)), fun _ h => absurd h List.not_mem_nil⟩⟩,
    fun _ h => absurd h List.not_mem_nil⟩
set_option maxRecDepth 100000 in
theorem qm588 {l : Launch} {D : zk_D} {base : Nat} {Hb : Heap} : zk_Met l qK D base Hb (zg_K D base Hb) yX11_ends (Jvm.Cond.code yX11_ends prog_1_method_34_code 8 (some .int) :: zg_tb) qR588 qC588 := zk_met (ws' := zg_tb) (P := qP588) (AT := zg_AT) zpn_X11 rfl rfl rfl qk588 (fun s hK => zg_wd hK) (fun p e s m args below meth c s₁ Q B hml hK => qo588 B hml hK) (fun p e s m args below meth c s₁ v G0 H0 B hml hK ha hp hF q hq => absurd hq List.not_mem_nil)
set_option maxRecDepth 100000 in
def qR589 : Room := { frames := 1, cells := 0, slots := 0, locals := 20 }
set_option maxHeartbeats 4000000 in
set_option maxRecDepth 100000 in
theorem qo589 {p : Program} {l : Launch} {e : Env} {s : State} {m : MethodId} {args : Array Value} {below : List Frame} {meth : Method} {c : Code} {s₁ : State} {Q : State → Prop} {D : zk_D} {base : Nat} {Hb : Heap} (B : BodyLoose p l yX12_in (headSpec (Jvm.Cond.code yX12_in prog_14_method_1_code 3 (some .boolean) :: zg_tb) qR589) prog_14_method_1_code 3 (some .boolean) e s m args below meth c s₁) (hml : c.maxLocals = 3) (hK : zg_K D base Hb s) : zk_ok p l e (headSpec (Jvm.Cond.code yX12_in prog_14_method_1_code 3 (some .boolean) :: zg_tb) qR589).room s m args below meth c Q qK D base Hb 3 prog_14_method_1_code qP589 qC589.2.2.2.2 := by
  have S : CallFix p m c prog_14_method_1_code 3 s args (Jvm.Cond.code yX12_in prog_14_method_1_code 3 (some .boolean) :: zg_tb) RX12 := ⟨B.exec, B.bytes, hml, findClass_of_methodNamed B.named, atoms_spec (ws := (Jvm.Cond.code yX12_in prog_14_method_1_code 3 (some .boolean) :: zg_tb)) B.pre⟩
  exact ⟨fun _ h => absurd h List.not_mem_nil,
    fun _ h => absurd h List.not_mem_nil,
    fun _ h => absurd h List.not_mem_nil,
    fun _ h => absurd h List.not_mem_nil,
    fun h => absurd rfl h,
    fun _ h => absurd h List.not_mem_nil,
    fun _ h => absurd h List.not_mem_nil⟩
set_option maxRecDepth 100000 in
theorem qm589 {l : Launch} {D : zk_D} {base : Nat} {Hb : Heap} : zk_Met l qK D base Hb (zg_K D base Hb) yX12_in (Jvm.Cond.code yX12_in prog_14_method_1_code 3 (some .boolean) :: zg_tb) qR589 qC589 := zk_met (ws' := zg_tb) (P := qP589) (AT := zg_AT) zpn_X12 rfl rfl rfl qk589 (fun s hK => zg_wd hK) (fun p e s m args below meth c s₁ Q B hml hK => qo589 B hml hK) (fun p e s m args below meth c s₁ v G0 H0 B hml hK ha hp hF q hq => absurd hq List.not_mem_nil)
set_option maxRecDepth 100000 in
def qR590 : Room := { frames := 1, cells := 0, slots := 0, locals := 20 }
set_option maxHeartbeats 4000000 in
set_option maxRecDepth 100000 in
theorem qo590 {p : Program} {l : Launch} {e : Env} {s : State} {m : MethodId} {args : Array Value} {below : List Frame} {meth : Method} {c : Code} {s₁ : State} {Q : State → Prop} {D : zk_D} {base : Nat} {Hb : Heap} (B : BodyLoose p l yX12_in (headSpec (Jvm.Cond.code yX12_in prog_14_method_1_code 3 (some .boolean) :: zg_tb) qR590) prog_14_method_1_code 3 (some .boolean) e s m args below meth c s₁) (hml : c.maxLocals = 3) (hK : zg_K D base Hb s) : zk_ok p l e (headSpec (Jvm.Cond.code yX12_in prog_14_method_1_code 3 (some .boolean) :: zg_tb) qR590).room s m args below meth c Q qK D base Hb 3 prog_14_method_1_code qP590 qC590.2.2.2.2 := by
  have S : CallFix p m c prog_14_method_1_code 3 s args (Jvm.Cond.code yX12_in prog_14_method_1_code 3 (some .boolean) :: zg_tb) RX12 := ⟨B.exec, B.bytes, hml, findClass_of_methodNamed B.named, atoms_spec (ws := (Jvm.Cond.code yX12_in prog_14_method_1_code 3 (some .boolean) :: zg_tb)) B.pre⟩
  exact ⟨fun _ h => absurd h List.not_mem_nil,
    fun _ h => absurd h List.not_mem_nil,
    fun _ h => absurd h List.not_mem_nil,
    fun _ h => absurd h List.not_mem_nil,
    fun h => absurd rfl h,
    fun _ h => absurd h List.not_mem_nil,
    fun _ h => absurd h List.not_mem_nil⟩
set_option maxRecDepth 100000 in
theorem qm590 {l : Launch} {D : zk_D} {base : Nat} {Hb : Heap} : zk_Met l qK D base Hb (zg_K D base Hb) yX12_in (Jvm.Cond.code yX12_in prog_14_method_1_code 3 (some .boolean) :: zg_tb) qR590 qC590 := zk_met (ws' := zg_tb) (P := qP590) (AT := zg_AT) zpn_X12 rfl rfl rfl qk590 (fun s hK => zg_wd hK) (fun p e s m args below meth c s₁ Q B hml hK => qo590 B hml hK) (fun p e s m args below meth c s₁ v G0 H0 B hml hK ha hp hF q hq => absurd hq List.not_mem_nil)
set_option maxRecDepth 100000 in
def qR591 : Room := { frames := 1, cells := 0, slots := 0, locals := 20 }
set_option maxHeartbeats 4000000 in
set_option maxRecDepth 100000 in
theorem qo591 {p : Program} {l : Launch} {e : Env} {s : State} {m : MethodId} {args : Array Value} {below : List Frame} {meth : Method} {c : Code} {s₁ : State} {Q : State → Prop} {D : zk_D} {base : Nat} {Hb : Heap} (B : BodyLoose p l yX12_in (headSpec (Jvm.Cond.code yX12_in prog_14_method_1_code 3 (some .boolean) :: zg_tb) qR591) prog_14_method_1_code 3 (some .boolean) e s m args below meth c s₁) (hml : c.maxLocals = 3) (hK : zg_K D base Hb s) : zk_ok p l e (headSpec (Jvm.Cond.code yX12_in prog_14_method_1_code 3 (some .boolean) :: zg_tb) qR591).room s m args below meth c Q qK D base Hb 3 prog_14_method_1_code qP591 qC591.2.2.2.2 := by
  have S : CallFix p m c prog_14_method_1_code 3 s args (Jvm.Cond.code yX12_in prog_14_method_1_code 3 (some .boolean) :: zg_tb) RX12 := ⟨B.exec, B.bytes, hml, findClass_of_methodNamed B.named, atoms_spec (ws := (Jvm.Cond.code yX12_in prog_14_method_1_code 3 (some .boolean) :: zg_tb)) B.pre⟩
  exact ⟨fun _ h => absurd h List.not_mem_nil,
    fun _ h => absurd h List.not_mem_nil,
    fun _ h => absurd h List.not_mem_nil,
    fun _ h => absurd h List.not_mem_nil,
    fun h => absurd rfl h,
    fun _ h => absurd h List.not_mem_nil,
    fun _ h => absurd h List.not_mem_nil⟩
set_option maxRecDepth 100000 in
theorem qm591 {l : Launch} {D : zk_D} {base : Nat} {Hb : Heap} : zk_Met l qK D base Hb (zg_K D base Hb) yX12_in (Jvm.Cond.code yX12_in prog_14_method_1_code 3 (some .boolean) :: zg_tb) qR591 qC591 := zk_met (ws' := zg_tb) (P := qP591) (AT := zg_AT) zpn_X12 rfl rfl rfl qk591 (fun s hK => zg_wd hK) (fun p e s m args below meth c s₁ Q B hml hK => qo591 B hml hK) (fun p e s m args below meth c s₁ v G0 H0 B hml hK ha hp hF q hq => absurd hq List.not_mem_nil)
set_option maxRecDepth 100000 in
def qR592 : Room := { frames := 1, cells := 0, slots := 0, locals := 20 }
set_option maxHeartbeats 4000000 in
set_option maxRecDepth 100000 in
theorem qo592 {p : Program} {l : Launch} {e : Env} {s : State} {m : MethodId} {args : Array Value} {below : List Frame} {meth : Method} {c : Code} {s₁ : State} {Q : State → Prop} {D : zk_D} {base : Nat} {Hb : Heap} (B : BodyLoose p l yX12_in (headSpec (Jvm.Cond.code yX12_in prog_14_method_1_code 3 (some .boolean) :: zg_tb) qR592) prog_14_method_1_code 3 (some .boolean) e s m args below meth c s₁) (hml : c.maxLocals = 3) (hK : zg_K D base Hb s) : zk_ok p l e (headSpec (Jvm.Cond.code yX12_in prog_14_method_1_code 3 (some .boolean) :: zg_tb) qR592).room s m args below meth c Q qK D base Hb 3 prog_14_method_1_code qP592 qC592.2.2.2.2 := by
  have S : CallFix p m c prog_14_method_1_code 3 s args (Jvm.Cond.code yX12_in prog_14_method_1_code 3 (some .boolean) :: zg_tb) RX12 := ⟨B.exec, B.bytes, hml, findClass_of_methodNamed B.named, atoms_spec (ws := (Jvm.Cond.code yX12_in prog_14_method_1_code 3 (some .boolean) :: zg_tb)) B.pre⟩
  exact ⟨fun _ h => absurd h List.not_mem_nil,
    fun _ h => absurd h List.not_mem_nil,
    fun _ h => absurd h List.not_mem_nil,
    fun _ h => absurd h List.not_mem_nil,
    fun h => absurd rfl h,
    fun _ h => absurd h List.not_mem_nil,
    fun _ h => absurd h List.not_mem_nil⟩
set_option maxRecDepth 100000 in
theorem qm592 {l : Launch} {D : zk_D} {base : Nat} {Hb : Heap} : zk_Met l qK D base Hb (zg_K D base Hb) yX12_in (Jvm.Cond.code yX12_in prog_14_method_1_code 3 (some .boolean) :: zg_tb) qR592 qC592 := zk_met (ws' := zg_tb) (P := qP592) (AT := zg_AT) zpn_X12 rfl rfl rfl qk592 (fun s hK => zg_wd hK) (fun p e s m args below meth c s₁ Q B hml hK => qo592 B hml hK) (fun p e s m args below meth c s₁ v G0 H0 B hml hK ha hp hF q hq => absurd hq List.not_mem_nil)
set_option maxRecDepth 100000 in
def qR593 : Room := { frames := 2, cells := 0, slots := 0, locals := 42 }
set_option maxHeartbeats 4000000 in
set_option maxRecDepth 100000 in
theorem qo593 {p : Program} {l : Launch} {e : Env} {s : State} {m : MethodId} {args : Array Value} {below : List Frame} {meth : Method} {c : Code} {s₁ : State} {Q : State → Prop} {D : zk_D} {base : Nat} {Hb : Heap} (B : BodyLoose p l yX12_ends (headSpec (Jvm.Cond.code yX12_ends prog_14_method_95_code 6 (some .int) :: zg_tb) qR593) prog_14_method_95_code 6 (some .int) e s m args below meth c s₁) (hml : c.maxLocals = 6) (hK : zg_K D base Hb s) : zk_ok p l e (headSpec (Jvm.Cond.code yX12_ends prog_14_method_95_code 6 (some .int) :: zg_tb) qR593).room s m args below meth c Q qK D base Hb 6 prog_14_method_95_code qP593 qC593.2.2.2.2 := by
  have S : CallFix p m c prog_14_method_95_code 6 s args (Jvm.Cond.code yX12_ends prog_14_method_95_code 6 (some .int) :: zg_tb) RX12 := ⟨B.exec, B.bytes, hml, findClass_of_methodNamed B.named, atoms_spec (ws := (Jvm.Cond.code yX12_ends prog_14_method_95_code 6 (some .int) :: zg_tb)) B.pre⟩
  exact ⟨fun _ h => absurd h List.not_mem_nil,
    fun _ h => absurd h List.not_mem_nil,
    fun _ h => absurd h List.not_mem_nil,
    fun _ h => absurd h List.not_mem_nil,
    fun h => absurd rfl h,
    List.forall_mem_cons.mpr ⟨zg_kokW S (List.mem_cons_of_mem _ zw8_27) (by decide +kernel) (zk_dg_ok qdo_14_95 (by decide +kernel)), List.forall_mem_cons.mpr ⟨zg_kokW S (List.mem_cons_of_mem _ zw8_27) (by decide +kernel) (zk_dg_ok qdo_14_95 (by decide +kernel)), fun _ h => absurd h List.not_mem_nil⟩⟩,
    List.forall_mem_cons.mpr ⟨zg_callS (fun w h => List.mem_cons_of_mem _ h) zg_tb_all S hK zg_Km qm589 zw6_145 zy_yX12_in_S (by decide +kernel) ⟨rfl, rfl⟩ (zk_dg_ok qdo_14_95 (by decide +kernel)), List.forall_mem_cons.mpr ⟨zg_callS (fun w h => List.mem_cons_of_mem _ h) zg_tb_all S hK zg_Km qm590 zw6_145 zy_yX12_in_S (by decide +kernel) ⟨rfl, rfl⟩ (zk_dg_ok qdo_14_95 (by decide +kernel)), List.forall_mem_cons.mpr ⟨zg_callS (fun w h => List.mem_cons_of_mem _ h) zg_tb_all S hK zg_Km qm591 zw6_145 zy_yX12_in_S (by decide +kernel) ⟨rfl, rfl⟩ (zk_dg_ok qdo_14_95 (by decide +kernel)), List.forall_mem_cons.mpr ⟨zg_callS (fun w h => List.mem_cons_of_mem _ h) zg_tb_all S hK zg_Km qm592 zw6_145 zy_yX12_in_S (by decide +kernel) ⟨rfl, rfl⟩ (zk_dg_ok qdo_14_95 (by decide +kernel)), fun _ h => absurd h List.not_mem_nil⟩⟩⟩⟩⟩
set_option maxRecDepth 100000 in
theorem qm593 {l : Launch} {D : zk_D} {base : Nat} {Hb : Heap} : zk_Met l qK D base Hb (zg_K D base Hb) yX12_ends (Jvm.Cond.code yX12_ends prog_14_method_95_code 6 (some .int) :: zg_tb) qR593 qC593 := zk_met (ws' := zg_tb) (P := qP593) (AT := zg_AT) zpn_X12 rfl rfl rfl qk593 (fun s hK => zg_wd hK) (fun p e s m args below meth c s₁ Q B hml hK => qo593 B hml hK) (fun p e s m args below meth c s₁ v G0 H0 B hml hK ha hp hF q hq => absurd hq List.not_mem_nil)
end
