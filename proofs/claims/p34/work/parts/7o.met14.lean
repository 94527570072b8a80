/-! CONTRACTS MET: found by wip/an (python). -/
set_option maxRecDepth 100000
def qR568 : Room := { frames := 2, cells := 0, slots := 0, locals := 44 }
set_option maxHeartbeats 4000000 in
set_option maxRecDepth 100000 in
theorem qo568 {p : Program} {l : Launch} {e : Env} {s : State} {m : MethodId} {args : Array Value} {below : List Frame} {meth : Method} {c : Code} {s₁ : State} {Q : State → Prop} {D : zk_D} {base : Nat} {Hb : Heap} (B : BodyLoose p l yX7_weigh (headSpec (Jvm.Cond.code yX7_weigh prog_9_method_4_code 5 (some .int) :: zg_tb) qR568) prog_9_method_4_code 5 (some .int) e s m args below meth c s₁) (hml : c.maxLocals = 5) (hK : zg_K D base Hb s) : zk_ok p l e (headSpec (Jvm.Cond.code yX7_weigh prog_9_method_4_code 5 (some .int) :: zg_tb) qR568).room s m args below meth c Q qK D base Hb 5 prog_9_method_4_code qP568 qC568.2.2.2.2 := by
  have S : CallFix p m c prog_9_method_4_code 5 s args (Jvm.Cond.code yX7_weigh prog_9_method_4_code 5 (some .int) :: zg_tb) RX7 := ⟨B.exec, B.bytes, hml, findClass_of_methodNamed B.named, atoms_spec (ws := (Jvm.Cond.code yX7_weigh prog_9_method_4_code 5 (some .int) :: zg_tb)) B.pre⟩
  exact ⟨List.forall_mem_cons.mpr ⟨zg_gp S (hK.2.1 7 _ rfl) (fun w h => (List.mem_cons_of_mem _ (zc7 w h))) rfl zt7_2 (List.mem_cons_of_mem _ zw2_35) rfl, List.forall_mem_cons.mpr ⟨zg_gp S (hK.2.1 7 _ rfl) (fun w h => (List.mem_cons_of_mem _ (zc7 w h))) rfl zt7_4 (List.mem_cons_of_mem _ zw2_38) rfl, List.forall_mem_cons.mpr ⟨zg_gp S (hK.2.1 7 _ rfl) (fun w h => (List.mem_cons_of_mem _ (zc7 w h))) rfl zt7_5 (List.mem_cons_of_mem _ zw2_39) rfl, List.forall_mem_cons.mpr ⟨zg_gp S (hK.2.1 9 _ rfl) (fun w h => (List.mem_cons_of_mem _ (zc9 w h))) rfl zt9_2 (List.mem_cons_of_mem _ zw4_117) rfl, List.forall_mem_cons.mpr ⟨zg_gp S (hK.2.1 7 _ rfl) (fun w h => (List.mem_cons_of_mem _ (zc7 w h))) rfl zt7_3 (List.mem_cons_of_mem _ zw2_37) rfl, List.forall_mem_cons.mpr ⟨zg_gp4 S (hK.2.1 7 _ rfl) (fun w h => (List.mem_cons_of_mem _ (zc7 w h))) rfl zt7_0 (List.mem_cons_of_mem _ zw2_32), fun _ h => absurd h List.not_mem_nil⟩⟩⟩⟩⟩⟩,
    fun _ h => absurd h List.not_mem_nil,
    fun _ h => absurd h List.not_mem_nil,
    fun _ h => absurd h List.not_mem_nil,
    fun h => absurd rfl h,
    fun _ h => absurd h List.not_mem_nil,
    List.forall_mem_cons.mpr ⟨zg_callV (fun w h => List.mem_cons_of_mem _ h) zg_tb_all S hK zg_Km qm494 zw4_210 zy_yX7_worthOf_V (ci := 7) (by decide +kernel) (hK.2.1 7 _ rfl).2.1 ⟨rfl, rfl⟩ (by decide +kernel), List.forall_mem_cons.mpr ⟨zg_callV (fun w h => List.mem_cons_of_mem _ h) zg_tb_all S hK zg_Km qm495 zw4_214 zy_yX7_pick_V (ci := 7) (by decide +kernel) (hK.2.1 7 _ rfl).2.1 ⟨rfl, rfl⟩ (by decide +kernel), fun _ h => absurd h List.not_mem_nil⟩⟩⟩
theorem qm568 {l : Launch} {D : zk_D} {base : Nat} {Hb : Heap} : zk_Met l qK D base Hb (zg_K D base Hb) yX7_weigh (Jvm.Cond.code yX7_weigh prog_9_method_4_code 5 (some .int) :: zg_tb) qR568 qC568 :=
  zk_met (ws' := zg_tb) (P := qP568) (AT := zg_AT) (by decide +kernel) rfl rfl rfl qk568 (fun s hK => zg_wd hK) (fun p e s m args below meth c s₁ Q B hml hK => qo568 B hml hK) (fun p e s m args below meth c s₁ v G0 H0 B hml hK ha hp0 hF0 q hq G H locs ls vs v' hp he hl hF hL => by
    have hq := List.mem_singleton.mp hq
    subst hq
    exact zk_from (q0 := qG568) (hd := qH568) (xs := []) B.exec B.bytes (zg_wd hK) (qo568 B hml hK) rfl rfl B.returns B.notSynchronized (fun t h => h) qg568 (fun q hq => absurd hq List.not_mem_nil) hp he hl (zq_beg3 (x := qX568.2.1) (sy := 6) (kM := qn_M) (kS := qn_saying) (kC := qn_codes) (kT := qn_textSize) (kP := qn_SC) (kA := qn_pickAt) hK.1.2.2 (by decide) (by decide +kernel) (ci := 7) (by decide +kernel) (by decide +kernel) (by decide +kernel) (by decide +kernel) (by decide +kernel) hp hF) (zk_LS_af (fs := [(0, 1003, 6)]) (ns := []) (ps := []) hL))
def qR569 : Room := { frames := 1, cells := 0, slots := 0, locals := 20 }
set_option maxHeartbeats 4000000 in
set_option maxRecDepth 100000 in
theorem qo569 {p : Program} {l : Launch} {e : Env} {s : State} {m : MethodId} {args : Array Value} {below : List Frame} {meth : Method} {c : Code} {s₁ : State} {Q : State → Prop} {D : zk_D} {base : Nat} {Hb : Heap} (B : BodyLoose p l yJ6_bitCount_0f7a4 (headSpec (Jvm.Cond.code yJ6_bitCount_0f7a4 prog_17_method_49_code 1 (some .int) :: zg_tb) qR569) prog_17_method_49_code 1 (some .int) e s m args below meth c s₁) (hml : c.maxLocals = 1) (hK : zg_K D base Hb s) : zk_ok p l e (headSpec (Jvm.Cond.code yJ6_bitCount_0f7a4 prog_17_method_49_code 1 (some .int) :: zg_tb) qR569).room s m args below meth c Q qK D base Hb 1 prog_17_method_49_code qP569 qC569.2.2.2.2 := by
  have S : CallFix p m c prog_17_method_49_code 1 s args (Jvm.Cond.code yJ6_bitCount_0f7a4 prog_17_method_49_code 1 (some .int) :: zg_tb) RJ6 := ⟨B.exec, B.bytes, hml, findClass_of_methodNamed B.named, atoms_spec (ws := (Jvm.Cond.code yJ6_bitCount_0f7a4 prog_17_method_49_code 1 (some .int) :: zg_tb)) B.pre⟩
  exact ⟨fun _ h => absurd h List.not_mem_nil,
    fun _ h => absurd h List.not_mem_nil,
    fun _ h => absurd h List.not_mem_nil,
    fun _ h => absurd h List.not_mem_nil,
    fun h => absurd rfl h,
    List.forall_mem_cons.mpr ⟨zg_kokW S (List.mem_cons_of_mem _ zw5_69) (by decide +kernel) (by decide +kernel), List.forall_mem_cons.mpr ⟨zg_kokW S (List.mem_cons_of_mem _ zw5_70) (by decide +kernel) (by decide +kernel), List.forall_mem_cons.mpr ⟨zg_kokW S (List.mem_cons_of_mem _ zw5_70) (by decide +kernel) (by decide +kernel), List.forall_mem_cons.mpr ⟨zg_kokW S (List.mem_cons_of_mem _ zw5_71) (by decide +kernel) (by decide +kernel), fun _ h => absurd h List.not_mem_nil⟩⟩⟩⟩,
    fun _ h => absurd h List.not_mem_nil⟩
theorem qm569 {l : Launch} {D : zk_D} {base : Nat} {Hb : Heap} : zk_Met l qK D base Hb (zg_K D base Hb) yJ6_bitCount_0f7a4 (Jvm.Cond.code yJ6_bitCount_0f7a4 prog_17_method_49_code 1 (some .int) :: zg_tb) qR569 qC569 := zk_met (ws' := zg_tb) (P := qP569) (AT := zg_AT) (by decide +kernel) rfl rfl rfl qk569 (fun s hK => zg_wd hK) (fun p e s m args below meth c s₁ Q B hml hK => qo569 B hml hK) (fun p e s m args below meth c s₁ v G0 H0 B hml hK ha hp hF q hq => absurd hq List.not_mem_nil)
def qR570 : Room := { frames := 1, cells := 0, slots := 0, locals := 20 }
set_option maxHeartbeats 4000000 in
set_option maxRecDepth 100000 in
theorem qo570 {p : Program} {l : Launch} {e : Env} {s : State} {m : MethodId} {args : Array Value} {below : List Frame} {meth : Method} {c : Code} {s₁ : State} {Q : State → Prop} {D : zk_D} {base : Nat} {Hb : Heap} (B : BodyLoose p l yJ6_bitCount_0f7a4 (headSpec (Jvm.Cond.code yJ6_bitCount_0f7a4 prog_17_method_49_code 1 (some .int) :: zg_tb) qR570) prog_17_method_49_code 1 (some .int) e s m args below meth c s₁) (hml : c.maxLocals = 1) (hK : zg_K D base Hb s) : zk_ok p l e (headSpec (Jvm.Cond.code yJ6_bitCount_0f7a4 prog_17_method_49_code 1 (some .int) :: zg_tb) qR570).room s m args below meth c Q qK D base Hb 1 prog_17_method_49_code qP570 qC570.2.2.2.2 := by
  have S : CallFix p m c prog_17_method_49_code 1 s args (Jvm.Cond.code yJ6_bitCount_0f7a4 prog_17_method_49_code 1 (some .int) :: zg_tb) RJ6 := ⟨B.exec, B.bytes, hml, findClass_of_methodNamed B.named, atoms_spec (ws := (Jvm.Cond.code yJ6_bitCount_0f7a4 prog_17_method_49_code 1 (some .int) :: zg_tb)) B.pre⟩
  exact ⟨fun _ h => absurd h List.not_mem_nil,
    fun _ h => absurd h List.not_mem_nil,
    fun _ h => absurd h List.not_mem_nil,
    fun _ h => absurd h List.not_mem_nil,
    fun h => absurd rfl h,
    List.forall_mem_cons.mpr ⟨zg_kokW S (List.mem_cons_of_mem _ zw5_69) (by decide +kernel) (by decide +kernel), List.forall_mem_cons.mpr ⟨zg_kokW S (List.mem_cons_of_mem _ zw5_70) (by decide +kernel) (by decide +kernel), List.forall_mem_cons.mpr ⟨zg_kokW S (List.mem_cons_of_mem _ zw5_70) (by decide +kernel) (by decide +kernel), List.forall_mem_cons.mpr ⟨zg_kokW S (List.mem_cons_of_mem _ zw5_71) (by decide +kernel) (by decide +kernel), fun _ h => absurd h List.not_mem_nil⟩⟩⟩⟩,
    fun _ h => absurd h List.not_mem_nil⟩
theorem qm570 {l : Launch} {D : zk_D} {base : Nat} {Hb : Heap} : zk_Met l qK D base Hb (zg_K D base Hb) yJ6_bitCount_0f7a4 (Jvm.Cond.code yJ6_bitCount_0f7a4 prog_17_method_49_code 1 (some .int) :: zg_tb) qR570 qC570 := zk_met (ws' := zg_tb) (P := qP570) (AT := zg_AT) (by decide +kernel) rfl rfl rfl qk570 (fun s hK => zg_wd hK) (fun p e s m args below meth c s₁ Q B hml hK => qo570 B hml hK) (fun p e s m args below meth c s₁ v G0 H0 B hml hK ha hp hF q hq => absurd hq List.not_mem_nil)
def qR571 : Room := { frames := 1, cells := 0, slots := 0, locals := 20 }
set_option maxHeartbeats 4000000 in
set_option maxRecDepth 100000 in
theorem qo571 {p : Program} {l : Launch} {e : Env} {s : State} {m : MethodId} {args : Array Value} {below : List Frame} {meth : Method} {c : Code} {s₁ : State} {Q : State → Prop} {D : zk_D} {base : Nat} {Hb : Heap} (B : BodyLoose p l yJ6_bitCount_0f7a4 (headSpec (Jvm.Cond.code yJ6_bitCount_0f7a4 prog_17_method_49_code 1 (some .int) :: zg_tb) qR571) prog_17_method_49_code 1 (some .int) e s m args below meth c s₁) (hml : c.maxLocals = 1) (hK : zg_K D base Hb s) : zk_ok p l e (headSpec (Jvm.Cond.code yJ6_bitCount_0f7a4 prog_17_method_49_code 1 (some .int) :: zg_tb) qR571).room s m args below meth c Q qK D base Hb 1 prog_17_method_49_code qP571 qC571.2.2.2.2 := by
  have S : CallFix p m c prog_17_method_49_code 1 s args (Jvm.Cond.code yJ6_bitCount_0f7a4 prog_17_method_49_code 1 (some .int) :: zg_tb) RJ6 := ⟨B.exec, B.bytes, hml, findClass_of_methodNamed B.named, atoms_spec (ws := (Jvm.Cond.code yJ6_bitCount_0f7a4 prog_17_method_49_code 1 (some .int) :: zg_tb)) B.pre⟩
  exact ⟨fun _ h => absurd h List.not_mem_nil,
    fun _ h => absurd h List.not_mem_nil,
    fun _ h => absurd h List.not_mem_nil,
    fun _ h => absurd h List.not_mem_nil,
    fun h => absurd rfl h,
    List.forall_mem_cons.mpr ⟨zg_kokW S (List.mem_cons_of_mem _ zw5_69) (by decide +kernel) (by decide +kernel), List.forall_mem_cons.mpr ⟨zg_kokW S (List.mem_cons_of_mem _ zw5_70) (by decide +kernel) (by decide +kernel), List.forall_mem_cons.mpr ⟨zg_kokW S (List.mem_cons_of_mem _ zw5_70) (by decide +kernel) (by decide +kernel), List.forall_mem_cons.mpr ⟨zg_kokW S (List.mem_cons_of_mem _ zw5_71) (by decide +kernel) (by decide +kernel), fun _ h => absurd h List.not_mem_nil⟩⟩⟩⟩,
    fun _ h => absurd h List.not_mem_nil⟩
theorem qm571 {l : Launch} {D : zk_D} {base : Nat} {Hb : Heap} : zk_Met l qK D base Hb (zg_K D base Hb) yJ6_bitCount_0f7a4 (Jvm.Cond.code yJ6_bitCount_0f7a4 prog_17_method_49_code 1 (some .int) :: zg_tb) qR571 qC571 := zk_met (ws' := zg_tb) (P := qP571) (AT := zg_AT) (by decide +kernel) rfl rfl rfl qk571 (fun s hK => zg_wd hK) (fun p e s m args below meth c s₁ Q B hml hK => qo571 B hml hK) (fun p e s m args below meth c s₁ v G0 H0 B hml hK ha hp hF q hq => absurd hq List.not_mem_nil)
def qR572 : Room := { frames := 1, cells := 0, slots := 0, locals := 20 }
set_option maxHeartbeats 4000000 in
set_option maxRecDepth 100000 in
theorem qo572 {p : Program} {l : Launch} {e : Env} {s : State} {m : MethodId} {args : Array Value} {below : List Frame} {meth : Method} {c : Code} {s₁ : State} {Q : State → Prop} {D : zk_D} {base : Nat} {Hb : Heap} (B : BodyLoose p l yJ6_bitCount_0f7a4 (headSpec (Jvm.Cond.code yJ6_bitCount_0f7a4 prog_17_method_49_code 1 (some .int) :: zg_tb) qR572) prog_17_method_49_code 1 (some .int) e s m args below meth c s₁) (hml : c.maxLocals = 1) (hK : zg_K D base Hb s) : zk_ok p l e (headSpec (Jvm.Cond.code yJ6_bitCount_0f7a4 prog_17_method_49_code 1 (some .int) :: zg_tb) qR572).room s m args below meth c Q qK D base Hb 1 prog_17_method_49_code qP572 qC572.2.2.2.2 := by
  have S : CallFix p m c prog_17_method_49_code 1 s args (Jvm.Cond.code yJ6_bitCount_0f7a4 prog_17_method_49_code 1 (some .int) :: zg_tb) RJ6 := ⟨B.exec, B.bytes, hml, findClass_of_methodNamed B.named, atoms_spec (ws := (Jvm.Cond.code yJ6_bitCount_0f7a4 prog_17_method_49_code 1 (some .int) :: zg_tb)) B.pre⟩
  exact ⟨fun _ h => absurd h List.not_mem_nil,
    fun _ h => absurd h List.not_mem_nil,
    fun _ h => absurd h List.not_mem_nil,
    fun _ h => absurd h List.not_mem_nil,
    fun h => absurd rfl h,
    List.forall_mem_cons.mpr ⟨zg_kokW S (List.mem_cons_of_mem _ zw5_69) (by decide +kernel) (by decide +kernel), List.forall_mem_cons.mpr ⟨zg_kokW S (List.mem_cons_of_mem _ zw5_70) (by decide +kernel) (by decide +kernel), List.forall_mem_cons.mpr ⟨zg_kokW S (List.mem_cons_of_mem _ zw5_70) (by decide +kernel) (by decide +kernel), List.forall_mem_cons.mpr ⟨zg_kokW S (List.mem_cons_of_mem _ zw5_71) (by decide +kernel) (by decide +kernel), fun _ h => absurd h List.not_mem_nil⟩⟩⟩⟩,
    fun _ h => absurd h List.not_mem_nil⟩
theorem qm572 {l : Launch} {D : zk_D} {base : Nat} {Hb : Heap} : zk_Met l qK D base Hb (zg_K D base Hb) yJ6_bitCount_0f7a4 (Jvm.Cond.code yJ6_bitCount_0f7a4 prog_17_method_49_code 1 (some .int) :: zg_tb) qR572 qC572 := zk_met (ws' := zg_tb) (P := qP572) (AT := zg_AT) (by decide +kernel) rfl rfl rfl qk572 (fun s hK => zg_wd hK) (fun p e s m args below meth c s₁ Q B hml hK => qo572 B hml hK) (fun p e s m args below meth c s₁ v G0 H0 B hml hK ha hp hF q hq => absurd hq List.not_mem_nil)
def qR573 : Room := { frames := 1, cells := 0, slots := 0, locals := 20 }
set_option maxHeartbeats 4000000 in
set_option maxRecDepth 100000 in
theorem qo573 {p : Program} {l : Launch} {e : Env} {s : State} {m : MethodId} {args : Array Value} {below : List Frame} {meth : Method} {c : Code} {s₁ : State} {Q : State → Prop} {D : zk_D} {base : Nat} {Hb : Heap} (B : BodyLoose p l yJ6_bitCount_0f7a4 (headSpec (Jvm.Cond.code yJ6_bitCount_0f7a4 prog_17_method_49_code 1 (some .int) :: zg_tb) qR573) prog_17_method_49_code 1 (some .int) e s m args below meth c s₁) (hml : c.maxLocals = 1) (hK : zg_K D base Hb s) : zk_ok p l e (headSpec (Jvm.Cond.code yJ6_bitCount_0f7a4 prog_17_method_49_code 1 (some .int) :: zg_tb) qR573).room s m args below meth c Q qK D base Hb 1 prog_17_method_49_code qP573 qC573.2.2.2.2 := by
  have S : CallFix p m c prog_17_method_49_code 1 s args (Jvm.Cond.code yJ6_bitCount_0f7a4 prog_17_method_49_code 1 (some .int) :: zg_tb) RJ6 := ⟨B.exec, B.bytes, hml, findClass_of_methodNamed B.named, atoms_spec (ws := (Jvm.Cond.code yJ6_bitCount_0f7a4 prog_17_method_49_code 1 (some .int) :: zg_tb)) B.pre⟩
  exact ⟨fun _ h => absurd h List.not_mem_nil,
    fun _ h => absurd h List.not_mem_nil,
    fun _ h => absurd h List.not_mem_nil,
    fun _ h => absurd h List.not_mem_nil,
    fun h => absurd rfl h,
    List.forall_mem_cons.mpr ⟨zg_kokW S (List.mem_cons_of_mem _ zw5_69) (by decide +kernel) (by decide +kernel), List.forall_mem_cons.mpr ⟨zg_kokW S (List.mem_cons_of_mem _ zw5_70) (by decide +kernel) (by decide +kernel), List.forall_mem_cons.mpr ⟨zg_kokW S (List.mem_cons_of_mem _ zw5_70) (by decide +kernel) (by decide +kernel), List.forall_mem_cons.mpr ⟨zg_kokW S (List.mem_cons_of_mem _ zw5_71) (by decide +kernel) (by decide +kernel), fun _ h => absurd h List.not_mem_nil⟩⟩⟩⟩,
    fun _ h => absurd h List.not_mem_nil⟩
theorem qm573 {l : Launch} {D : zk_D} {base : Nat} {Hb : Heap} : zk_Met l qK D base Hb (zg_K D base Hb) yJ6_bitCount_0f7a4 (Jvm.Cond.code yJ6_bitCount_0f7a4 prog_17_method_49_code 1 (some .int) :: zg_tb) qR573 qC573 := zk_met (ws' := zg_tb) (P := qP573) (AT := zg_AT) (by decide +kernel) rfl rfl rfl qk573 (fun s hK => zg_wd hK) (fun p e s m args below meth c s₁ Q B hml hK => qo573 B hml hK) (fun p e s m args below meth c s₁ v G0 H0 B hml hK ha hp hF q hq => absurd hq List.not_mem_nil)
def qR574 : Room := { frames := 4, cells := 0, slots := 0, locals := 86 }
set_option maxHeartbeats 4000000 in
set_option maxRecDepth 100000 in
theorem qo574 {p : Program} {l : Launch} {e : Env} {s : State} {m : MethodId} {args : Array Value} {below : List Frame} {meth : Method} {c : Code} {s₁ : State} {Q : State → Prop} {D : zk_D} {base : Nat} {Hb : Heap} (B : BodyLoose p l yX11_round (headSpec (Jvm.Cond.code yX11_round prog_1_method_33_code 10 (some .int) :: zg_tb) qR574) prog_1_method_33_code 10 (some .int) e s m args below meth c s₁) (hml : c.maxLocals = 10) (hK : zg_K D base Hb s) : zk_ok p l e (headSpec (Jvm.Cond.code yX11_round prog_1_method_33_code 10 (some .int) :: zg_tb) qR574).room s m args below meth c Q qK D base Hb 10 prog_1_method_33_code qP574 qC574.2.2.2.2 := by
  have S : CallFix p m c prog_1_method_33_code 10 s args (Jvm.Cond.code yX11_round prog_1_method_33_code 10 (some .int) :: zg_tb) RX11 := ⟨B.exec, B.bytes, hml, findClass_of_methodNamed B.named, atoms_spec (ws := (Jvm.Cond.code yX11_round prog_1_method_33_code 10 (some .int) :: zg_tb)) B.pre⟩
  exact ⟨List.forall_mem_cons.mpr ⟨zg_gp S (hK.2.1 11 _ rfl) (fun w h => (List.mem_cons_of_mem _ (zc11 w h))) rfl zt11_13 (List.mem_cons_of_mem _ zw2_66) rfl, List.forall_mem_cons.mpr ⟨zg_gp4 S (hK.2.1 11 _ rfl) (fun w h => (List.mem_cons_of_mem _ (zc11 w h))) rfl zt11_6 (List.mem_cons_of_mem _ zw2_59), List.forall_mem_cons.mpr ⟨zg_gp S (hK.2.1 10 _ rfl) (fun w h => (List.mem_cons_of_mem _ (zc10 w h))) rfl zt10_4 (List.mem_cons_of_mem _ zw1_225) rfl, List.forall_mem_cons.mpr ⟨zg_gp4 S (hK.2.1 11 _ rfl) (fun w h => (List.mem_cons_of_mem _ (zc11 w h))) rfl zt11_9 (List.mem_cons_of_mem _ zw2_62), List.forall_mem_cons.mpr ⟨zg_gp4 S (hK.2.1 10 _ rfl) (fun w h => (List.mem_cons_of_mem _ (zc10 w h))) rfl zt10_3 (List.mem_cons_of_mem _ zw1_223), fun _ h => absurd h List.not_mem_nil⟩⟩⟩⟩⟩,
    fun _ h => absurd h List.not_mem_nil,
    fun _ h => absurd h List.not_mem_nil,
    fun _ h => absurd h List.not_mem_nil,
    fun h => absurd rfl h,
    fun _ h => absurd h List.not_mem_nil,
    List.forall_mem_cons.mpr ⟨zg_callV (fun w h => List.mem_cons_of_mem _ h) zg_tb_all S hK zg_Km qm468 zw4_142 zy_yX11_letterAt_V (ci := 11) (by decide +kernel) (hK.2.1 11 _ rfl).2.1 ⟨rfl, rfl⟩ (by decide +kernel), List.forall_mem_cons.mpr ⟨zg_callV (fun w h => List.mem_cons_of_mem _ h) zg_tb_all S hK zg_Km qm490 zw4_169 zy_yX11_learn_V (ci := 11) (by decide +kernel) (hK.2.1 11 _ rfl).2.1 ⟨rfl, rfl⟩ (by decide +kernel), List.forall_mem_cons.mpr ⟨zg_callV (fun w h => List.mem_cons_of_mem _ h) zg_tb_all S hK zg_Km qm567 zw5_99 zy_yX10_change_V (ci := 10) (by decide +kernel) (hK.2.1 10 _ rfl).2.1 ⟨rfl, rfl⟩ (by decide +kernel), List.forall_mem_cons.mpr ⟨zg_callV (fun w h => List.mem_cons_of_mem _ h) zg_tb_all S hK zg_Km qm568 zw4_206 zy_yX7_weigh_V (ci := 7) (by decide +kernel) (hK.2.1 7 _ rfl).2.1 ⟨rfl, rfl⟩ (by decide +kernel), List.forall_mem_cons.mpr ⟨zg_callS (fun w h => List.mem_cons_of_mem _ h) zg_tb_all S hK zg_Km qm569 zw5_66 zy_yJ6_bitCount_0f7a4_S (by decide +kernel) ⟨rfl, rfl⟩ (by decide +kernel), List.forall_mem_cons.mpr ⟨zg_callS (fun w h => List.mem_cons_of_mem _ h) zg_tb_all S hK zg_Km qm570 zw5_66 zy_yJ6_bitCount_0f7a4_S (by decide +kernel) ⟨rfl, rfl⟩ (by decide +kernel), List.forall_mem_cons.mpr ⟨zg_callS (fun w h => List.mem_cons_of_mem _ h) zg_tb_all S hK zg_Km qm571 zw5_66 zy_yJ6_bitCount_0f7a4_S (by decide +kernel) ⟨rfl, rfl⟩ (by decide +kernel), List.forall_mem_cons.mpr ⟨zg_callS (fun w h => List.mem_cons_of_mem _ h) zg_tb_all S hK zg_Km qm572 zw5_66 zy_yJ6_bitCount_0f7a4_S (by decide +kernel) ⟨rfl, rfl⟩ (by decide +kernel), List.forall_mem_cons.mpr ⟨zg_callS (fun w h => List.mem_cons_of_mem _ h) zg_tb_all S hK zg_Km qm552 zw5_63 zy_yX11_isAhead_S (by decide +kernel) ⟨rfl, rfl⟩ (by decide +kernel), List.forall_mem_cons.mpr ⟨zg_callS (fun w h => List.mem_cons_of_mem _ h) zg_tb_all S hK zg_Km qm573 zw5_66 zy_yJ6_bitCount_0f7a4_S (by decide +kernel) ⟨rfl, rfl⟩ (by decide +kernel), fun _ h => absurd h List.not_mem_nil⟩⟩⟩⟩⟩⟩⟩⟩⟩⟩⟩
theorem qm574 {l : Launch} {D : zk_D} {base : Nat} {Hb : Heap} : zk_Met l qK D base Hb (zg_K D base Hb) yX11_round (Jvm.Cond.code yX11_round prog_1_method_33_code 10 (some .int) :: zg_tb) qR574 qC574 := zk_met (ws' := zg_tb) (P := qP574) (AT := zg_AT) (by decide +kernel) rfl rfl rfl qk574 (fun s hK => zg_wd hK) (fun p e s m args below meth c s₁ Q B hml hK => qo574 B hml hK) (fun p e s m args below meth c s₁ v G0 H0 B hml hK ha hp hF q hq => absurd hq List.not_mem_nil)
def qR575 : Room := { frames := 1, cells := 0, slots := 0, locals := 20 }
set_option maxHeartbeats 4000000 in
set_option maxRecDepth 100000 in
theorem qo575 {p : Program} {l : Launch} {e : Env} {s : State} {m : MethodId} {args : Array Value} {below : List Frame} {meth : Method} {c : Code} {s₁ : State} {Q : State → Prop} {D : zk_D} {base : Nat} {Hb : Heap} (B : BodyLoose p l yX12_in (headSpec (Jvm.Cond.code yX12_in prog_14_method_1_code 3 (some .boolean) :: zg_tb) qR575) prog_14_method_1_code 3 (some .boolean) e s m args below meth c s₁) (hml : c.maxLocals = 3) (hK : zg_K D base Hb s) : zk_ok p l e (headSpec (Jvm.Cond.code yX12_in prog_14_method_1_code 3 (some .boolean) :: zg_tb) qR575).room s m args below meth c Q qK D base Hb 3 prog_14_method_1_code qP575 qC575.2.2.2.2 := by
  have S : CallFix p m c prog_14_method_1_code 3 s args (Jvm.Cond.code yX12_in prog_14_method_1_code 3 (some .boolean) :: zg_tb) RX12 := ⟨B.exec, B.bytes, hml, findClass_of_methodNamed B.named, atoms_spec (ws := (Jvm.Cond.code yX12_in prog_14_method_1_code 3 (some .boolean) :: zg_tb)) B.pre⟩
  exact ⟨fun _ h => absurd h List.not_mem_nil,
    fun _ h => absurd h List.not_mem_nil,
    fun _ h => absurd h List.not_mem_nil,
    fun _ h => absurd h List.not_mem_nil,
    fun h => absurd rfl h,
    fun _ h => absurd h List.not_mem_nil,
    fun _ h => absurd h List.not_mem_nil⟩
theorem qm575 {l : Launch} {D : zk_D} {base : Nat} {Hb : Heap} : zk_Met l qK D base Hb (zg_K D base Hb) yX12_in (Jvm.Cond.code yX12_in prog_14_method_1_code 3 (some .boolean) :: zg_tb) qR575 qC575 := zk_met (ws' := zg_tb) (P := qP575) (AT := zg_AT) (by decide +kernel) rfl rfl rfl qk575 (fun s hK => zg_wd hK) (fun p e s m args below meth c s₁ Q B hml hK => qo575 B hml hK) (fun p e s m args below meth c s₁ v G0 H0 B hml hK ha hp hF q hq => absurd hq List.not_mem_nil)
def qR576 : Room := { frames := 1, cells := 0, slots := 0, locals := 20 }
set_option maxHeartbeats 4000000 in
set_option maxRecDepth 100000 in
theorem qo576 {p : Program} {l : Launch} {e : Env} {s : State} {m : MethodId} {args : Array Value} {below : List Frame} {meth : Method} {c : Code} {s₁ : State} {Q : State → Prop} {D : zk_D} {base : Nat} {Hb : Heap} (B : BodyLoose p l yJ6_bitCount_0f7a4 (headSpec (Jvm.Cond.code yJ6_bitCount_0f7a4 prog_17_method_49_code 1 (some .int) :: zg_tb) qR576) prog_17_method_49_code 1 (some .int) e s m args below meth c s₁) (hml : c.maxLocals = 1) (hK : zg_K D base Hb s) : zk_ok p l e (headSpec (Jvm.Cond.code yJ6_bitCount_0f7a4 prog_17_method_49_code 1 (some .int) :: zg_tb) qR576).room s m args below meth c Q qK D base Hb 1 prog_17_method_49_code qP576 qC576.2.2.2.2 := by
  have S : CallFix p m c prog_17_method_49_code 1 s args (Jvm.Cond.code yJ6_bitCount_0f7a4 prog_17_method_49_code 1 (some .int) :: zg_tb) RJ6 := ⟨B.exec, B.bytes, hml, findClass_of_methodNamed B.named, atoms_spec (ws := (Jvm.Cond.code yJ6_bitCount_0f7a4 prog_17_method_49_code 1 (some .int) :: zg_tb)) B.pre⟩
  exact ⟨fun _ h => absurd h List.not_mem_nil,
    fun _ h => absurd h List.not_mem_nil,
    fun _ h => absurd h List.not_mem_nil,
    fun _ h => absurd h List.not_mem_nil,
    fun h => absurd rfl h,
    List.forall_mem_cons.mpr ⟨zg_kokW S (List.mem_cons_of_mem _ zw5_69) (by decide +kernel) (by decide +kernel), List.forall_mem_cons.mpr ⟨zg_kokW S (List.mem_cons_of_mem _ zw5_70) (by decide +kernel) (by decide +kernel), List.forall_mem_cons.mpr ⟨zg_kokW S (List.mem_cons_of_mem _ zw5_70) (by decide +kernel) (by decide +kernel), List.forall_mem_cons.mpr ⟨zg_kokW S (List.mem_cons_of_mem _ zw5_71) (by decide +kernel) (by decide +kernel), fun _ h => absurd h List.not_mem_nil⟩⟩⟩⟩,
    fun _ h => absurd h List.not_mem_nil⟩
theorem qm576 {l : Launch} {D : zk_D} {base : Nat} {Hb : Heap} : zk_Met l qK D base Hb (zg_K D base Hb) yJ6_bitCount_0f7a4 (Jvm.Cond.code yJ6_bitCount_0f7a4 prog_17_method_49_code 1 (some .int) :: zg_tb) qR576 qC576 := zk_met (ws' := zg_tb) (P := qP576) (AT := zg_AT) (by decide +kernel) rfl rfl rfl qk576 (fun s hK => zg_wd hK) (fun p e s m args below meth c s₁ Q B hml hK => qo576 B hml hK) (fun p e s m args below meth c s₁ v G0 H0 B hml hK ha hp hF q hq => absurd hq List.not_mem_nil)
def qR577 : Room := { frames := 1, cells := 0, slots := 0, locals := 20 }
set_option maxHeartbeats 4000000 in
set_option maxRecDepth 100000 in
theorem qo577 {p : Program} {l : Launch} {e : Env} {s : State} {m : MethodId} {args : Array Value} {below : List Frame} {meth : Method} {c : Code} {s₁ : State} {Q : State → Prop} {D : zk_D} {base : Nat} {Hb : Heap} (B : BodyLoose p l yJ6_bitCount_0f7a4 (headSpec (Jvm.Cond.code yJ6_bitCount_0f7a4 prog_17_method_49_code 1 (some .int) :: zg_tb) qR577) prog_17_method_49_code 1 (some .int) e s m args below meth c s₁) (hml : c.maxLocals = 1) (hK : zg_K D base Hb s) : zk_ok p l e (headSpec (Jvm.Cond.code yJ6_bitCount_0f7a4 prog_17_method_49_code 1 (some .int) :: zg_tb) qR577).room s m args below meth c Q qK D base Hb 1 prog_17_method_49_code qP577 qC577.2.2.2.2 := by
  have S : CallFix p m c prog_17_method_49_code 1 s args (Jvm.Cond.code yJ6_bitCount_0f7a4 prog_17_method_49_code 1 (some .int) :: zg_tb) RJ6 := ⟨B.exec, B.bytes, hml, findClass_of_methodNamed B.named, atoms_spec (ws := (Jvm.Cond.code yJ6_bitCount_0f7a4 prog_17_method_49_code 1 (some .int) :: zg_tb)) B.pre⟩
  exact ⟨fun _ h => absurd h List.not_mem_nil,
    fun _ h => absurd h List.not_mem_nil,
    fun _ h => absurd h List.not_mem_nil,
    fun _ h => absurd h List.not_mem_nil,
    fun h => absurd rfl h,
    List.forall_mem_cons.mpr ⟨zg_kokW S (List.mem_cons_of_mem _ zw5_69) (by decide +kernel) (by decide +kernel), List.forall_mem_cons.mpr ⟨zg_kokW S (List.mem_cons_of_mem _ zw5_70) (by decide +kernel) (by decide +kernel), List.forall_mem_cons.mpr ⟨zg_kokW S (List.mem_cons_of_mem _ zw5_70) (by decide +kernel) (by decide +kernel), List.forall_mem_cons.mpr ⟨zg_kokW S (List.mem_cons_of_mem _ zw5_71) (by decide +kernel) (by decide +kernel), fun _ h => absurd h List.not_mem_nil⟩⟩⟩⟩,
    fun _ h => absurd h List.not_mem_nil⟩
theorem qm577 {l : Launch} {D : zk_D} {base : Nat} {Hb : Heap} : zk_Met l qK D base Hb (zg_K D base Hb) yJ6_bitCount_0f7a4 (Jvm.Cond.code yJ6_bitCount_0f7a4 prog_17_method_49_code 1 (some .int) :: zg_tb) qR577 qC577 := zk_met (ws' := zg_tb) (P := qP577) (AT := zg_AT) (by decide +kernel) rfl rfl rfl qk577 (fun s hK => zg_wd hK) (fun p e s m args below meth c s₁ Q B hml hK => qo577 B hml hK) (fun p e s m args below meth c s₁ v G0 H0 B hml hK ha hp hF q hq => absurd hq List.not_mem_nil)
def qR578 : Room := { frames := 1, cells := 0, slots := 0, locals := 20 }
set_option maxHeartbeats 4000000 in
set_option maxRecDepth 100000 in
theorem qo578 {p : Program} {l : Launch} {e : Env} {s : State} {m : MethodId} {args : Array Value} {below : List Frame} {meth : Method} {c : Code} {s₁ : State} {Q : State → Prop} {D : zk_D} {base : Nat} {Hb : Heap} (B : BodyLoose p l yX12_has (headSpec (Jvm.Cond.code yX12_has prog_14_method_64_code 6 (some .boolean) :: zg_tb) qR578) prog_14_method_64_code 6 (some .boolean) e s m args below meth c s₁) (hml : c.maxLocals = 6) (hK : zg_K D base Hb s) : zk_ok p l e (headSpec (Jvm.Cond.code yX12_has prog_14_method_64_code 6 (some .boolean) :: zg_tb) qR578).room s m args below meth c Q qK D base Hb 6 prog_14_method_64_code qP578 qC578.2.2.2.2 := by
  have S : CallFix p m c prog_14_method_64_code 6 s args (Jvm.Cond.code yX12_has prog_14_method_64_code 6 (some .boolean) :: zg_tb) RX12 := ⟨B.exec, B.bytes, hml, findClass_of_methodNamed B.named, atoms_spec (ws := (Jvm.Cond.code yX12_has prog_14_method_64_code 6 (some .boolean) :: zg_tb)) B.pre⟩
  exact ⟨fun _ h => absurd h List.not_mem_nil,
    fun _ h => absurd h List.not_mem_nil,
    fun _ h => absurd h List.not_mem_nil,
    fun _ h => absurd h List.not_mem_nil,
    fun h => absurd rfl h,
    fun _ h => absurd h List.not_mem_nil,
    fun _ h => absurd h List.not_mem_nil⟩
theorem qm578 {l : Launch} {D : zk_D} {base : Nat} {Hb : Heap} : zk_Met l qK D base Hb (zg_K D base Hb) yX12_has (Jvm.Cond.code yX12_has prog_14_method_64_code 6 (some .boolean) :: zg_tb) qR578 qC578 := zk_met (ws' := zg_tb) (P := qP578) (AT := zg_AT) (by decide +kernel) rfl rfl rfl qk578 (fun s hK => zg_wd hK) (fun p e s m args below meth c s₁ Q B hml hK => qo578 B hml hK) (fun p e s m args below meth c s₁ v G0 H0 B hml hK ha hp hF q hq => absurd hq List.not_mem_nil)
def qR579 : Room := { frames := 3, cells := 0, slots := 0, locals := 64 }
set_option maxHeartbeats 4000000 in
set_option maxRecDepth 100000 in
theorem qo579 {p : Program} {l : Launch} {e : Env} {s : State} {m : MethodId} {args : Array Value} {below : List Frame} {meth : Method} {c : Code} {s₁ : State} {Q : State → Prop} {D : zk_D} {base : Nat} {Hb : Heap} (B : BodyLoose p l yX12_weigh (headSpec (Jvm.Cond.code yX12_weigh prog_14_method_65_code 16 (some .int) :: zg_tb) qR579) prog_14_method_65_code 16 (some .int) e s m args below meth c s₁) (hml : c.maxLocals = 16) (hK : zg_K D base Hb s) : zk_ok p l e (headSpec (Jvm.Cond.code yX12_weigh prog_14_method_65_code 16 (some .int) :: zg_tb) qR579).room s m args below meth c Q qK D base Hb 16 prog_14_method_65_code qP579 qC579.2.2.2.2 := by
  have S : CallFix p m c prog_14_method_65_code 16 s args (Jvm.Cond.code yX12_weigh prog_14_method_65_code 16 (some .int) :: zg_tb) RX12 := ⟨B.exec, B.bytes, hml, findClass_of_methodNamed B.named, atoms_spec (ws := (Jvm.Cond.code yX12_weigh prog_14_method_65_code 16 (some .int) :: zg_tb)) B.pre⟩
  exact ⟨List.forall_mem_cons.mpr ⟨zg_gp S (hK.2.1 12 _ rfl) (fun w h => (List.mem_cons_of_mem _ (zc12 w h))) rfl zt12_52 (List.mem_cons_of_mem _ zw5_211) rfl, List.forall_mem_cons.mpr ⟨zg_gp S (hK.2.1 12 _ rfl) (fun w h => (List.mem_cons_of_mem _ (zc12 w h))) rfl zt12_44 (List.mem_cons_of_mem _ zw5_203) rfl, List.forall_mem_cons.mpr ⟨zg_gp4 S (hK.2.1 12 _ rfl) (fun w h => (List.mem_cons_of_mem _ (zc12 w h))) rfl zt12_48 (List.mem_cons_of_mem _ zw5_207), List.forall_mem_cons.mpr ⟨zg_gp4 S (hK.2.1 12 _ rfl) (fun w h => (List.mem_cons_of_mem _ (zc12 w h))) rfl zt12_32 (List.mem_cons_of_mem _ zw5_191), List.forall_mem_cons.mpr ⟨zg_gp4 S (hK.2.1 12 _ rfl) (fun w h => (List.mem_cons_of_mem _ (zc12 w h))) rfl zt12_34 (List.mem_cons_of_mem _ zw5_193), List.forall_mem_cons.mpr ⟨zg_gp4 S (hK.2.1 12 _ rfl) (fun w h => (List.mem_cons_of_mem _ (zc12 w h))) rfl zt12_51 (List.mem_cons_of_mem _ zw5_210), fun _ h => absurd h List.not_mem_nil⟩⟩⟩⟩⟩⟩,
    fun _ h => absurd h List.not_mem_nil,
    fun _ h => absurd h List.not_mem_nil,
    fun _ h => absurd h List.not_mem_nil,
    fun h => absurd rfl h,
    List.forall_mem_cons.mpr ⟨zg_kokL S (List.mem_cons_of_mem _ zw7_134) (by decide +kernel) (by decide +kernel), fun _ h => absurd h List.not_mem_nil⟩,
    List.forall_mem_cons.mpr ⟨zg_callS (fun w h => List.mem_cons_of_mem _ h) zg_tb_all S hK zg_Km qm578 zw7_131 zy_yX12_has_S (by decide +kernel) ⟨rfl, rfl⟩ (by decide +kernel), List.forall_mem_cons.mpr ⟨zg_callS (fun w h => List.mem_cons_of_mem _ h) zg_tb_all S hK zg_Km qm506 zw7_131 zy_yX12_has_S (by decide +kernel) ⟨rfl, rfl⟩ (by decide +kernel), List.forall_mem_cons.mpr ⟨zg_callV (fun w h => List.mem_cons_of_mem _ h) zg_tb_all S hK zg_Km qm510 zw7_135 zy_yX12_put_V (ci := 12) (by decide +kernel) (hK.2.1 12 _ rfl).2.1 ⟨rfl, rfl⟩ (by decide +kernel), fun _ h => absurd h List.not_mem_nil⟩⟩⟩⟩
theorem qm579 {l : Launch} {D : zk_D} {base : Nat} {Hb : Heap} : zk_Met l qK D base Hb (zg_K D base Hb) yX12_weigh (Jvm.Cond.code yX12_weigh prog_14_method_65_code 16 (some .int) :: zg_tb) qR579 qC579 := zk_met (ws' := zg_tb) (P := qP579) (AT := zg_AT) (by decide +kernel) rfl rfl rfl qk579 (fun s hK => zg_wd hK) (fun p e s m args below meth c s₁ Q B hml hK => qo579 B hml hK) (fun p e s m args below meth c s₁ v G0 H0 B hml hK ha hp hF q hq => absurd hq List.not_mem_nil)
def qR580 : Room := { frames := 4, cells := 0, slots := 0, locals := 99 }
set_option maxHeartbeats 4000000 in
set_option maxRecDepth 100000 in
theorem qo580 {p : Program} {l : Launch} {e : Env} {s : State} {m : MethodId} {args : Array Value} {below : List Frame} {meth : Method} {c : Code} {s₁ : State} {Q : State → Prop} {D : zk_D} {base : Nat} {Hb : Heap} (B : BodyLoose p l yX12_weighSwapped (headSpec (Jvm.Cond.code yX12_weighSwapped prog_14_method_92_code 7 (some .int) :: zg_tb) qR580) prog_14_method_92_code 7 (some .int) e s m args below meth c s₁) (hml : c.maxLocals = 7) (hK : zg_K D base Hb s) : zk_ok p l e (headSpec (Jvm.Cond.code yX12_weighSwapped prog_14_method_92_code 7 (some .int) :: zg_tb) qR580).room s m args below meth c Q qK D base Hb 7 prog_14_method_92_code qP580 qC580.2.2.2.2 := by
  have S : CallFix p m c prog_14_method_92_code 7 s args (Jvm.Cond.code yX12_weighSwapped prog_14_method_92_code 7 (some .int) :: zg_tb) RX12 := ⟨B.exec, B.bytes, hml, findClass_of_methodNamed B.named, atoms_spec (ws := (Jvm.Cond.code yX12_weighSwapped prog_14_method_92_code 7 (some .int) :: zg_tb)) B.pre⟩
  exact ⟨List.forall_mem_cons.mpr ⟨zg_gp4 S (hK.2.1 12 _ rfl) (fun w h => (List.mem_cons_of_mem _ (zc12 w h))) rfl zt12_34 (List.mem_cons_of_mem _ zw5_193), List.forall_mem_cons.mpr ⟨zg_gp4 S (hK.2.1 12 _ rfl) (fun w h => (List.mem_cons_of_mem _ (zc12 w h))) rfl zt12_32 (List.mem_cons_of_mem _ zw5_191), List.forall_mem_cons.mpr ⟨zg_gp4 S (hK.2.1 12 _ rfl) (fun w h => (List.mem_cons_of_mem _ (zc12 w h))) rfl zt12_64 (List.mem_cons_of_mem _ zw5_223), List.forall_mem_cons.mpr ⟨zg_gp S (hK.2.1 12 _ rfl) (fun w h => (List.mem_cons_of_mem _ (zc12 w h))) rfl zt12_65 (List.mem_cons_of_mem _ zw5_224) rfl, List.forall_mem_cons.mpr ⟨zg_gp4 S (hK.2.1 12 _ rfl) (fun w h => (List.mem_cons_of_mem _ (zc12 w h))) rfl zt12_62 (List.mem_cons_of_mem _ zw5_221), List.forall_mem_cons.mpr ⟨zg_gp4 S (hK.2.1 12 _ rfl) (fun w h => (List.mem_cons_of_mem _ (zc12 w h))) rfl zt12_63 (List.mem_cons_of_mem _ zw5_222), fun _ h => absurd h List.not_mem_nil⟩⟩⟩⟩⟩⟩,
    fun _ h => absurd h List.not_mem_nil,
    fun _ h => absurd h List.not_mem_nil,
    fun _ h => absurd h List.not_mem_nil,
    fun h => absurd rfl h,
    fun _ h => absurd h List.not_mem_nil,
    List.forall_mem_cons.mpr ⟨zg_callV (fun w h => List.mem_cons_of_mem _ h) zg_tb_all S hK zg_Km qm579 zw7_127 zy_yX12_weigh_V (ci := 12) (by decide +kernel) (hK.2.1 12 _ rfl).2.1 ⟨rfl, rfl⟩ (by decide +kernel), fun _ h => absurd h List.not_mem_nil⟩⟩
theorem qm580 {l : Launch} {D : zk_D} {base : Nat} {Hb : Heap} : zk_Met l qK D base Hb (zg_K D base Hb) yX12_weighSwapped (Jvm.Cond.code yX12_weighSwapped prog_14_method_92_code 7 (some .int) :: zg_tb) qR580 qC580 := zk_met (ws' := zg_tb) (P := qP580) (AT := zg_AT) (by decide +kernel) rfl rfl rfl qk580 (fun s hK => zg_wd hK) (fun p e s m args below meth c s₁ Q B hml hK => qo580 B hml hK) (fun p e s m args below meth c s₁ v G0 H0 B hml hK ha hp hF q hq => absurd hq List.not_mem_nil)
def qR581 : Room := { frames := 5, cells := 0, slots := 0, locals := 125 }
set_option maxHeartbeats 4000000 in
set_option maxRecDepth 100000 in
theorem qo581 {p : Program} {l : Launch} {e : Env} {s : State} {m : MethodId} {args : Array Value} {below : List Frame} {meth : Method} {c : Code} {s₁ : State} {Q : State → Prop} {D : zk_D} {base : Nat} {Hb : Heap} (B : BodyLoose p l yX12_findRound (headSpec (Jvm.Cond.code yX12_findRound prog_14_method_93_code 7 (some .boolean) :: zg_tb) qR581) prog_14_method_93_code 7 (some .boolean) e s m args below meth c s₁) (hml : c.maxLocals = 7) (hK : zg_K D base Hb s) : zk_ok p l e (headSpec (Jvm.Cond.code yX12_findRound prog_14_method_93_code 7 (some .boolean) :: zg_tb) qR581).room s m args below meth c Q qK D base Hb 7 prog_14_method_93_code qP581 qC581.2.2.2.2 := by
  have S : CallFix p m c prog_14_method_93_code 7 s args (Jvm.Cond.code yX12_findRound prog_14_method_93_code 7 (some .boolean) :: zg_tb) RX12 := ⟨B.exec, B.bytes, hml, findClass_of_methodNamed B.named, atoms_spec (ws := (Jvm.Cond.code yX12_findRound prog_14_method_93_code 7 (some .boolean) :: zg_tb)) B.pre⟩
  exact ⟨List.forall_mem_cons.mpr ⟨zg_gp S (hK.2.1 12 _ rfl) (fun w h => (List.mem_cons_of_mem _ (zc12 w h))) rfl zt12_0 (List.mem_cons_of_mem _ zw5_159) rfl, List.forall_mem_cons.mpr ⟨zg_gp S (hK.2.1 12 _ rfl) (fun w h => (List.mem_cons_of_mem _ (zc12 w h))) rfl zt12_66 (List.mem_cons_of_mem _ zw5_225) rfl, List.forall_mem_cons.mpr ⟨zg_gp S (hK.2.1 12 _ rfl) (fun w h => (List.mem_cons_of_mem _ (zc12 w h))) rfl zt12_67 (List.mem_cons_of_mem _ zw5_226) rfl, List.forall_mem_cons.mpr ⟨zg_gp S (hK.2.1 12 _ rfl) (fun w h => (List.mem_cons_of_mem _ (zc12 w h))) rfl zt12_65 (List.mem_cons_of_mem _ zw5_224) rfl, fun _ h => absurd h List.not_mem_nil⟩⟩⟩⟩,
    fun _ h => absurd h List.not_mem_nil,
    fun _ h => absurd h List.not_mem_nil,
    fun _ h => absurd h List.not_mem_nil,
    fun h => absurd rfl h,
    fun _ h => absurd h List.not_mem_nil,
    List.forall_mem_cons.mpr ⟨zg_callV (fun w h => List.mem_cons_of_mem _ h) zg_tb_all S hK zg_Km qm471 zw7_80 zy_yX12_isLetter_V (ci := 12) (by decide +kernel) (hK.2.1 12 _ rfl).2.1 ⟨rfl, rfl⟩ (by decide +kernel), List.forall_mem_cons.mpr ⟨zg_callV (fun w h => List.mem_cons_of_mem _ h) zg_tb_all S hK zg_Km qm422 zw7_119 zy_yX12_gather_V (ci := 12) (by decide +kernel) (hK.2.1 12 _ rfl).2.1 ⟨rfl, rfl⟩ (by decide +kernel), List.forall_mem_cons.mpr ⟨zg_callS (fun w h => List.mem_cons_of_mem _ h) zg_tb_all S hK zg_Km qm576 zw8_2 zy_yJ6_bitCount_0f7a4_S (by decide +kernel) ⟨rfl, rfl⟩ (by decide +kernel), List.forall_mem_cons.mpr ⟨zg_callS (fun w h => List.mem_cons_of_mem _ h) zg_tb_all S hK zg_Km qm577 zw8_2 zy_yJ6_bitCount_0f7a4_S (by decide +kernel) ⟨rfl, rfl⟩ (by decide +kernel), List.forall_mem_cons.mpr ⟨zg_callV (fun w h => List.mem_cons_of_mem _ h) zg_tb_all S hK zg_Km qm580 zw8_19 zy_yX12_weighSwapped_V (ci := 12) (by decide +kernel) (hK.2.1 12 _ rfl).2.1 ⟨rfl, rfl⟩ (by decide +kernel), fun _ h => absurd h List.not_mem_nil⟩⟩⟩⟩⟩⟩
theorem qm581 {l : Launch} {D : zk_D} {base : Nat} {Hb : Heap} : zk_Met l qK D base Hb (zg_K D base Hb) yX12_findRound (Jvm.Cond.code yX12_findRound prog_14_method_93_code 7 (some .boolean) :: zg_tb) qR581 qC581 := zk_met (ws' := zg_tb) (P := qP581) (AT := zg_AT) (by decide +kernel) rfl rfl rfl qk581 (fun s hK => zg_wd hK) (fun p e s m args below meth c s₁ Q B hml hK => qo581 B hml hK) (fun p e s m args below meth c s₁ v G0 H0 B hml hK ha hp hF q hq => absurd hq List.not_mem_nil)
def qR582 : Room := { frames := 1, cells := 0, slots := 0, locals := 20 }
set_option maxHeartbeats 4000000 in
set_option maxRecDepth 100000 in
theorem qo582 {p : Program} {l : Launch} {e : Env} {s : State} {m : MethodId} {args : Array Value} {below : List Frame} {meth : Method} {c : Code} {s₁ : State} {Q : State → Prop} {D : zk_D} {base : Nat} {Hb : Heap} (B : BodyLoose p l yJ6_bitCount_0f7a4 (headSpec (Jvm.Cond.code yJ6_bitCount_0f7a4 prog_17_method_49_code 1 (some .int) :: zg_tb) qR582) prog_17_method_49_code 1 (some .int) e s m args below meth c s₁) (hml : c.maxLocals = 1) (hK : zg_K D base Hb s) : zk_ok p l e (headSpec (Jvm.Cond.code yJ6_bitCount_0f7a4 prog_17_method_49_code 1 (some .int) :: zg_tb) qR582).room s m args below meth c Q qK D base Hb 1 prog_17_method_49_code qP582 qC582.2.2.2.2 := by
  have S : CallFix p m c prog_17_method_49_code 1 s args (Jvm.Cond.code yJ6_bitCount_0f7a4 prog_17_method_49_code 1 (some .int) :: zg_tb) RJ6 := ⟨B.exec, B.bytes, hml, findClass_of_methodNamed B.named, atoms_spec (ws := (Jvm.Cond.code yJ6_bitCount_0f7a4 prog_17_method_49_code 1 (some .int) :: zg_tb)) B.pre⟩
  exact ⟨fun _ h => absurd h List.not_mem_nil,
    fun _ h => absurd h List.not_mem_nil,
    fun _ h => absurd h List.not_mem_nil,
    fun _ h => absurd h List.not_mem_nil,
    fun h => absurd rfl h,
    List.forall_mem_cons.mpr ⟨zg_kokW S (List.mem_cons_of_mem _ zw5_69) (by decide +kernel) (by decide +kernel), List.forall_mem_cons.mpr ⟨zg_kokW S (List.mem_cons_of_mem _ zw5_70) (by decide +kernel) (by decide +kernel), List.forall_mem_cons.mpr ⟨zg_kokW S (List.mem_cons_of_mem _ zw5_70) (by decide +kernel) (by decide +kernel), List.forall_mem_cons.mpr ⟨zg_kokW S (List.mem_cons_of_mem _ zw5_71) (by decide +kernel) (by decide +kernel), fun _ h => absurd h List.not_mem_nil⟩⟩⟩⟩,
    fun _ h => absurd h List.not_mem_nil⟩
theorem qm582 {l : Launch} {D : zk_D} {base : Nat} {Hb : Heap} : zk_Met l qK D base Hb (zg_K D base Hb) yJ6_bitCount_0f7a4 (Jvm.Cond.code yJ6_bitCount_0f7a4 prog_17_method_49_code 1 (some .int) :: zg_tb) qR582 qC582 := zk_met (ws' := zg_tb) (P := qP582) (AT := zg_AT) (by decide +kernel) rfl rfl rfl qk582 (fun s hK => zg_wd hK) (fun p e s m args below meth c s₁ Q B hml hK => qo582 B hml hK) (fun p e s m args below meth c s₁ v G0 H0 B hml hK ha hp hF q hq => absurd hq List.not_mem_nil)
def qR583 : Room := { frames := 6, cells := 0, slots := 0, locals := 151 }
set_option maxHeartbeats 4000000 in
set_option maxRecDepth 100000 in
theorem qo583 {p : Program} {l : Launch} {e : Env} {s : State} {m : MethodId} {args : Array Value} {below : List Frame} {meth : Method} {c : Code} {s₁ : State} {Q : State → Prop} {D : zk_D} {base : Nat} {Hb : Heap} (B : BodyLoose p l yX12_round (headSpec (Jvm.Cond.code yX12_round prog_14_method_94_code 4 (some .int) :: zg_tb) qR583) prog_14_method_94_code 4 (some .int) e s m args below meth c s₁) (hml : c.maxLocals = 4) (hK : zg_K D base Hb s) : zk_ok p l e (headSpec (Jvm.Cond.code yX12_round prog_14_method_94_code 4 (some .int) :: zg_tb) qR583).room s m args below meth c Q qK D base Hb 4 prog_14_method_94_code qP583 qC583.2.2.2.2 := by
  have S : CallFix p m c prog_14_method_94_code 4 s args (Jvm.Cond.code yX12_round prog_14_method_94_code 4 (some .int) :: zg_tb) RX12 := ⟨B.exec, B.bytes, hml, findClass_of_methodNamed B.named, atoms_spec (ws := (Jvm.Cond.code yX12_round prog_14_method_94_code 4 (some .int) :: zg_tb)) B.pre⟩
  exact ⟨List.forall_mem_cons.mpr ⟨zg_gp S (hK.2.1 12 _ rfl) (fun w h => (List.mem_cons_of_mem _ (zc12 w h))) rfl zt12_66 (List.mem_cons_of_mem _ zw5_225) rfl, List.forall_mem_cons.mpr ⟨zg_gp S (hK.2.1 12 _ rfl) (fun w h => (List.mem_cons_of_mem _ (zc12 w h))) rfl zt12_67 (List.mem_cons_of_mem _ zw5_226) rfl, fun _ h => absurd h List.not_mem_nil⟩⟩,
    fun _ h => absurd h List.not_mem_nil,
    fun _ h => absurd h List.not_mem_nil,
    fun _ h => absurd h List.not_mem_nil,
    fun h => absurd rfl h,
    fun _ h => absurd h List.not_mem_nil,
    List.forall_mem_cons.mpr ⟨zg_callS (fun w h => List.mem_cons_of_mem _ h) zg_tb_all S hK zg_Km qm575 zw6_145 zy_yX12_in_S (by decide +kernel) ⟨rfl, rfl⟩ (by decide +kernel), List.forall_mem_cons.mpr ⟨zg_callV (fun w h => List.mem_cons_of_mem _ h) zg_tb_all S hK zg_Km qm581 zw8_15 zy_yX12_findRound_V (ci := 12) (by decide +kernel) (hK.2.1 12 _ rfl).2.1 ⟨rfl, rfl⟩ (by decide +kernel), List.forall_mem_cons.mpr ⟨zg_callS (fun w h => List.mem_cons_of_mem _ h) zg_tb_all S hK zg_Km qm582 zw8_2 zy_yJ6_bitCount_0f7a4_S (by decide +kernel) ⟨rfl, rfl⟩ (by decide +kernel), fun _ h => absurd h List.not_mem_nil⟩⟩⟩⟩
theorem qm583 {l : Launch} {D : zk_D} {base : Nat} {Hb : Heap} : zk_Met l qK D base Hb (zg_K D base Hb) yX12_round (Jvm.Cond.code yX12_round prog_14_method_94_code 4 (some .int) :: zg_tb) qR583 qC583 := zk_met (ws' := zg_tb) (P := qP583) (AT := zg_AT) (by decide +kernel) rfl rfl rfl qk583 (fun s hK => zg_wd hK) (fun p e s m args below meth c s₁ Q B hml hK => qo583 B hml hK) (fun p e s m args below meth c s₁ v G0 H0 B hml hK ha hp hF q hq => absurd hq List.not_mem_nil)
def qR584 : Room := { frames := 1, cells := 0, slots := 0, locals := 20 }
set_option maxHeartbeats 4000000 in
set_option maxRecDepth 100000 in
theorem qo584 {p : Program} {l : Launch} {e : Env} {s : State} {m : MethodId} {args : Array Value} {below : List Frame} {meth : Method} {c : Code} {s₁ : State} {Q : State → Prop} {D : zk_D} {base : Nat} {Hb : Heap} (B : BodyLoose p l yX11_ends (headSpec (Jvm.Cond.code yX11_ends prog_1_method_34_code 8 (some .int) :: zg_tb) qR584) prog_1_method_34_code 8 (some .int) e s m args below meth c s₁) (hml : c.maxLocals = 8) (hK : zg_K D base Hb s) : zk_ok p l e (headSpec (Jvm.Cond.code yX11_ends prog_1_method_34_code 8 (some .int) :: zg_tb) qR584).room s m args below meth c Q qK D base Hb 8 prog_1_method_34_code qP584 qC584.2.2.2.2 := by
  have S : CallFix p m c prog_1_method_34_code 8 s args (Jvm.Cond.code yX11_ends prog_1_method_34_code 8 (some .int) :: zg_tb) RX11 := ⟨B.exec, B.bytes, hml, findClass_of_methodNamed B.named, atoms_spec (ws := (Jvm.Cond.code yX11_ends prog_1_method_34_code 8 (some .int) :: zg_tb)) B.pre⟩
  exact ⟨fun _ h => absurd h List.not_mem_nil,
    fun _ h => absurd h List.not_mem_nil,
    fun _ h => absurd h List.not_mem_nil,
    fun _ h => absurd h List.not_mem_nil,
    fun h => absurd rfl h,
    List.forall_mem_cons.mpr ⟨zg_kokW S (List.mem_cons_of_mem _ zw5_113) (by decide +kernel) (by decide +kernel), List.forall_mem_cons.mpr ⟨zg_kokW S (List.mem_cons_of_mem _ zw5_113) (by decide +kernel) (by decide +kernel), fun _ h => absurd h List.not_mem_nil⟩⟩,
    fun _ h => absurd h List.not_mem_nil⟩
theorem qm584 {l : Launch} {D : zk_D} {base : Nat} {Hb : Heap} : zk_Met l qK D base Hb (zg_K D base Hb) yX11_ends (Jvm.Cond.code yX11_ends prog_1_method_34_code 8 (some .int) :: zg_tb) qR584 qC584 := zk_met (ws' := zg_tb) (P := qP584) (AT := zg_AT) (by decide +kernel) rfl rfl rfl qk584 (fun s hK => zg_wd hK) (fun p e s m args below meth c s₁ Q B hml hK => qo584 B hml hK) (fun p e s m args below meth c s₁ v G0 H0 B hml hK ha hp hF q hq => absurd hq List.not_mem_nil)
def qR585 : Room := { frames := 1, cells := 0, slots := 0, locals := 20 }
set_option maxHeartbeats 4000000 in
set_option maxRecDepth 100000 in
theorem qo585 {p : Program} {l : Launch} {e : Env} {s : State} {m : MethodId} {args : Array Value} {below : List Frame} {meth : Method} {c : Code} {s₁ : State} {Q : State → Prop} {D : zk_D} {base : Nat} {Hb : Heap} (B : BodyLoose p l yX12_in (headSpec (Jvm.Cond.code yX12_in prog_14_method_1_code 3 (some .boolean) :: zg_tb) qR585) prog_14_method_1_code 3 (some .boolean) e s m args below meth c s₁) (hml : c.maxLocals = 3) (hK : zg_K D base Hb s) : zk_ok p l e (headSpec (Jvm.Cond.code yX12_in prog_14_method_1_code 3 (some .boolean) :: zg_tb) qR585).room s m args below meth c Q qK D base Hb 3 prog_14_method_1_code qP585 qC585.2.2.2.2 := by
  have S : CallFix p m c prog_14_method_1_code 3 s args (Jvm.Cond.code yX12_in prog_14_method_1_code 3 (some .boolean) :: zg_tb) RX12 := ⟨B.exec, B.bytes, hml, findClass_of_methodNamed B.named, atoms_spec (ws := (Jvm.Cond.code yX12_in prog_14_method_1_code 3 (some .boolean) :: zg_tb)) B.pre⟩
  exact ⟨fun _ h => absurd h List.not_mem_nil,
    fun _ h => absurd h List.not_mem_nil,
    fun _ h => absurd h List.not_mem_nil,
    fun _ h => absurd h List.not_mem_nil,
    fun h => absurd rfl h,
    fun _ h => absurd h List.not_mem_nil,
    fun _ h => absurd h List.not_mem_nil⟩
theorem qm585 {l : Launch} {D : zk_D} {base : Nat} {Hb : Heap} : zk_Met l qK D base Hb (zg_K D base Hb) yX12_in (Jvm.Cond.code yX12_in prog_14_method_1_code 3 (some .boolean) :: zg_tb) qR585 qC585 := zk_met (ws' := zg_tb) (P := qP585) (AT := zg_AT) (by decide +kernel) rfl rfl rfl qk585 (fun s hK => zg_wd hK) (fun p e s m args below meth c s₁ Q B hml hK => qo585 B hml hK) (fun p e s m args below meth c s₁ v G0 H0 B hml hK ha hp hF q hq => absurd hq List.not_mem_nil)
def qR586 : Room := { frames := 1, cells := 0, slots := 0, locals := 20 }
set_option maxHeartbeats 4000000 in
set_option maxRecDepth 100000 in
theorem qo586 {p : Program} {l : Launch} {e : Env} {s : State} {m : MethodId} {args : Array Value} {below : List Frame} {meth : Method} {c : Code} {s₁ : State} {Q : State → Prop} {D : zk_D} {base : Nat} {Hb : Heap} (B : BodyLoose p l yX12_in (headSpec (Jvm.Cond.code yX12_in prog_14_method_1_code 3 (some .boolean) :: zg_tb) qR586) prog_14_method_1_code 3 (some .boolean) e s m args below meth c s₁) (hml : c.maxLocals = 3) (hK : zg_K D base Hb s) : zk_ok p l e (headSpec (Jvm.Cond.code yX12_in prog_14_method_1_code 3 (some .boolean) :: zg_tb) qR586).room s m args below meth c Q qK D base Hb 3 prog_14_method_1_code qP586 qC586.2.2.2.2 := by
  have S : CallFix p m c prog_14_method_1_code 3 s args (Jvm.Cond.code yX12_in prog_14_method_1_code 3 (some .boolean) :: zg_tb) RX12 := ⟨B.exec, B.bytes, hml, findClass_of_methodNamed B.named, atoms_spec (ws := (Jvm.Cond.code yX12_in prog_14_method_1_code 3 (some .boolean) :: zg_tb)) B.pre⟩
  exact ⟨fun _ h => absurd h List.not_mem_nil,
    fun _ h => absurd h List.not_mem_nil,
    fun _ h => absurd h List.not_mem_nil,
    fun _ h => absurd h List.not_mem_nil,
    fun h => absurd rfl h,
    fun _ h => absurd h List.not_mem_nil,
    fun _ h => absurd h List.not_mem_nil⟩
theorem qm586 {l : Launch} {D : zk_D} {base : Nat} {Hb : Heap} : zk_Met l qK D base Hb (zg_K D base Hb) yX12_in (Jvm.Cond.code yX12_in prog_14_method_1_code 3 (some .boolean) :: zg_tb) qR586 qC586 := zk_met (ws' := zg_tb) (P := qP586) (AT := zg_AT) (by decide +kernel) rfl rfl rfl qk586 (fun s hK => zg_wd hK) (fun p e s m args below meth c s₁ Q B hml hK => qo586 B hml hK) (fun p e s m args below meth c s₁ v G0 H0 B hml hK ha hp hF q hq => absurd hq List.not_mem_nil)
def qR587 : Room := { frames := 1, cells := 0, slots := 0, locals := 20 }
set_option maxHeartbeats 4000000 in
set_option maxRecDepth 100000 in
theorem qo587 {p : Program} {l : Launch} {e : Env} {s : State} {m : MethodId} {args : Array Value} {below : List Frame} {meth : Method} {c : Code} {s₁ : State} {Q : State → Prop} {D : zk_D} {base : Nat} {Hb : Heap} (B : BodyLoose p l yX12_in (headSpec (Jvm.Cond.code yX12_in prog_14_method_1_code 3 (some .boolean) :: zg_tb) qR587) prog_14_method_1_code 3 (some .boolean) e s m args below meth c s₁) (hml : c.maxLocals = 3) (hK : zg_K D base Hb s) : zk_ok p l e (headSpec (Jvm.Cond.code yX12_in prog_14_method_1_code 3 (some .boolean) :: zg_tb) qR587).room s m args below meth c Q qK D base Hb 3 prog_14_method_1_code qP587 qC587.2.2.2.2 := by
  have S : CallFix p m c prog_14_method_1_code 3 s args (Jvm.Cond.code yX12_in prog_14_method_1_code 3 (some .boolean) :: zg_tb) RX12 := ⟨B.exec, B.bytes, hml, findClass_of_methodNamed B.named, atoms_spec (ws := (Jvm.Cond.code yX12_in prog_14_method_1_code 3 (some .boolean) :: zg_tb)) B.pre⟩
  exact ⟨fun _ h => absurd h List.not_mem_nil,
    fun _ h => absurd h List.not_mem_nil,
    fun _ h => absurd h List.not_mem_nil,
    fun _ h => absurd h List.not_mem_nil,
    fun h => absurd rfl h,
    fun _ h => absurd h List.not_mem_nil,
    fun _ h => absurd h List.not_mem_nil⟩
theorem qm587 {l : Launch} {D : zk_D} {base : Nat} {Hb : Heap} : zk_Met l qK D base Hb (zg_K D base Hb) yX12_in (Jvm.Cond.code yX12_in prog_14_method_1_code 3 (some .boolean) :: zg_tb) qR587 qC587 := zk_met (ws' := zg_tb) (P := qP587) (AT := zg_AT) (by decide +kernel) rfl rfl rfl qk587 (fun s hK => zg_wd hK) (fun p e s m args below meth c s₁ Q B hml hK => qo587 B hml hK) (fun p e s m args below meth c s₁ v G0 H0 B hml hK ha hp hF q hq => absurd hq List.not_mem_nil)
def qR588 : Room := { frames := 1, cells := 0, slots := 0, locals := 20 }
set_option maxHeartbeats 4000000 in
set_option maxRecDepth 100000 in
theorem qo588 {p : Program} {l : Launch} {e : Env} {s : State} {m : MethodId} {args : Array Value} {below : List Frame} {meth : Method} {c : Code} {s₁ : State} {Q : State → Prop} {D : zk_D} {base : Nat} {Hb : Heap} (B : BodyLoose p l yX12_in (headSpec (Jvm.Cond.code yX12_in prog_14_method_1_code 3 (some .boolean) :: zg_tb) qR588) prog_14_method_1_code 3 (some .boolean) e s m args below meth c s₁) (hml : c.maxLocals = 3) (hK : zg_K D base Hb s) : zk_ok p l e (headSpec (Jvm.Cond.code yX12_in prog_14_method_1_code 3 (some .boolean) :: zg_tb) qR588).room s m args below meth c Q qK D base Hb 3 prog_14_method_1_code qP588 qC588.2.2.2.2 := by
  have S : CallFix p m c prog_14_method_1_code 3 s args (Jvm.Cond.code yX12_in prog_14_method_1_code 3 (some .boolean) :: zg_tb) RX12 := ⟨B.exec, B.bytes, hml, findClass_of_methodNamed B.named, atoms_spec (ws := (Jvm.Cond.code yX12_in prog_14_method_1_code 3 (some .boolean) :: zg_tb)) B.pre⟩
  exact ⟨fun _ h => absurd h List.not_mem_nil,
    fun _ h => absurd h List.not_mem_nil,
    fun _ h => absurd h List.not_mem_nil,
    fun _ h => absurd h List.not_mem_nil,
    fun h => absurd rfl h,
    fun _ h => absurd h List.not_mem_nil,
    fun _ h => absurd h List.not_mem_nil⟩
theorem qm588 {l : Launch} {D : zk_D} {base : Nat} {Hb : Heap} : zk_Met l qK D base Hb (zg_K D base Hb) yX12_in (Jvm.Cond.code yX12_in prog_14_method_1_code 3 (some .boolean) :: zg_tb) qR588 qC588 := zk_met (ws' := zg_tb) (P := qP588) (AT := zg_AT) (by decide +kernel) rfl rfl rfl qk588 (fun s hK => zg_wd hK) (fun p e s m args below meth c s₁ Q B hml hK => qo588 B hml hK) (fun p e s m args below meth c s₁ v G0 H0 B hml hK ha hp hF q hq => absurd hq List.not_mem_nil)
def qR589 : Room := { frames := 2, cells := 0, slots := 0, locals := 42 }
set_option maxHeartbeats 4000000 in
set_option maxRecDepth 100000 in
theorem qo589 {p : Program} {l : Launch} {e : Env} {s : State} {m : MethodId} {args : Array Value} {below : List Frame} {meth : Method} {c : Code} {s₁ : State} {Q : State → Prop} {D : zk_D} {base : Nat} {Hb : Heap} (B : BodyLoose p l yX12_ends (headSpec (Jvm.Cond.code yX12_ends prog_14_method_95_code 6 (some .int) :: zg_tb) qR589) prog_14_method_95_code 6 (some .int) e s m args below meth c s₁) (hml : c.maxLocals = 6) (hK : zg_K D base Hb s) : zk_ok p l e (headSpec (Jvm.Cond.code yX12_ends prog_14_method_95_code 6 (some .int) :: zg_tb) qR589).room s m args below meth c Q qK D base Hb 6 prog_14_method_95_code qP589 qC589.2.2.2.2 := by
  have S : CallFix p m c prog_14_method_95_code 6 s args (Jvm.Cond.code yX12_ends prog_14_method_95_code 6 (some .int) :: zg_tb) RX12 := ⟨B.exec, B.bytes, hml, findClass_of_methodNamed B.named, atoms_spec (ws := (Jvm.Cond.code yX12_ends prog_14_method_95_code 6 (some .int) :: zg_tb)) B.pre⟩
  exact ⟨fun _ h => absurd h List.not_mem_nil,
    fun _ h => absurd h List.not_mem_nil,
    fun _ h => absurd h List.not_mem_nil,
    fun _ h => absurd h List.not_mem_nil,
    fun h => absurd rfl h,
    List.forall_mem_cons.mpr ⟨zg_kokW S (List.mem_cons_of_mem _ zw8_27) (by decide +kernel) (by decide +kernel), List.forall_mem_cons.mpr ⟨zg_kokW S (List.mem_cons_of_mem _ zw8_27) (by decide +kernel) (by decide +kernel), fun _ h => absurd h List.not_mem_nil⟩⟩,
    List.forall_mem_cons.mpr ⟨zg_callS (fun w h => List.mem_cons_of_mem _ h) zg_tb_all S hK zg_Km qm585 zw6_145 zy_yX12_in_S (by decide +kernel) ⟨rfl, rfl⟩ (by decide +kernel), List.forall_mem_cons.mpr ⟨zg_callS (fun w h => List.mem_cons_of_mem _ h) zg_tb_all S hK zg_Km qm586 zw6_145 zy_yX12_in_S (by decide +kernel) ⟨rfl, rfl⟩ (by decide +kernel), List.forall_mem_cons.mpr ⟨zg_callS (fun w h => List.mem_cons_of_mem _ h) zg_tb_all S hK zg_Km qm587 zw6_145 zy_yX12_in_S (by decide +kernel) ⟨rfl, rfl⟩ (by decide +kernel), List.forall_mem_cons.mpr ⟨zg_callS (fun w h => List.mem_cons_of_mem _ h) zg_tb_all S hK zg_Km qm588 zw6_145 zy_yX12_in_S (by decide +kernel) ⟨rfl, rfl⟩ (by decide +kernel), fun _ h => absurd h List.not_mem_nil⟩⟩⟩⟩⟩
theorem qm589 {l : Launch} {D : zk_D} {base : Nat} {Hb : Heap} : zk_Met l qK D base Hb (zg_K D base Hb) yX12_ends (Jvm.Cond.code yX12_ends prog_14_method_95_code 6 (some .int) :: zg_tb) qR589 qC589 := zk_met (ws' := zg_tb) (P := qP589) (AT := zg_AT) (by decide +kernel) rfl rfl rfl qk589 (fun s hK => zg_wd hK) (fun p e s m args below meth c s₁ Q B hml hK => qo589 B hml hK) (fun p e s m args below meth c s₁ v G0 H0 B hml hK ha hp hF q hq => absurd hq List.not_mem_nil)
def qR590 : Room := { frames := 1, cells := 0, slots := 0, locals := 20 }
set_option maxHeartbeats 4000000 in
set_option maxRecDepth 100000 in
theorem qo590 {p : Program} {l : Launch} {e : Env} {s : State} {m : MethodId} {args : Array Value} {below : List Frame} {meth : Method} {c : Code} {s₁ : State} {Q : State → Prop} {D : zk_D} {base : Nat} {Hb : Heap} (B : BodyLoose p l yJ7_fill_53178 (headSpec (Jvm.Cond.code yJ7_fill_53178 prog_23_method_103_code 4 none :: zg_tb) qR590) prog_23_method_103_code 4 none e s m args below meth c s₁) (hml : c.maxLocals = 4) (hK : zg_K D base Hb s) : zk_ok p l e (headSpec (Jvm.Cond.code yJ7_fill_53178 prog_23_method_103_code 4 none :: zg_tb) qR590).room s m args below meth c Q qK D base Hb 4 prog_23_method_103_code qP590 qC590.2.2.2.2 := by
  have S : CallFix p m c prog_23_method_103_code 4 s args (Jvm.Cond.code yJ7_fill_53178 prog_23_method_103_code 4 none :: zg_tb) RJ7 := ⟨B.exec, B.bytes, hml, findClass_of_methodNamed B.named, atoms_spec (ws := (Jvm.Cond.code yJ7_fill_53178 prog_23_method_103_code 4 none :: zg_tb)) B.pre⟩
  exact ⟨fun _ h => absurd h List.not_mem_nil,
    fun _ h => absurd h List.not_mem_nil,
    fun _ h => absurd h List.not_mem_nil,
    fun _ h => absurd h List.not_mem_nil,
    fun h => absurd rfl h,
    fun _ h => absurd h List.not_mem_nil,
    fun _ h => absurd h List.not_mem_nil⟩
theorem qm590 {l : Launch} {D : zk_D} {base : Nat} {Hb : Heap} : zk_Met l qK D base Hb (zg_K D base Hb) yJ7_fill_53178 (Jvm.Cond.code yJ7_fill_53178 prog_23_method_103_code 4 none :: zg_tb) qR590 qC590 := zk_met (ws' := zg_tb) (P := qP590) (AT := zg_AT) (by decide +kernel) rfl rfl rfl qk590 (fun s hK => zg_wd hK) (fun p e s m args below meth c s₁ Q B hml hK => qo590 B hml hK) (fun p e s m args below meth c s₁ v G0 H0 B hml hK ha hp hF q hq => absurd hq List.not_mem_nil)
def qR591 : Room := { frames := 1, cells := 0, slots := 0, locals := 20 }
set_option maxHeartbeats 4000000 in
set_option maxRecDepth 100000 in
theorem qo591 {p : Program} {l : Launch} {e : Env} {s : State} {m : MethodId} {args : Array Value} {below : List Frame} {meth : Method} {c : Code} {s₁ : State} {Q : State → Prop} {D : zk_D} {base : Nat} {Hb : Heap} (B : BodyLoose p l yX1_readsAs (headSpec (Jvm.Cond.code yX1_readsAs prog_3_method_5_code 3 (some .boolean) :: zg_tb) qR591) prog_3_method_5_code 3 (some .boolean) e s m args below meth c s₁) (hml : c.maxLocals = 3) (hK : zg_K D base Hb s) : zk_ok p l e (headSpec (Jvm.Cond.code yX1_readsAs prog_3_method_5_code 3 (some .boolean) :: zg_tb) qR591).room s m args below meth c Q qK D base Hb 3 prog_3_method_5_code qP591 qC591.2.2.2.2 := by
  have S : CallFix p m c prog_3_method_5_code 3 s args (Jvm.Cond.code yX1_readsAs prog_3_method_5_code 3 (some .boolean) :: zg_tb) RX1 := ⟨B.exec, B.bytes, hml, findClass_of_methodNamed B.named, atoms_spec (ws := (Jvm.Cond.code yX1_readsAs prog_3_method_5_code 3 (some .boolean) :: zg_tb)) B.pre⟩
  exact ⟨List.forall_mem_cons.mpr ⟨zg_gp S (hK.2.1 1 _ rfl) (fun w h => (List.mem_cons_of_mem _ (zc1 w h))) rfl zt1_10 (List.mem_cons_of_mem _ zw3_232) rfl, List.forall_mem_cons.mpr ⟨zg_gp4 S (hK.2.1 9 _ rfl) (fun w h => (List.mem_cons_of_mem _ (zc9 w h))) rfl zt9_0 (List.mem_cons_of_mem _ zw4_113), fun _ h => absurd h List.not_mem_nil⟩⟩,
    fun _ h => absurd h List.not_mem_nil,
    fun _ h => absurd h List.not_mem_nil,
    fun _ h => absurd h List.not_mem_nil,
    fun h => absurd rfl h,
    fun _ h => absurd h List.not_mem_nil,
    fun _ h => absurd h List.not_mem_nil⟩
theorem qm591 {l : Launch} {D : zk_D} {base : Nat} {Hb : Heap} : zk_Met l qK D base Hb (zg_K D base Hb) yX1_readsAs (Jvm.Cond.code yX1_readsAs prog_3_method_5_code 3 (some .boolean) :: zg_tb) qR591 qC591 := zk_met (ws' := zg_tb) (P := qP591) (AT := zg_AT) (by decide +kernel) rfl rfl rfl qk591 (fun s hK => zg_wd hK) (fun p e s m args below meth c s₁ Q B hml hK => qo591 B hml hK) (fun p e s m args below meth c s₁ v G0 H0 B hml hK ha hp hF q hq => absurd hq List.not_mem_nil)
def qR592 : Room := { frames := 1, cells := 0, slots := 0, locals := 20 }
set_option maxHeartbeats 4000000 in
set_option maxRecDepth 100000 in
theorem qo592 {p : Program} {l : Launch} {e : Env} {s : State} {m : MethodId} {args : Array Value} {below : List Frame} {meth : Method} {c : Code} {s₁ : State} {Q : State → Prop} {D : zk_D} {base : Nat} {Hb : Heap} (B : BodyLoose p l yJ9_max_7cf53 (headSpec (Jvm.Cond.code yJ9_max_7cf53 prog_18_method_65_code 2 (some .int) :: zg_tb) qR592) prog_18_method_65_code 2 (some .int) e s m args below meth c s₁) (hml : c.maxLocals = 2) (hK : zg_K D base Hb s) : zk_ok p l e (headSpec (Jvm.Cond.code yJ9_max_7cf53 prog_18_method_65_code 2 (some .int) :: zg_tb) qR592).room s m args below meth c Q qK D base Hb 2 prog_18_method_65_code qP592 qC592.2.2.2.2 := by
  have S : CallFix p m c prog_18_method_65_code 2 s args (Jvm.Cond.code yJ9_max_7cf53 prog_18_method_65_code 2 (some .int) :: zg_tb) RJ9 := ⟨B.exec, B.bytes, hml, findClass_of_methodNamed B.named, atoms_spec (ws := (Jvm.Cond.code yJ9_max_7cf53 prog_18_method_65_code 2 (some .int) :: zg_tb)) B.pre⟩
  exact ⟨fun _ h => absurd h List.not_mem_nil,
    fun _ h => absurd h List.not_mem_nil,
    fun _ h => absurd h List.not_mem_nil,
    fun _ h => absurd h List.not_mem_nil,
    fun h => absurd rfl h,
    fun _ h => absurd h List.not_mem_nil,
    fun _ h => absurd h List.not_mem_nil⟩
theorem qm592 {l : Launch} {D : zk_D} {base : Nat} {Hb : Heap} : zk_Met l qK D base Hb (zg_K D base Hb) yJ9_max_7cf53 (Jvm.Cond.code yJ9_max_7cf53 prog_18_method_65_code 2 (some .int) :: zg_tb) qR592 qC592 := zk_metF (ws' := zg_tb) (P := qP592) (AT := zg_AT) (by decide +kernel) rfl rfl rfl qk592 (fun s hK => zg_wd hK) (fun p e s m args below meth c s₁ Q B hml hK => qo592 B hml hK) (fun p e s m args below meth c s₁ v G0 H0 B hml hK ha hp hF q hq => absurd hq List.not_mem_nil)
def qR593 : Room := { frames := 1, cells := 0, slots := 0, locals := 20 }
set_option maxHeartbeats 4000000 in
set_option maxRecDepth 100000 in
theorem qo593 {p : Program} {l : Launch} {e : Env} {s : State} {m : MethodId} {args : Array Value} {below : List Frame} {meth : Method} {c : Code} {s₁ : State} {Q : State → Prop} {D : zk_D} {base : Nat} {Hb : Heap} (B : BodyLoose p l yJ9_min_7cf53 (headSpec (Jvm.Cond.code yJ9_min_7cf53 prog_18_method_69_code 2 (some .int) :: zg_tb) qR593) prog_18_method_69_code 2 (some .int) e s m args below meth c s₁) (hml : c.maxLocals = 2) (hK : zg_K D base Hb s) : zk_ok p l e (headSpec (Jvm.Cond.code yJ9_min_7cf53 prog_18_method_69_code 2 (some .int) :: zg_tb) qR593).room s m args below meth c Q qK D base Hb 2 prog_18_method_69_code qP593 qC593.2.2.2.2 := by
  have S : CallFix p m c prog_18_method_69_code 2 s args (Jvm.Cond.code yJ9_min_7cf53 prog_18_method_69_code 2 (some .int) :: zg_tb) RJ9 := ⟨B.exec, B.bytes, hml, findClass_of_methodNamed B.named, atoms_spec (ws := (Jvm.Cond.code yJ9_min_7cf53 prog_18_method_69_code 2 (some .int) :: zg_tb)) B.pre⟩
  exact ⟨fun _ h => absurd h List.not_mem_nil,
    fun _ h => absurd h List.not_mem_nil,
    fun _ h => absurd h List.not_mem_nil,
    fun _ h => absurd h List.not_mem_nil,
    fun h => absurd rfl h,
    fun _ h => absurd h List.not_mem_nil,
    fun _ h => absurd h List.not_mem_nil⟩
theorem qm593 {l : Launch} {D : zk_D} {base : Nat} {Hb : Heap} : zk_Met l qK D base Hb (zg_K D base Hb) yJ9_min_7cf53 (Jvm.Cond.code yJ9_min_7cf53 prog_18_method_69_code 2 (some .int) :: zg_tb) qR593 qC593 := zk_metF (ws' := zg_tb) (P := qP593) (AT := zg_AT) (by decide +kernel) rfl rfl rfl qk593 (fun s hK => zg_wd hK) (fun p e s m args below meth c s₁ Q B hml hK => qo593 B hml hK) (fun p e s m args below meth c s₁ v G0 H0 B hml hK ha hp hF q hq => absurd hq List.not_mem_nil)
def qR594 : Room := { frames := 2, cells := 0, slots := 0, locals := 42 }
set_option maxHeartbeats 4000000 in
set_option maxRecDepth 100000 in
theorem qo594 {p : Program} {l : Launch} {e : Env} {s : State} {m : MethodId} {args : Array Value} {below : List Frame} {meth : Method} {c : Code} {s₁ : State} {Q : State → Prop} {D : zk_D} {base : Nat} {Hb : Heap} (B : BodyLoose p l yX11_joinHands (headSpec (Jvm.Cond.code yX11_joinHands prog_1_method_59_code 8 none :: zg_tb) qR594) prog_1_method_59_code 8 none e s m args below meth c s₁) (hml : c.maxLocals = 8) (hK : zg_K D base Hb s) : zk_ok p l e (headSpec (Jvm.Cond.code yX11_joinHands prog_1_method_59_code 8 none :: zg_tb) qR594).room s m args below meth c Q qK D base Hb 8 prog_1_method_59_code qP594 qC594.2.2.2.2 := by
  have S : CallFix p m c prog_1_method_59_code 8 s args (Jvm.Cond.code yX11_joinHands prog_1_method_59_code 8 none :: zg_tb) RX11 := ⟨B.exec, B.bytes, hml, findClass_of_methodNamed B.named, atoms_spec (ws := (Jvm.Cond.code yX11_joinHands prog_1_method_59_code 8 none :: zg_tb)) B.pre⟩
  exact ⟨List.forall_mem_cons.mpr ⟨zg_gp4 S (hK.2.1 11 _ rfl) (fun w h => (List.mem_cons_of_mem _ (zc11 w h))) rfl zt11_0 (List.mem_cons_of_mem _ zw2_53), List.forall_mem_cons.mpr ⟨zg_gp4 S (hK.2.1 4 _ rfl) (fun w h => (List.mem_cons_of_mem _ (zc4 w h))) rfl zt4_2 (List.mem_cons_of_mem _ zw1_41), List.forall_mem_cons.mpr ⟨zg_gp4 S (hK.2.1 11 _ rfl) (fun w h => (List.mem_cons_of_mem _ (zc11 w h))) rfl zt11_7 (List.mem_cons_of_mem _ zw2_60), List.forall_mem_cons.mpr ⟨zg_gp4 S (hK.2.1 1 _ rfl) (fun w h => (List.mem_cons_of_mem _ (zc1 w h))) rfl zt1_0 (List.mem_cons_of_mem _ zw3_214), List.forall_mem_cons.mpr ⟨zg_gp4 S (hK.2.1 11 _ rfl) (fun w h => (List.mem_cons_of_mem _ (zc11 w h))) rfl zt11_12 (List.mem_cons_of_mem _ zw2_65), fun _ h => absurd h List.not_mem_nil⟩⟩⟩⟩⟩,
    fun _ h => absurd h List.not_mem_nil,
    fun _ h => absurd h List.not_mem_nil,
    fun _ h => absurd h List.not_mem_nil,
    fun h => absurd rfl h,
    fun _ h => absurd h List.not_mem_nil,
    List.forall_mem_cons.mpr ⟨zg_callV (fun w h => List.mem_cons_of_mem _ h) zg_tb_all S hK zg_Km qm591 zw5_123 zy_yX1_readsAs_V (ci := 1) (by decide +kernel) (hK.2.1 1 _ rfl).2.1 ⟨rfl, rfl⟩ (by decide +kernel), List.forall_mem_cons.mpr ⟨zg_callS (fun w h => List.mem_cons_of_mem _ h) zg_tb_all S hK zg_Km qm592 zw5_127 zy_yJ9_max_7cf53_S (by decide +kernel) ⟨rfl, rfl⟩ (by decide +kernel), List.forall_mem_cons.mpr ⟨zg_callS (fun w h => List.mem_cons_of_mem _ h) zg_tb_all S hK zg_Km qm593 zw3_147 zy_yJ9_min_7cf53_S (by decide +kernel) ⟨rfl, rfl⟩ (by decide +kernel), fun _ h => absurd h List.not_mem_nil⟩⟩⟩⟩
theorem qm594 {l : Launch} {D : zk_D} {base : Nat} {Hb : Heap} : zk_Met l qK D base Hb (zg_K D base Hb) yX11_joinHands (Jvm.Cond.code yX11_joinHands prog_1_method_59_code 8 none :: zg_tb) qR594 qC594 := zk_met (ws' := zg_tb) (P := qP594) (AT := zg_AT) (by decide +kernel) rfl rfl rfl qk594 (fun s hK => zg_wd hK) (fun p e s m args below meth c s₁ Q B hml hK => qo594 B hml hK) (fun p e s m args below meth c s₁ v G0 H0 B hml hK ha hp hF q hq => absurd hq List.not_mem_nil)
def qR595 : Room := { frames := 3, cells := 0, slots := 0, locals := 69 }
set_option maxHeartbeats 4000000 in
set_option maxRecDepth 100000 in
theorem qo595 {p : Program} {l : Launch} {e : Env} {s : State} {m : MethodId} {args : Array Value} {below : List Frame} {meth : Method} {c : Code} {s₁ : State} {Q : State → Prop} {D : zk_D} {base : Nat} {Hb : Heap} (B : BodyLoose p l yX11_hands (headSpec (Jvm.Cond.code yX11_hands prog_1_method_35_code 5 (some .int) :: zg_tb) qR595) prog_1_method_35_code 5 (some .int) e s m args below meth c s₁) (hml : c.maxLocals = 5) (hK : zg_K D base Hb s) : zk_ok p l e (headSpec (Jvm.Cond.code yX11_hands prog_1_method_35_code 5 (some .int) :: zg_tb) qR595).room s m args below meth c Q qK D base Hb 5 prog_1_method_35_code qP595 qC595.2.2.2.2 := by
  have S : CallFix p m c prog_1_method_35_code 5 s args (Jvm.Cond.code yX11_hands prog_1_method_35_code 5 (some .int) :: zg_tb) RX11 := ⟨B.exec, B.bytes, hml, findClass_of_methodNamed B.named, atoms_spec (ws := (Jvm.Cond.code yX11_hands prog_1_method_35_code 5 (some .int) :: zg_tb)) B.pre⟩
  exact ⟨List.forall_mem_cons.mpr ⟨zg_gp4 S (hK.2.1 11 _ rfl) (fun w h => (List.mem_cons_of_mem _ (zc11 w h))) rfl zt11_12 (List.mem_cons_of_mem _ zw2_65), List.forall_mem_cons.mpr ⟨zg_gp S (hK.2.1 11 _ rfl) (fun w h => (List.mem_cons_of_mem _ (zc11 w h))) rfl zt11_15 (List.mem_cons_of_mem _ zw2_68) rfl, List.forall_mem_cons.mpr ⟨zg_gp4 S (hK.2.1 11 _ rfl) (fun w h => (List.mem_cons_of_mem _ (zc11 w h))) rfl zt11_7 (List.mem_cons_of_mem _ zw2_60), List.forall_mem_cons.mpr ⟨zg_gp4 S (hK.2.1 1 _ rfl) (fun w h => (List.mem_cons_of_mem _ (zc1 w h))) rfl zt1_4 (List.mem_cons_of_mem _ zw3_222), List.forall_mem_cons.mpr ⟨zg_gp4 S (hK.2.1 11 _ rfl) (fun w h => (List.mem_cons_of_mem _ (zc11 w h))) rfl zt11_0 (List.mem_cons_of_mem _ zw2_53), List.forall_mem_cons.mpr ⟨zg_gp4 S (hK.2.1 4 _ rfl) (fun w h => (List.mem_cons_of_mem _ (zc4 w h))) rfl zt4_2 (List.mem_cons_of_mem _ zw1_41), List.forall_mem_cons.mpr ⟨zg_gp4 S (hK.2.1 1 _ rfl) (fun w h => (List.mem_cons_of_mem _ (zc1 w h))) rfl zt1_0 (List.mem_cons_of_mem _ zw3_214), fun _ h => absurd h List.not_mem_nil⟩⟩⟩⟩⟩⟩⟩,
    fun _ h => absurd h List.not_mem_nil,
    fun _ h => absurd h List.not_mem_nil,
    fun _ h => absurd h List.not_mem_nil,
    fun h => absurd rfl h,
    fun _ h => absurd h List.not_mem_nil,
    List.forall_mem_cons.mpr ⟨zg_callV (fun w h => List.mem_cons_of_mem _ h) zg_tb_all S hK zg_Km qm377 zw3_108 zy_yX11_isPast_V (ci := 11) (by decide +kernel) (hK.2.1 11 _ rfl).2.1 ⟨rfl, rfl⟩ (by decide +kernel), List.forall_mem_cons.mpr ⟨zg_callS (fun w h => List.mem_cons_of_mem _ h) zg_tb_all S hK zg_Km qm590 zw5_118 zy_yJ7_fill_53178_S (by decide +kernel) ⟨rfl, rfl⟩ (by decide +kernel), List.forall_mem_cons.mpr ⟨zg_callV (fun w h => List.mem_cons_of_mem _ h) zg_tb_all S hK zg_Km qm594 zw5_119 zy_yX11_joinHands_V (ci := 11) (by decide +kernel) (hK.2.1 11 _ rfl).2.1 ⟨rfl, rfl⟩ (by decide +kernel), fun _ h => absurd h List.not_mem_nil⟩⟩⟩⟩
theorem qm595 {l : Launch} {D : zk_D} {base : Nat} {Hb : Heap} : zk_Met l qK D base Hb (zg_K D base Hb) yX11_hands (Jvm.Cond.code yX11_hands prog_1_method_35_code 5 (some .int) :: zg_tb) qR595 qC595 := zk_met (ws' := zg_tb) (P := qP595) (AT := zg_AT) (by decide +kernel) rfl rfl rfl qk595 (fun s hK => zg_wd hK) (fun p e s m args below meth c s₁ Q B hml hK => qo595 B hml hK) (fun p e s m args below meth c s₁ v G0 H0 B hml hK ha hp hF q hq => absurd hq List.not_mem_nil)
def qR596 : Room := { frames := 1, cells := 0, slots := 0, locals := 20 }
set_option maxHeartbeats 4000000 in
set_option maxRecDepth 100000 in
theorem qo596 {p : Program} {l : Launch} {e : Env} {s : State} {m : MethodId} {args : Array Value} {below : List Frame} {meth : Method} {c : Code} {s₁ : State} {Q : State → Prop} {D : zk_D} {base : Nat} {Hb : Heap} (B : BodyLoose p l yX12_areAlike (headSpec (Jvm.Cond.code yX12_areAlike prog_14_method_96_code 4 (some .boolean) :: zg_tb) qR596) prog_14_method_96_code 4 (some .boolean) e s m args below meth c s₁) (hml : c.maxLocals = 4) (hK : zg_K D base Hb s) : zk_ok p l e (headSpec (Jvm.Cond.code yX12_areAlike prog_14_method_96_code 4 (some .boolean) :: zg_tb) qR596).room s m args below meth c Q qK D base Hb 4 prog_14_method_96_code qP596 qC596.2.2.2.2 := by
  have S : CallFix p m c prog_14_method_96_code 4 s args (Jvm.Cond.code yX12_areAlike prog_14_method_96_code 4 (some .boolean) :: zg_tb) RX12 := ⟨B.exec, B.bytes, hml, findClass_of_methodNamed B.named, atoms_spec (ws := (Jvm.Cond.code yX12_areAlike prog_14_method_96_code 4 (some .boolean) :: zg_tb)) B.pre⟩
  exact ⟨List.forall_mem_cons.mpr ⟨zg_gp4 S (hK.2.1 12 _ rfl) (fun w h => (List.mem_cons_of_mem _ (zc12 w h))) rfl zt12_34 (List.mem_cons_of_mem _ zw5_193), List.forall_mem_cons.mpr ⟨zg_gp4 S (hK.2.1 12 _ rfl) (fun w h => (List.mem_cons_of_mem _ (zc12 w h))) rfl zt12_32 (List.mem_cons_of_mem _ zw5_191), fun _ h => absurd h List.not_mem_nil⟩⟩,
    fun _ h => absurd h List.not_mem_nil,
    fun _ h => absurd h List.not_mem_nil,
    fun _ h => absurd h List.not_mem_nil,
    fun h => absurd rfl h,
    fun _ h => absurd h List.not_mem_nil,
    fun _ h => absurd h List.not_mem_nil⟩
theorem qm596 {l : Launch} {D : zk_D} {base : Nat} {Hb : Heap} : zk_Met l qK D base Hb (zg_K D base Hb) yX12_areAlike (Jvm.Cond.code yX12_areAlike prog_14_method_96_code 4 (some .boolean) :: zg_tb) qR596 qC596 := zk_met (ws' := zg_tb) (P := qP596) (AT := zg_AT) (by decide +kernel) rfl rfl rfl qk596 (fun s hK => zg_wd hK) (fun p e s m args below meth c s₁ Q B hml hK => qo596 B hml hK) (fun p e s m args below meth c s₁ v G0 H0 B hml hK ha hp hF q hq => absurd hq List.not_mem_nil)
def qR597 : Room := { frames := 3, cells := 0, slots := 0, locals := 63 }
set_option maxHeartbeats 4000000 in
set_option maxRecDepth 100000 in
theorem qo597 {p : Program} {l : Launch} {e : Env} {s : State} {m : MethodId} {args : Array Value} {below : List Frame} {meth : Method} {c : Code} {s₁ : State} {Q : State → Prop} {D : zk_D} {base : Nat} {Hb : Heap} (B : BodyLoose p l yX12_hands (headSpec (Jvm.Cond.code yX12_hands prog_14_method_97_code 7 (some .int) :: zg_tb) qR597) prog_14_method_97_code 7 (some .int) e s m args below meth c s₁) (hml : c.maxLocals = 7) (hK : zg_K D base Hb s) : zk_ok p l e (headSpec (Jvm.Cond.code yX12_hands prog_14_method_97_code 7 (some .int) :: zg_tb) qR597).room s m args below meth c Q qK D base Hb 7 prog_14_method_97_code qP597 qC597.2.2.2.2 := by
  have S : CallFix p m c prog_14_method_97_code 7 s args (Jvm.Cond.code yX12_hands prog_14_method_97_code 7 (some .int) :: zg_tb) RX12 := ⟨B.exec, B.bytes, hml, findClass_of_methodNamed B.named, atoms_spec (ws := (Jvm.Cond.code yX12_hands prog_14_method_97_code 7 (some .int) :: zg_tb)) B.pre⟩
  exact ⟨List.forall_mem_cons.mpr ⟨zg_gp S (hK.2.1 12 _ rfl) (fun w h => (List.mem_cons_of_mem _ (zc12 w h))) rfl zt12_6 (List.mem_cons_of_mem _ zw5_165) rfl, List.forall_mem_cons.mpr ⟨zg_gp4 S (hK.2.1 12 _ rfl) (fun w h => (List.mem_cons_of_mem _ (zc12 w h))) rfl zt12_68 (List.mem_cons_of_mem _ zw5_227), List.forall_mem_cons.mpr ⟨zg_gp S (hK.2.1 12 _ rfl) (fun w h => (List.mem_cons_of_mem _ (zc12 w h))) rfl zt12_44 (List.mem_cons_of_mem _ zw5_203) rfl, List.forall_mem_cons.mpr ⟨zg_gp4 S (hK.2.1 12 _ rfl) (fun w h => (List.mem_cons_of_mem _ (zc12 w h))) rfl zt12_3 (List.mem_cons_of_mem _ zw5_162), List.forall_mem_cons.mpr ⟨zg_gp4 S (hK.2.1 12 _ rfl) (fun w h => (List.mem_cons_of_mem _ (zc12 w h))) rfl zt12_35 (List.mem_cons_of_mem _ zw5_194), List.forall_mem_cons.mpr ⟨zg_gp4 S (hK.2.1 12 _ rfl) (fun w h => (List.mem_cons_of_mem _ (zc12 w h))) rfl zt12_39 (List.mem_cons_of_mem _ zw5_198), fun _ h => absurd h List.not_mem_nil⟩⟩⟩⟩⟩⟩,
    fun _ h => absurd h List.not_mem_nil,
    fun _ h => absurd h List.not_mem_nil,
    fun _ h => absurd h List.not_mem_nil,
    fun h => absurd rfl h,
    fun _ h => absurd h List.not_mem_nil,
    List.forall_mem_cons.mpr ⟨zg_callV (fun w h => List.mem_cons_of_mem _ h) zg_tb_all S hK zg_Km qm383 zw7_57 zy_yX12_isKnowing_V (ci := 12) (by decide +kernel) (hK.2.1 12 _ rfl).2.1 ⟨rfl, rfl⟩ (by decide +kernel), List.forall_mem_cons.mpr ⟨zg_callV (fun w h => List.mem_cons_of_mem _ h) zg_tb_all S hK zg_Km qm596 zw8_32 zy_yX12_areAlike_V (ci := 12) (by decide +kernel) (hK.2.1 12 _ rfl).2.1 ⟨rfl, rfl⟩ (by decide +kernel), fun _ h => absurd h List.not_mem_nil⟩⟩⟩
theorem qm597 {l : Launch} {D : zk_D} {base : Nat} {Hb : Heap} : zk_Met l qK D base Hb (zg_K D base Hb) yX12_hands (Jvm.Cond.code yX12_hands prog_14_method_97_code 7 (some .int) :: zg_tb) qR597 qC597 := zk_met (ws' := zg_tb) (P := qP597) (AT := zg_AT) (by decide +kernel) rfl rfl rfl qk597 (fun s hK => zg_wd hK) (fun p e s m args below meth c s₁ Q B hml hK => qo597 B hml hK) (fun p e s m args below meth c s₁ v G0 H0 B hml hK ha hp hF q hq => absurd hq List.not_mem_nil)
def qR598 : Room := { frames := 1, cells := 0, slots := 0, locals := 20 }
set_option maxHeartbeats 4000000 in
set_option maxRecDepth 100000 in
theorem qo598 {p : Program} {l : Launch} {e : Env} {s : State} {m : MethodId} {args : Array Value} {below : List Frame} {meth : Method} {c : Code} {s₁ : State} {Q : State → Prop} {D : zk_D} {base : Nat} {Hb : Heap} (B : BodyLoose p l yX11_measure (headSpec (Jvm.Cond.code yX11_measure prog_1_method_36_code 2 (some .int) :: zg_tb) qR598) prog_1_method_36_code 2 (some .int) e s m args below meth c s₁) (hml : c.maxLocals = 2) (hK : zg_K D base Hb s) : zk_ok p l e (headSpec (Jvm.Cond.code yX11_measure prog_1_method_36_code 2 (some .int) :: zg_tb) qR598).room s m args below meth c Q qK D base Hb 2 prog_1_method_36_code qP598 qC598.2.2.2.2 := by
  have S : CallFix p m c prog_1_method_36_code 2 s args (Jvm.Cond.code yX11_measure prog_1_method_36_code 2 (some .int) :: zg_tb) RX11 := ⟨B.exec, B.bytes, hml, findClass_of_methodNamed B.named, atoms_spec (ws := (Jvm.Cond.code yX11_measure prog_1_method_36_code 2 (some .int) :: zg_tb)) B.pre⟩
  exact ⟨List.forall_mem_cons.mpr ⟨zg_gp S (hK.2.1 11 _ rfl) (fun w h => (List.mem_cons_of_mem _ (zc11 w h))) rfl zt11_16 (List.mem_cons_of_mem _ zw2_69) rfl, List.forall_mem_cons.mpr ⟨zg_gp4 S (hK.2.1 11 _ rfl) (fun w h => (List.mem_cons_of_mem _ (zc11 w h))) rfl zt11_10 (List.mem_cons_of_mem _ zw2_63), fun _ h => absurd h List.not_mem_nil⟩⟩,
    fun _ h => absurd h List.not_mem_nil,
    fun _ h => absurd h List.not_mem_nil,
    fun _ h => absurd h List.not_mem_nil,
    fun h => absurd rfl h,
    List.forall_mem_cons.mpr ⟨zg_kokW S (List.mem_cons_of_mem _ zw5_132) (by decide +kernel) (by decide +kernel), fun _ h => absurd h List.not_mem_nil⟩,
    fun _ h => absurd h List.not_mem_nil⟩
theorem qm598 {l : Launch} {D : zk_D} {base : Nat} {Hb : Heap} : zk_Met l qK D base Hb (zg_K D base Hb) yX11_measure (Jvm.Cond.code yX11_measure prog_1_method_36_code 2 (some .int) :: zg_tb) qR598 qC598 := zk_met (ws' := zg_tb) (P := qP598) (AT := zg_AT) (by decide +kernel) rfl rfl rfl qk598 (fun s hK => zg_wd hK) (fun p e s m args below meth c s₁ Q B hml hK => qo598 B hml hK) (fun p e s m args below meth c s₁ v G0 H0 B hml hK ha hp hF q hq => absurd hq List.not_mem_nil)
def qR599 : Room := { frames := 1, cells := 0, slots := 0, locals := 20 }
set_option maxHeartbeats 4000000 in
set_option maxRecDepth 100000 in
theorem qo599 {p : Program} {l : Launch} {e : Env} {s : State} {m : MethodId} {args : Array Value} {below : List Frame} {meth : Method} {c : Code} {s₁ : State} {Q : State → Prop} {D : zk_D} {base : Nat} {Hb : Heap} (B : BodyLoose p l yX12_in (headSpec (Jvm.Cond.code yX12_in prog_14_method_1_code 3 (some .boolean) :: zg_tb) qR599) prog_14_method_1_code 3 (some .boolean) e s m args below meth c s₁) (hml : c.maxLocals = 3) (hK : zg_K D base Hb s) : zk_ok p l e (headSpec (Jvm.Cond.code yX12_in prog_14_method_1_code 3 (some .boolean) :: zg_tb) qR599).room s m args below meth c Q qK D base Hb 3 prog_14_method_1_code qP599 qC599.2.2.2.2 := by
  have S : CallFix p m c prog_14_method_1_code 3 s args (Jvm.Cond.code yX12_in prog_14_method_1_code 3 (some .boolean) :: zg_tb) RX12 := ⟨B.exec, B.bytes, hml, findClass_of_methodNamed B.named, atoms_spec (ws := (Jvm.Cond.code yX12_in prog_14_method_1_code 3 (some .boolean) :: zg_tb)) B.pre⟩
  exact ⟨fun _ h => absurd h List.not_mem_nil,
    fun _ h => absurd h List.not_mem_nil,
    fun _ h => absurd h List.not_mem_nil,
    fun _ h => absurd h List.not_mem_nil,
    fun h => absurd rfl h,
    fun _ h => absurd h List.not_mem_nil,
    fun _ h => absurd h List.not_mem_nil⟩
theorem qm599 {l : Launch} {D : zk_D} {base : Nat} {Hb : Heap} : zk_Met l qK D base Hb (zg_K D base Hb) yX12_in (Jvm.Cond.code yX12_in prog_14_method_1_code 3 (some .boolean) :: zg_tb) qR599 qC599 := zk_met (ws' := zg_tb) (P := qP599) (AT := zg_AT) (by decide +kernel) rfl rfl rfl qk599 (fun s hK => zg_wd hK) (fun p e s m args below meth c s₁ Q B hml hK => qo599 B hml hK) (fun p e s m args below meth c s₁ v G0 H0 B hml hK ha hp hF q hq => absurd hq List.not_mem_nil)
def qR600 : Room := { frames := 2, cells := 0, slots := 0, locals := 42 }
set_option maxHeartbeats 4000000 in
set_option maxRecDepth 100000 in
theorem qo600 {p : Program} {l : Launch} {e : Env} {s : State} {m : MethodId} {args : Array Value} {below : List Frame} {meth : Method} {c : Code} {s₁ : State} {Q : State → Prop} {D : zk_D} {base : Nat} {Hb : Heap} (B : BodyLoose p l yX12_measure (headSpec (Jvm.Cond.code yX12_measure prog_14_method_98_code 2 (some .int) :: zg_tb) qR600) prog_14_method_98_code 2 (some .int) e s m args below meth c s₁) (hml : c.maxLocals = 2) (hK : zg_K D base Hb s) : zk_ok p l e (headSpec (Jvm.Cond.code yX12_measure prog_14_method_98_code 2 (some .int) :: zg_tb) qR600).room s m args below meth c Q qK D base Hb 2 prog_14_method_98_code qP600 qC600.2.2.2.2 := by
  have S : CallFix p m c prog_14_method_98_code 2 s args (Jvm.Cond.code yX12_measure prog_14_method_98_code 2 (some .int) :: zg_tb) RX12 := ⟨B.exec, B.bytes, hml, findClass_of_methodNamed B.named, atoms_spec (ws := (Jvm.Cond.code yX12_measure prog_14_method_98_code 2 (some .int) :: zg_tb)) B.pre⟩
  exact ⟨List.forall_mem_cons.mpr ⟨zg_gp S (hK.2.1 12 _ rfl) (fun w h => (List.mem_cons_of_mem _ (zc12 w h))) rfl zt12_70 (List.mem_cons_of_mem _ zw5_229) rfl, List.forall_mem_cons.mpr ⟨zg_gp4 S (hK.2.1 12 _ rfl) (fun w h => (List.mem_cons_of_mem _ (zc12 w h))) rfl zt12_69 (List.mem_cons_of_mem _ zw5_228), fun _ h => absurd h List.not_mem_nil⟩⟩,
    fun _ h => absurd h List.not_mem_nil,
    fun _ h => absurd h List.not_mem_nil,
    fun _ h => absurd h List.not_mem_nil,
    fun h => absurd rfl h,
    List.forall_mem_cons.mpr ⟨zg_kokW S (List.mem_cons_of_mem _ zw8_40) (by decide +kernel) (by decide +kernel), fun _ h => absurd h List.not_mem_nil⟩,
    List.forall_mem_cons.mpr ⟨zg_callS (fun w h => List.mem_cons_of_mem _ h) zg_tb_all S hK zg_Km qm599 zw6_145 zy_yX12_in_S (by decide +kernel) ⟨rfl, rfl⟩ (by decide +kernel), fun _ h => absurd h List.not_mem_nil⟩⟩
theorem qm600 {l : Launch} {D : zk_D} {base : Nat} {Hb : Heap} : zk_Met l qK D base Hb (zg_K D base Hb) yX12_measure (Jvm.Cond.code yX12_measure prog_14_method_98_code 2 (some .int) :: zg_tb) qR600 qC600 := zk_met (ws' := zg_tb) (P := qP600) (AT := zg_AT) (by decide +kernel) rfl rfl rfl qk600 (fun s hK => zg_wd hK) (fun p e s m args below meth c s₁ Q B hml hK => qo600 B hml hK) (fun p e s m args below meth c s₁ v G0 H0 B hml hK ha hp hF q hq => absurd hq List.not_mem_nil)
def qR601 : Room := { frames := 1, cells := 0, slots := 0, locals := 20 }
set_option maxHeartbeats 4000000 in
set_option maxRecDepth 100000 in
theorem qo601 {p : Program} {l : Launch} {e : Env} {s : State} {m : MethodId} {args : Array Value} {below : List Frame} {meth : Method} {c : Code} {s₁ : State} {Q : State → Prop} {D : zk_D} {base : Nat} {Hb : Heap} (B : BodyLoose p l yX11_markedBits (headSpec (Jvm.Cond.code yX11_markedBits prog_1_method_60_code 4 (some .int) :: zg_tb) qR601) prog_1_method_60_code 4 (some .int) e s m args below meth c s₁) (hml : c.maxLocals = 4) (hK : zg_K D base Hb s) : zk_ok p l e (headSpec (Jvm.Cond.code yX11_markedBits prog_1_method_60_code 4 (some .int) :: zg_tb) qR601).room s m args below meth c Q qK D base Hb 4 prog_1_method_60_code qP601 qC601.2.2.2.2 := by
  have S : CallFix p m c prog_1_method_60_code 4 s args (Jvm.Cond.code yX11_markedBits prog_1_method_60_code 4 (some .int) :: zg_tb) RX11 := ⟨B.exec, B.bytes, hml, findClass_of_methodNamed B.named, atoms_spec (ws := (Jvm.Cond.code yX11_markedBits prog_1_method_60_code 4 (some .int) :: zg_tb)) B.pre⟩
  exact ⟨List.forall_mem_cons.mpr ⟨zg_gp S (hK.2.1 11 _ rfl) (fun w h => (List.mem_cons_of_mem _ (zc11 w h))) rfl zt11_15 (List.mem_cons_of_mem _ zw2_68) rfl, List.forall_mem_cons.mpr ⟨zg_gp4 S (hK.2.1 11 _ rfl) (fun w h => (List.mem_cons_of_mem _ (zc11 w h))) rfl zt11_8 (List.mem_cons_of_mem _ zw2_61), List.forall_mem_cons.mpr ⟨zg_gp4 S (hK.2.1 3 _ rfl) (fun w h => (List.mem_cons_of_mem _ (zc3 w h))) rfl zt3_3 (List.mem_cons_of_mem _ zw2_12), fun _ h => absurd h List.not_mem_nil⟩⟩⟩,
    fun _ h => absurd h List.not_mem_nil,
    fun _ h => absurd h List.not_mem_nil,
    fun _ h => absurd h List.not_mem_nil,
    fun h => absurd rfl h,
    fun _ h => absurd h List.not_mem_nil,
    fun _ h => absurd h List.not_mem_nil⟩
theorem qm601 {l : Launch} {D : zk_D} {base : Nat} {Hb : Heap} : zk_Met l qK D base Hb (zg_K D base Hb) yX11_markedBits (Jvm.Cond.code yX11_markedBits prog_1_method_60_code 4 (some .int) :: zg_tb) qR601 qC601 := zk_met (ws' := zg_tb) (P := qP601) (AT := zg_AT) (by decide +kernel) rfl rfl rfl qk601 (fun s hK => zg_wd hK) (fun p e s m args below meth c s₁ Q B hml hK => qo601 B hml hK) (fun p e s m args below meth c s₁ v G0 H0 B hml hK ha hp hF q hq => absurd hq List.not_mem_nil)
def qR602 : Room := { frames := 1, cells := 0, slots := 0, locals := 20 }
set_option maxHeartbeats 4000000 in
set_option maxRecDepth 100000 in
theorem qo602 {p : Program} {l : Launch} {e : Env} {s : State} {m : MethodId} {args : Array Value} {below : List Frame} {meth : Method} {c : Code} {s₁ : State} {Q : State → Prop} {D : zk_D} {base : Nat} {Hb : Heap} (B : BodyLoose p l yX11_stoppedBy (headSpec (Jvm.Cond.code yX11_stoppedBy prog_1_method_61_code 4 (some .int) :: zg_tb) qR602) prog_1_method_61_code 4 (some .int) e s m args below meth c s₁) (hml : c.maxLocals = 4) (hK : zg_K D base Hb s) : zk_ok p l e (headSpec (Jvm.Cond.code yX11_stoppedBy prog_1_method_61_code 4 (some .int) :: zg_tb) qR602).room s m args below meth c Q qK D base Hb 4 prog_1_method_61_code qP602 qC602.2.2.2.2 := by
  have S : CallFix p m c prog_1_method_61_code 4 s args (Jvm.Cond.code yX11_stoppedBy prog_1_method_61_code 4 (some .int) :: zg_tb) RX11 := ⟨B.exec, B.bytes, hml, findClass_of_methodNamed B.named, atoms_spec (ws := (Jvm.Cond.code yX11_stoppedBy prog_1_method_61_code 4 (some .int) :: zg_tb)) B.pre⟩
  exact ⟨List.forall_mem_cons.mpr ⟨zg_gp S (hK.2.1 11 _ rfl) (fun w h => (List.mem_cons_of_mem _ (zc11 w h))) rfl zt11_16 (List.mem_cons_of_mem _ zw2_69) rfl, List.forall_mem_cons.mpr ⟨zg_gp4 S (hK.2.1 11 _ rfl) (fun w h => (List.mem_cons_of_mem _ (zc11 w h))) rfl zt11_10 (List.mem_cons_of_mem _ zw2_63), fun _ h => absurd h List.not_mem_nil⟩⟩,
    fun _ h => absurd h List.not_mem_nil,
    fun _ h => absurd h List.not_mem_nil,
    fun _ h => absurd h List.not_mem_nil,
    fun h => absurd rfl h,
    fun _ h => absurd h List.not_mem_nil,
    fun _ h => absurd h List.not_mem_nil⟩
theorem qm602 {l : Launch} {D : zk_D} {base : Nat} {Hb : Heap} : zk_Met l qK D base Hb (zg_K D base Hb) yX11_stoppedBy (Jvm.Cond.code yX11_stoppedBy prog_1_method_61_code 4 (some .int) :: zg_tb) qR602 qC602 := zk_met (ws' := zg_tb) (P := qP602) (AT := zg_AT) (by decide +kernel) rfl rfl rfl qk602 (fun s hK => zg_wd hK) (fun p e s m args below meth c s₁ Q B hml hK => qo602 B hml hK) (fun p e s m args below meth c s₁ v G0 H0 B hml hK ha hp hF q hq => absurd hq List.not_mem_nil)
def qR603 : Room := { frames := 1, cells := 0, slots := 0, locals := 20 }
set_option maxHeartbeats 4000000 in
set_option maxRecDepth 100000 in
theorem qo603 {p : Program} {l : Launch} {e : Env} {s : State} {m : MethodId} {args : Array Value} {below : List Frame} {meth : Method} {c : Code} {s₁ : State} {Q : State → Prop} {D : zk_D} {base : Nat} {Hb : Heap} (B : BodyLoose p l yJ6_bitCount_0f7a4 (headSpec (Jvm.Cond.code yJ6_bitCount_0f7a4 prog_17_method_49_code 1 (some .int) :: zg_tb) qR603) prog_17_method_49_code 1 (some .int) e s m args below meth c s₁) (hml : c.maxLocals = 1) (hK : zg_K D base Hb s) : zk_ok p l e (headSpec (Jvm.Cond.code yJ6_bitCount_0f7a4 prog_17_method_49_code 1 (some .int) :: zg_tb) qR603).room s m args below meth c Q qK D base Hb 1 prog_17_method_49_code qP603 qC603.2.2.2.2 := by
  have S : CallFix p m c prog_17_method_49_code 1 s args (Jvm.Cond.code yJ6_bitCount_0f7a4 prog_17_method_49_code 1 (some .int) :: zg_tb) RJ6 := ⟨B.exec, B.bytes, hml, findClass_of_methodNamed B.named, atoms_spec (ws := (Jvm.Cond.code yJ6_bitCount_0f7a4 prog_17_method_49_code 1 (some .int) :: zg_tb)) B.pre⟩
  exact ⟨fun _ h => absurd h List.not_mem_nil,
    fun _ h => absurd h List.not_mem_nil,
    fun _ h => absurd h List.not_mem_nil,
    fun _ h => absurd h List.not_mem_nil,
    fun h => absurd rfl h,
    List.forall_mem_cons.mpr ⟨zg_kokW S (List.mem_cons_of_mem _ zw5_69) (by decide +kernel) (by decide +kernel), List.forall_mem_cons.mpr ⟨zg_kokW S (List.mem_cons_of_mem _ zw5_70) (by decide +kernel) (by decide +kernel), List.forall_mem_cons.mpr ⟨zg_kokW S (List.mem_cons_of_mem _ zw5_70) (by decide +kernel) (by decide +kernel), List.forall_mem_cons.mpr ⟨zg_kokW S (List.mem_cons_of_mem _ zw5_71) (by decide +kernel) (by decide +kernel), fun _ h => absurd h List.not_mem_nil⟩⟩⟩⟩,
    fun _ h => absurd h List.not_mem_nil⟩
theorem qm603 {l : Launch} {D : zk_D} {base : Nat} {Hb : Heap} : zk_Met l qK D base Hb (zg_K D base Hb) yJ6_bitCount_0f7a4 (Jvm.Cond.code yJ6_bitCount_0f7a4 prog_17_method_49_code 1 (some .int) :: zg_tb) qR603 qC603 := zk_met (ws' := zg_tb) (P := qP603) (AT := zg_AT) (by decide +kernel) rfl rfl rfl qk603 (fun s hK => zg_wd hK) (fun p e s m args below meth c s₁ Q B hml hK => qo603 B hml hK) (fun p e s m args below meth c s₁ v G0 H0 B hml hK ha hp hF q hq => absurd hq List.not_mem_nil)
def qR604 : Room := { frames := 1, cells := 0, slots := 0, locals := 20 }
set_option maxHeartbeats 4000000 in
set_option maxRecDepth 100000 in
theorem qo604 {p : Program} {l : Launch} {e : Env} {s : State} {m : MethodId} {args : Array Value} {below : List Frame} {meth : Method} {c : Code} {s₁ : State} {Q : State → Prop} {D : zk_D} {base : Nat} {Hb : Heap} (B : BodyLoose p l yJ6_bitCount_0f7a4 (headSpec (Jvm.Cond.code yJ6_bitCount_0f7a4 prog_17_method_49_code 1 (some .int) :: zg_tb) qR604) prog_17_method_49_code 1 (some .int) e s m args below meth c s₁) (hml : c.maxLocals = 1) (hK : zg_K D base Hb s) : zk_ok p l e (headSpec (Jvm.Cond.code yJ6_bitCount_0f7a4 prog_17_method_49_code 1 (some .int) :: zg_tb) qR604).room s m args below meth c Q qK D base Hb 1 prog_17_method_49_code qP604 qC604.2.2.2.2 := by
  have S : CallFix p m c prog_17_method_49_code 1 s args (Jvm.Cond.code yJ6_bitCount_0f7a4 prog_17_method_49_code 1 (some .int) :: zg_tb) RJ6 := ⟨B.exec, B.bytes, hml, findClass_of_methodNamed B.named, atoms_spec (ws := (Jvm.Cond.code yJ6_bitCount_0f7a4 prog_17_method_49_code 1 (some .int) :: zg_tb)) B.pre⟩
  exact ⟨fun _ h => absurd h List.not_mem_nil,
    fun _ h => absurd h List.not_mem_nil,
    fun _ h => absurd h List.not_mem_nil,
    fun _ h => absurd h List.not_mem_nil,
    fun h => absurd rfl h,
    List.forall_mem_cons.mpr ⟨zg_kokW S (List.mem_cons_of_mem _ zw5_69) (by decide +kernel) (by decide +kernel), List.forall_mem_cons.mpr ⟨zg_kokW S (List.mem_cons_of_mem _ zw5_70) (by decide +kernel) (by decide +kernel), List.forall_mem_cons.mpr ⟨zg_kokW S (List.mem_cons_of_mem _ zw5_70) (by decide +kernel) (by decide +kernel), List.forall_mem_cons.mpr ⟨zg_kokW S (List.mem_cons_of_mem _ zw5_71) (by decide +kernel) (by decide +kernel), fun _ h => absurd h List.not_mem_nil⟩⟩⟩⟩,
    fun _ h => absurd h List.not_mem_nil⟩
theorem qm604 {l : Launch} {D : zk_D} {base : Nat} {Hb : Heap} : zk_Met l qK D base Hb (zg_K D base Hb) yJ6_bitCount_0f7a4 (Jvm.Cond.code yJ6_bitCount_0f7a4 prog_17_method_49_code 1 (some .int) :: zg_tb) qR604 qC604 := zk_met (ws' := zg_tb) (P := qP604) (AT := zg_AT) (by decide +kernel) rfl rfl rfl qk604 (fun s hK => zg_wd hK) (fun p e s m args below meth c s₁ Q B hml hK => qo604 B hml hK) (fun p e s m args below meth c s₁ v G0 H0 B hml hK ha hp hF q hq => absurd hq List.not_mem_nil)
def qR605 : Room := { frames := 3, cells := 0, slots := 0, locals := 65 }
set_option maxHeartbeats 4000000 in
set_option maxRecDepth 100000 in
theorem qo605 {p : Program} {l : Launch} {e : Env} {s : State} {m : MethodId} {args : Array Value} {below : List Frame} {meth : Method} {c : Code} {s₁ : State} {Q : State → Prop} {D : zk_D} {base : Nat} {Hb : Heap} (B : BodyLoose p l yX11_plan (headSpec (Jvm.Cond.code yX11_plan prog_1_method_37_code 11 (some .int) :: zg_tb) qR605) prog_1_method_37_code 11 (some .int) e s m args below meth c s₁) (hml : c.maxLocals = 11) (hK : zg_K D base Hb s) : zk_ok p l e (headSpec (Jvm.Cond.code yX11_plan prog_1_method_37_code 11 (some .int) :: zg_tb) qR605).room s m args below meth c Q qK D base Hb 11 prog_1_method_37_code qP605 qC605.2.2.2.2 := by
  have S : CallFix p m c prog_1_method_37_code 11 s args (Jvm.Cond.code yX11_plan prog_1_method_37_code 11 (some .int) :: zg_tb) RX11 := ⟨B.exec, B.bytes, hml, findClass_of_methodNamed B.named, atoms_spec (ws := (Jvm.Cond.code yX11_plan prog_1_method_37_code 11 (some .int) :: zg_tb)) B.pre⟩
  exact ⟨List.forall_mem_cons.mpr ⟨zg_gp4 S (hK.2.1 11 _ rfl) (fun w h => (List.mem_cons_of_mem _ (zc11 w h))) rfl zt11_8 (List.mem_cons_of_mem _ zw2_61), List.forall_mem_cons.mpr ⟨zg_gp S (hK.2.1 11 _ rfl) (fun w h => (List.mem_cons_of_mem _ (zc11 w h))) rfl zt11_13 (List.mem_cons_of_mem _ zw2_66) rfl, List.forall_mem_cons.mpr ⟨zg_gp S (hK.2.1 11 _ rfl) (fun w h => (List.mem_cons_of_mem _ (zc11 w h))) rfl zt11_16 (List.mem_cons_of_mem _ zw2_69) rfl, fun _ h => absurd h List.not_mem_nil⟩⟩⟩,
    fun _ h => absurd h List.not_mem_nil,
    fun _ h => absurd h List.not_mem_nil,
    fun _ h => absurd h List.not_mem_nil,
    fun h => absurd rfl h,
    fun _ h => absurd h List.not_mem_nil,
    List.forall_mem_cons.mpr ⟨zg_callV (fun w h => List.mem_cons_of_mem _ h) zg_tb_all S hK zg_Km qm394 zw3_132 zy_yX3_know_V (ci := 3) (by decide +kernel) (hK.2.1 3 _ rfl).2.1 ⟨rfl, rfl⟩ (by decide +kernel), List.forall_mem_cons.mpr ⟨zg_callV (fun w h => List.mem_cons_of_mem _ h) zg_tb_all S hK zg_Km qm601 zw5_137 zy_yX11_markedBits_V (ci := 11) (by decide +kernel) (hK.2.1 11 _ rfl).2.1 ⟨rfl, rfl⟩ (by decide +kernel), List.forall_mem_cons.mpr ⟨zg_callV (fun w h => List.mem_cons_of_mem _ h) zg_tb_all S hK zg_Km qm601 zw5_137 zy_yX11_markedBits_V (ci := 11) (by decide +kernel) (hK.2.1 11 _ rfl).2.1 ⟨rfl, rfl⟩ (by decide +kernel), List.forall_mem_cons.mpr ⟨zg_callV (fun w h => List.mem_cons_of_mem _ h) zg_tb_all S hK zg_Km qm602 zw5_141 zy_yX11_stoppedBy_V (ci := 11) (by decide +kernel) (hK.2.1 11 _ rfl).2.1 ⟨rfl, rfl⟩ (by decide +kernel), List.forall_mem_cons.mpr ⟨zg_callS (fun w h => List.mem_cons_of_mem _ h) zg_tb_all S hK zg_Km qm603 zw5_66 zy_yJ6_bitCount_0f7a4_S (by decide +kernel) ⟨rfl, rfl⟩ (by decide +kernel), List.forall_mem_cons.mpr ⟨zg_callS (fun w h => List.mem_cons_of_mem _ h) zg_tb_all S hK zg_Km qm552 zw5_63 zy_yX11_isAhead_S (by decide +kernel) ⟨rfl, rfl⟩ (by decide +kernel), List.forall_mem_cons.mpr ⟨zg_callS (fun w h => List.mem_cons_of_mem _ h) zg_tb_all S hK zg_Km qm604 zw5_66 zy_yJ6_bitCount_0f7a4_S (by decide +kernel) ⟨rfl, rfl⟩ (by decide +kernel), fun _ h => absurd h List.not_mem_nil⟩⟩⟩⟩⟩⟩⟩⟩
theorem qm605 {l : Launch} {D : zk_D} {base : Nat} {Hb : Heap} : zk_Met l qK D base Hb (zg_K D base Hb) yX11_plan (Jvm.Cond.code yX11_plan prog_1_method_37_code 11 (some .int) :: zg_tb) qR605 qC605 := zk_met (ws' := zg_tb) (P := qP605) (AT := zg_AT) (by decide +kernel) rfl rfl rfl qk605 (fun s hK => zg_wd hK) (fun p e s m args below meth c s₁ Q B hml hK => qo605 B hml hK) (fun p e s m args below meth c s₁ v G0 H0 B hml hK ha hp hF q hq => absurd hq List.not_mem_nil)
def qR606 : Room := { frames := 1, cells := 0, slots := 0, locals := 20 }
set_option maxHeartbeats 4000000 in
set_option maxRecDepth 100000 in
theorem qo606 {p : Program} {l : Launch} {e : Env} {s : State} {m : MethodId} {args : Array Value} {below : List Frame} {meth : Method} {c : Code} {s₁ : State} {Q : State → Prop} {D : zk_D} {base : Nat} {Hb : Heap} (B : BodyLoose p l yX12_in (headSpec (Jvm.Cond.code yX12_in prog_14_method_1_code 3 (some .boolean) :: zg_tb) qR606) prog_14_method_1_code 3 (some .boolean) e s m args below meth c s₁) (hml : c.maxLocals = 3) (hK : zg_K D base Hb s) : zk_ok p l e (headSpec (Jvm.Cond.code yX12_in prog_14_method_1_code 3 (some .boolean) :: zg_tb) qR606).room s m args below meth c Q qK D base Hb 3 prog_14_method_1_code qP606 qC606.2.2.2.2 := by
  have S : CallFix p m c prog_14_method_1_code 3 s args (Jvm.Cond.code yX12_in prog_14_method_1_code 3 (some .boolean) :: zg_tb) RX12 := ⟨B.exec, B.bytes, hml, findClass_of_methodNamed B.named, atoms_spec (ws := (Jvm.Cond.code yX12_in prog_14_method_1_code 3 (some .boolean) :: zg_tb)) B.pre⟩
  exact ⟨fun _ h => absurd h List.not_mem_nil,
    fun _ h => absurd h List.not_mem_nil,
    fun _ h => absurd h List.not_mem_nil,
    fun _ h => absurd h List.not_mem_nil,
    fun h => absurd rfl h,
    fun _ h => absurd h List.not_mem_nil,
    fun _ h => absurd h List.not_mem_nil⟩
theorem qm606 {l : Launch} {D : zk_D} {base : Nat} {Hb : Heap} : zk_Met l qK D base Hb (zg_K D base Hb) yX12_in (Jvm.Cond.code yX12_in prog_14_method_1_code 3 (some .boolean) :: zg_tb) qR606 qC606 := zk_met (ws' := zg_tb) (P := qP606) (AT := zg_AT) (by decide +kernel) rfl rfl rfl qk606 (fun s hK => zg_wd hK) (fun p e s m args below meth c s₁ Q B hml hK => qo606 B hml hK) (fun p e s m args below meth c s₁ v G0 H0 B hml hK ha hp hF q hq => absurd hq List.not_mem_nil)
def qR607 : Room := { frames := 1, cells := 0, slots := 0, locals := 20 }
set_option maxHeartbeats 4000000 in
set_option maxRecDepth 100000 in
theorem qo607 {p : Program} {l : Launch} {e : Env} {s : State} {m : MethodId} {args : Array Value} {below : List Frame} {meth : Method} {c : Code} {s₁ : State} {Q : State → Prop} {D : zk_D} {base : Nat} {Hb : Heap} (B : BodyLoose p l yX12_in (headSpec (Jvm.Cond.code yX12_in prog_14_method_1_code 3 (some .boolean) :: zg_tb) qR607) prog_14_method_1_code 3 (some .boolean) e s m args below meth c s₁) (hml : c.maxLocals = 3) (hK : zg_K D base Hb s) : zk_ok p l e (headSpec (Jvm.Cond.code yX12_in prog_14_method_1_code 3 (some .boolean) :: zg_tb) qR607).room s m args below meth c Q qK D base Hb 3 prog_14_method_1_code qP607 qC607.2.2.2.2 := by
  have S : CallFix p m c prog_14_method_1_code 3 s args (Jvm.Cond.code yX12_in prog_14_method_1_code 3 (some .boolean) :: zg_tb) RX12 := ⟨B.exec, B.bytes, hml, findClass_of_methodNamed B.named, atoms_spec (ws := (Jvm.Cond.code yX12_in prog_14_method_1_code 3 (some .boolean) :: zg_tb)) B.pre⟩
  exact ⟨fun _ h => absurd h List.not_mem_nil,
    fun _ h => absurd h List.not_mem_nil,
    fun _ h => absurd h List.not_mem_nil,
    fun _ h => absurd h List.not_mem_nil,
    fun h => absurd rfl h,
    fun _ h => absurd h List.not_mem_nil,
    fun _ h => absurd h List.not_mem_nil⟩
theorem qm607 {l : Launch} {D : zk_D} {base : Nat} {Hb : Heap} : zk_Met l qK D base Hb (zg_K D base Hb) yX12_in (Jvm.Cond.code yX12_in prog_14_method_1_code 3 (some .boolean) :: zg_tb) qR607 qC607 := zk_met (ws' := zg_tb) (P := qP607) (AT := zg_AT) (by decide +kernel) rfl rfl rfl qk607 (fun s hK => zg_wd hK) (fun p e s m args below meth c s₁ Q B hml hK => qo607 B hml hK) (fun p e s m args below meth c s₁ v G0 H0 B hml hK ha hp hF q hq => absurd hq List.not_mem_nil)
