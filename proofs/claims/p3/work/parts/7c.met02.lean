/-! CONTRACTS MET: found by wip/an (python). -/
noncomputable section
set_option maxRecDepth 100000 in
def qR81 : Room := { frames := 1, cells := 0, slots := 0, locals := 20 }
set_option maxHeartbeats 4000000 in
set_option maxRecDepth 100000 in
theorem qo81 {p : Program} {l : Launch} {e : Env} {s : State} {m : MethodId} {args : Array Value} {below : List Frame} {meth : Method} {c : Code} {s₁ : State} {Q : State → Prop} {D : zk_D} {base : Nat} {Hb : Heap} (B : BodyLoose p l yJ9_min_7cf53 (headSpec (Jvm.Cond.code yJ9_min_7cf53 prog_18_method_69_code 2 (some .int) :: zg_tb) qR81) prog_18_method_69_code 2 (some .int) e s m args below meth c s₁) (hml : c.maxLocals = 2) (hK : zg_K D base Hb s) : zk_ok p l e (headSpec (Jvm.Cond.code yJ9_min_7cf53 prog_18_method_69_code 2 (some .int) :: zg_tb) qR81).room s m args below meth c Q qK D base Hb 2 prog_18_method_69_code qP81 qC81.2.2.2.2 := by
  have S : CallFix p m c prog_18_method_69_code 2 s args (Jvm.Cond.code yJ9_min_7cf53 prog_18_method_69_code 2 (some .int) :: zg_tb) RJ9 := ⟨B.exec, B.bytes, hml, findClass_of_methodNamed B.named, atoms_spec (ws := (Jvm.Cond.code yJ9_min_7cf53 prog_18_method_69_code 2 (some .int) :: zg_tb)) B.pre⟩
  exact ⟨fun _ h => absurd h List.not_mem_nil,
    fun _ h => absurd h List.not_mem_nil,
    fun _ h => absurd h List.not_mem_nil,
    fun _ h => absurd h List.not_mem_nil,
    fun h => absurd rfl h,
    fun _ h => absurd h List.not_mem_nil,
    fun _ h => absurd h List.not_mem_nil⟩
set_option maxRecDepth 100000 in
theorem qm81 {l : Launch} {D : zk_D} {base : Nat} {Hb : Heap} : zk_Met l qK D base Hb (zg_K D base Hb) yJ9_min_7cf53 (Jvm.Cond.code yJ9_min_7cf53 prog_18_method_69_code 2 (some .int) :: zg_tb) qR81 qC81 := zk_metF (ws' := zg_tb) (P := qP81) (AT := zg_AT) zpf_yJ9_min_7cf53 rfl rfl rfl qk81 (fun s hK => zg_wd hK) (fun p e s m args below meth c s₁ Q B hml hK => qo81 B hml hK) (fun p e s m args below meth c s₁ v G0 H0 B hml hK ha hp hF q hq => absurd hq List.not_mem_nil)
set_option maxRecDepth 100000 in
def qR82 : Room := { frames := 1, cells := 0, slots := 0, locals := 20 }
set_option maxHeartbeats 4000000 in
set_option maxRecDepth 100000 in
theorem qo82 {p : Program} {l : Launch} {e : Env} {s : State} {m : MethodId} {args : Array Value} {below : List Frame} {meth : Method} {c : Code} {s₁ : State} {Q : State → Prop} {D : zk_D} {base : Nat} {Hb : Heap} (B : BodyLoose p l yJ1_indexOfChar_4cfef (headSpec (Jvm.Cond.code yJ1_indexOfChar_4cfef prog_20_method_23_code 6 (some .int) :: zg_tb) qR82) prog_20_method_23_code 6 (some .int) e s m args below meth c s₁) (hml : c.maxLocals = 6) (hK : zg_K D base Hb s) : zk_ok p l e (headSpec (Jvm.Cond.code yJ1_indexOfChar_4cfef prog_20_method_23_code 6 (some .int) :: zg_tb) qR82).room s m args below meth c Q qK D base Hb 6 prog_20_method_23_code qP82 qC82.2.2.2.2 := by
  have S : CallFix p m c prog_20_method_23_code 6 s args (Jvm.Cond.code yJ1_indexOfChar_4cfef prog_20_method_23_code 6 (some .int) :: zg_tb) RJ1 := ⟨B.exec, B.bytes, hml, findClass_of_methodNamed B.named, atoms_spec (ws := (Jvm.Cond.code yJ1_indexOfChar_4cfef prog_20_method_23_code 6 (some .int) :: zg_tb)) B.pre⟩
  exact ⟨fun _ h => absurd h List.not_mem_nil,
    fun _ h => absurd h List.not_mem_nil,
    fun _ h => absurd h List.not_mem_nil,
    fun _ h => absurd h List.not_mem_nil,
    fun h => absurd rfl h,
    fun _ h => absurd h List.not_mem_nil,
    fun _ h => absurd h List.not_mem_nil⟩
set_option maxRecDepth 100000 in
theorem qm82 {l : Launch} {D : zk_D} {base : Nat} {Hb : Heap} : zk_Met l qK D base Hb (zg_K D base Hb) yJ1_indexOfChar_4cfef (Jvm.Cond.code yJ1_indexOfChar_4cfef prog_20_method_23_code 6 (some .int) :: zg_tb) qR82 qC82 := zk_met (ws' := zg_tb) (P := qP82) (AT := zg_AT) zpn_J1 rfl rfl rfl qk82 (fun s hK => zg_wd hK) (fun p e s m args below meth c s₁ Q B hml hK => qo82 B hml hK) (fun p e s m args below meth c s₁ v G0 H0 B hml hK ha hp hF q hq => absurd hq List.not_mem_nil)
set_option maxRecDepth 100000 in
def qR83 : Room := { frames := 2, cells := 0, slots := 0, locals := 45 }
set_option maxHeartbeats 4000000 in
set_option maxRecDepth 100000 in
theorem qo83 {p : Program} {l : Launch} {e : Env} {s : State} {m : MethodId} {args : Array Value} {below : List Frame} {meth : Method} {c : Code} {s₁ : State} {Q : State → Prop} {D : zk_D} {base : Nat} {Hb : Heap} (B : BodyLoose p l yJ1_indexOf_4cfef (headSpec (Jvm.Cond.code yJ1_indexOf_4cfef prog_20_method_22_code 4 (some .int) :: zg_tb) qR83) prog_20_method_22_code 4 (some .int) e s m args below meth c s₁) (hml : c.maxLocals = 4) (hK : zg_K D base Hb s) : zk_ok p l e (headSpec (Jvm.Cond.code yJ1_indexOf_4cfef prog_20_method_22_code 4 (some .int) :: zg_tb) qR83).room s m args below meth c Q qK D base Hb 4 prog_20_method_22_code qP83 qC83.2.2.2.2 := by
  have S : CallFix p m c prog_20_method_22_code 4 s args (Jvm.Cond.code yJ1_indexOf_4cfef prog_20_method_22_code 4 (some .int) :: zg_tb) RJ1 := ⟨B.exec, B.bytes, hml, findClass_of_methodNamed B.named, atoms_spec (ws := (Jvm.Cond.code yJ1_indexOf_4cfef prog_20_method_22_code 4 (some .int) :: zg_tb)) B.pre⟩
  exact ⟨fun _ h => absurd h List.not_mem_nil,
    fun _ h => absurd h List.not_mem_nil,
    fun _ h => absurd h List.not_mem_nil,
    fun _ h => absurd h List.not_mem_nil,
    fun h => absurd rfl h,
    fun _ h => absurd h List.not_mem_nil,
    List.forall_mem_cons.mpr ⟨zg_callS (fun w h => List.mem_cons_of_mem _ h) zg_tb_all S hK zg_Km qm79 zw2_204 zy_yJ1_canEncode_9a6ad_S (by decide +kernel) ⟨rfl, rfl⟩ (zk_dg_ok qdo_20_22 (by decide +kernel)), List.forall_mem_cons.mpr ⟨zg_callS (fun w h => List.mem_cons_of_mem _ h) zg_tb_all S hK zg_Km qm80 zw2_207 zy_yJ9_max_7cf53_S (by decide +kernel) ⟨rfl, rfl⟩ (zk_dg_ok qdo_20_22 (by decide +kernel)), List.forall_mem_cons.mpr ⟨zg_callS (fun w h => List.mem_cons_of_mem _ h) zg_tb_all S hK zg_Km qm81 zw2_210 zy_yJ9_min_7cf53_S (by decide +kernel) ⟨rfl, rfl⟩ (zk_dg_ok qdo_20_22 (by decide +kernel)), List.forall_mem_cons.mpr ⟨zg_callS (fun w h => List.mem_cons_of_mem _ h) zg_tb_all S hK zg_Km qm82 zw2_213 zy_yJ1_indexOfChar_4cfef_S (by decide +kernel) ⟨rfl, rfl⟩ (zk_dg_ok qdo_20_22 (by decide +kernel)), fun _ h => absurd h List.not_mem_nil⟩⟩⟩⟩⟩
set_option maxRecDepth 100000 in
theorem qm83 {l : Launch} {D : zk_D} {base : Nat} {Hb : Heap} : zk_Met l qK D base Hb (zg_K D base Hb) yJ1_indexOf_4cfef (Jvm.Cond.code yJ1_indexOf_4cfef prog_20_method_22_code 4 (some .int) :: zg_tb) qR83 qC83 := zk_met (ws' := zg_tb) (P := qP83) (AT := zg_AT) zpn_J1 rfl rfl rfl qk83 (fun s hK => zg_wd hK) (fun p e s m args below meth c s₁ Q B hml hK => qo83 B hml hK) (fun p e s m args below meth c s₁ v G0 H0 B hml hK ha hp hF q hq => absurd hq List.not_mem_nil)
set_option maxRecDepth 100000 in
def qR84 : Room := { frames := 3, cells := 0, slots := 0, locals := 68 }
set_option maxHeartbeats 4000000 in
set_option maxRecDepth 100000 in
theorem qo84 {p : Program} {l : Launch} {e : Env} {s : State} {m : MethodId} {args : Array Value} {below : List Frame} {meth : Method} {c : Code} {s₁ : State} {Q : State → Prop} {D : zk_D} {base : Nat} {Hb : Heap} (B : BodyLoose p l yJ0_indexOf_7cf53 (headSpec (Jvm.Cond.code yJ0_indexOf_7cf53 prog_19_method_80_code 3 (some .int) :: zg_tb) qR84) prog_19_method_80_code 3 (some .int) e s m args below meth c s₁) (hml : c.maxLocals = 3) (hK : zg_K D base Hb s) : zk_ok p l e (headSpec (Jvm.Cond.code yJ0_indexOf_7cf53 prog_19_method_80_code 3 (some .int) :: zg_tb) qR84).room s m args below meth c Q qK D base Hb 3 prog_19_method_80_code qP84 qC84.2.2.2.2 := by
  have S : CallFix p m c prog_19_method_80_code 3 s args (Jvm.Cond.code yJ0_indexOf_7cf53 prog_19_method_80_code 3 (some .int) :: zg_tb) RJ0 := ⟨B.exec, B.bytes, hml, findClass_of_methodNamed B.named, atoms_spec (ws := (Jvm.Cond.code yJ0_indexOf_7cf53 prog_19_method_80_code 3 (some .int) :: zg_tb)) B.pre⟩
  exact ⟨List.forall_mem_cons.mpr ⟨⟨zg_gokS S (hK.2.2.2.2.2.2.2.2.1 _ (List.mem_of_getElem? (i := 0) rfl)) (List.mem_cons_of_mem _ zw8_57), zg_pok4⟩, fun _ h => absurd h List.not_mem_nil⟩,
    fun _ h => absurd h List.not_mem_nil,
    fun _ h => absurd h List.not_mem_nil,
    fun _ h => absurd h List.not_mem_nil,
    fun h => absurd rfl h,
    fun _ h => absurd h List.not_mem_nil,
    List.forall_mem_cons.mpr ⟨zg_callV (fun w h => List.mem_cons_of_mem _ h) zg_tb_all S hK zg_Km qm76 zw2_196 zy_yJ0_isLatin1_aae02_V (ci := 13) (by decide +kernel) hK.2.2.2.2.2.2.2.1 ⟨rfl, rfl⟩ (zk_dg_ok qdo_19_80 (by decide +kernel)), List.forall_mem_cons.mpr ⟨zg_callV (fun w h => List.mem_cons_of_mem _ h) zg_tb_all S hK zg_Km qm78 zw2_200 zy_yJ0_length_8abf5_V (ci := 13) (by decide +kernel) hK.2.2.2.2.2.2.2.1 ⟨rfl, rfl⟩ (zk_dg_ok qdo_19_80 (by decide +kernel)), List.forall_mem_cons.mpr ⟨zg_callS (fun w h => List.mem_cons_of_mem _ h) zg_tb_all S hK zg_Km qm83 zw2_201 zy_yJ1_indexOf_4cfef_S (by decide +kernel) ⟨rfl, rfl⟩ (zk_dg_ok qdo_19_80 (by decide +kernel)), fun _ h => absurd h List.not_mem_nil⟩⟩⟩⟩
set_option maxRecDepth 100000 in
theorem qm84 {l : Launch} {D : zk_D} {base : Nat} {Hb : Heap} : zk_Met l qK D base Hb (zg_K D base Hb) yJ0_indexOf_7cf53 (Jvm.Cond.code yJ0_indexOf_7cf53 prog_19_method_80_code 3 (some .int) :: zg_tb) qR84 qC84 := zk_met (ws' := zg_tb) (P := qP84) (AT := zg_AT) zpn_J0 rfl rfl rfl qk84 (fun s hK => zg_wd hK) (fun p e s m args below meth c s₁ Q B hml hK => qo84 B hml hK) (fun p e s m args below meth c s₁ v G0 H0 B hml hK ha hp hF q hq => absurd hq List.not_mem_nil)
set_option maxRecDepth 100000 in
def qR85 : Room := { frames := 4, cells := 0, slots := 0, locals := 90 }
set_option maxHeartbeats 4000000 in
set_option maxRecDepth 100000 in
theorem qo85 {p : Program} {l : Launch} {e : Env} {s : State} {m : MethodId} {args : Array Value} {below : List Frame} {meth : Method} {c : Code} {s₁ : State} {Q : State → Prop} {D : zk_D} {base : Nat} {Hb : Heap} (B : BodyLoose p l yJ0_indexOf_0f7a4 (headSpec (Jvm.Cond.code yJ0_indexOf_0f7a4 prog_19_method_79_code 2 (some .int) :: zg_tb) qR85) prog_19_method_79_code 2 (some .int) e s m args below meth c s₁) (hml : c.maxLocals = 2) (hK : zg_K D base Hb s) : zk_ok p l e (headSpec (Jvm.Cond.code yJ0_indexOf_0f7a4 prog_19_method_79_code 2 (some .int) :: zg_tb) qR85).room s m args below meth c Q qK D base Hb 2 prog_19_method_79_code qP85 qC85.2.2.2.2 := by
  have S : CallFix p m c prog_19_method_79_code 2 s args (Jvm.Cond.code yJ0_indexOf_0f7a4 prog_19_method_79_code 2 (some .int) :: zg_tb) RJ0 := ⟨B.exec, B.bytes, hml, findClass_of_methodNamed B.named, atoms_spec (ws := (Jvm.Cond.code yJ0_indexOf_0f7a4 prog_19_method_79_code 2 (some .int) :: zg_tb)) B.pre⟩
  exact ⟨fun _ h => absurd h List.not_mem_nil,
    fun _ h => absurd h List.not_mem_nil,
    fun _ h => absurd h List.not_mem_nil,
    fun _ h => absurd h List.not_mem_nil,
    fun h => absurd rfl h,
    fun _ h => absurd h List.not_mem_nil,
    List.forall_mem_cons.mpr ⟨zg_callV (fun w h => List.mem_cons_of_mem _ h) zg_tb_all S hK zg_Km qm84 zw2_192 zy_yJ0_indexOf_7cf53_V (ci := 13) (by decide +kernel) hK.2.2.2.2.2.2.2.1 ⟨rfl, rfl⟩ (zk_dg_ok qdo_19_79 (by decide +kernel)), fun _ h => absurd h List.not_mem_nil⟩⟩
set_option maxRecDepth 100000 in
theorem qm85 {l : Launch} {D : zk_D} {base : Nat} {Hb : Heap} : zk_Met l qK D base Hb (zg_K D base Hb) yJ0_indexOf_0f7a4 (Jvm.Cond.code yJ0_indexOf_0f7a4 prog_19_method_79_code 2 (some .int) :: zg_tb) qR85 qC85 := zk_met (ws' := zg_tb) (P := qP85) (AT := zg_AT) zpn_J0 rfl rfl rfl qk85 (fun s hK => zg_wd hK) (fun p e s m args below meth c s₁ Q B hml hK => qo85 B hml hK) (fun p e s m args below meth c s₁ v G0 H0 B hml hK ha hp hF q hq => absurd hq List.not_mem_nil)
set_option maxRecDepth 100000 in
def qR86 : Room := { frames := 11, cells := 0, slots := 0, locals := 249 }
set_option maxHeartbeats 4000000 in
set_option maxRecDepth 100000 in
theorem qo86 {p : Program} {l : Launch} {e : Env} {s : State} {m : MethodId} {args : Array Value} {below : List Frame} {meth : Method} {c : Code} {s₁ : State} {Q : State → Prop} {D : zk_D} {base : Nat} {Hb : Heap} (B : BodyLoose p l yX6_readAtom (headSpec (Jvm.Cond.code yX6_readAtom prog_8_method_14_code 4 (some .boolean) :: zg_tb) qR86) prog_8_method_14_code 4 (some .boolean) e s m args below meth c s₁) (hml : c.maxLocals = 4) (hK : zg_K D base Hb s) : zk_ok p l e (headSpec (Jvm.Cond.code yX6_readAtom prog_8_method_14_code 4 (some .boolean) :: zg_tb) qR86).room s m args below meth c Q qK D base Hb 4 prog_8_method_14_code qP86 qC86.2.2.2.2 := by
  have S : CallFix p m c prog_8_method_14_code 4 s args (Jvm.Cond.code yX6_readAtom prog_8_method_14_code 4 (some .boolean) :: zg_tb) RX6 := ⟨B.exec, B.bytes, hml, findClass_of_methodNamed B.named, atoms_spec (ws := (Jvm.Cond.code yX6_readAtom prog_8_method_14_code 4 (some .boolean) :: zg_tb)) B.pre⟩
  exact ⟨List.forall_mem_cons.mpr ⟨zg_gp S (hK.2.1 6 _ rfl) (fun w h => (List.mem_cons_of_mem _ (zc6 w h))) rfl zt6_3 (List.mem_cons_of_mem _ zw1_119) rfl, fun _ h => absurd h List.not_mem_nil⟩,
    fun _ h => absurd h List.not_mem_nil,
    fun _ h => absurd h List.not_mem_nil,
    fun _ h => absurd h List.not_mem_nil,
    fun h => absurd rfl h,
    List.forall_mem_cons.mpr ⟨zg_kokS (k := 24) (tx := "wlsknauhrmyo") S (zg_sR2 hK) (by decide +kernel) (by decide) (zk_dg_ok qdo_8_14 (by decide +kernel)), fun _ h => absurd h List.not_mem_nil⟩,
    List.forall_mem_cons.mpr ⟨zg_callV (fun w h => List.mem_cons_of_mem _ h) zg_tb_all S hK zg_Km qm36 zw2_183 zy_yX6_ahead_V (ci := 6) (by decide +kernel) (hK.2.1 6 _ rfl).2.1 ⟨rfl, rfl⟩ (zk_dg_ok qdo_8_14 (by decide +kernel)), List.forall_mem_cons.mpr ⟨zg_callV (fun w h => List.mem_cons_of_mem _ h) zg_tb_all S hK zg_Km qm49 zw3_45 zy_yX6_readNumber_V (ci := 6) (by decide +kernel) (hK.2.1 6 _ rfl).2.1 ⟨rfl, rfl⟩ (zk_dg_ok qdo_8_14 (by decide +kernel)), List.forall_mem_cons.mpr ⟨zg_callV (fun w h => List.mem_cons_of_mem _ h) zg_tb_all S hK zg_Km qm75 zw3_33 zy_yX6_readSum_V (ci := 6) (by decide +kernel) (hK.2.1 6 _ rfl).2.1 ⟨rfl, rfl⟩ (zk_dg_ok qdo_8_14 (by decide +kernel)), List.forall_mem_cons.mpr ⟨zg_callV (fun w h => List.mem_cons_of_mem _ h) zg_tb_all S hK zg_Km qm48 zw3_29 zy_yX6_pass_V (ci := 6) (by decide +kernel) (hK.2.1 6 _ rfl).2.1 ⟨rfl, rfl⟩ (zk_dg_ok qdo_8_14 (by decide +kernel)), List.forall_mem_cons.mpr ⟨zg_callV (fun w h => List.mem_cons_of_mem _ h) zg_tb_all S hK zg_Km qm85 zw2_188 zy_yJ0_indexOf_0f7a4_V (ci := 13) (by decide +kernel) hK.2.2.2.2.2.2.2.1 ⟨rfl, rfl⟩ (zk_dg_ok qdo_8_14 (by decide +kernel)), List.forall_mem_cons.mpr ⟨zg_callV (fun w h => List.mem_cons_of_mem _ h) zg_tb_all S hK zg_Km qm47 zw3_25 zy_yX6_add_V (ci := 6) (by decide +kernel) (hK.2.1 6 _ rfl).2.1 ⟨rfl, rfl⟩ (zk_dg_ok qdo_8_14 (by decide +kernel)), fun _ h => absurd h List.not_mem_nil⟩⟩⟩⟩⟩⟩⟩
set_option maxRecDepth 100000 in
theorem qm86 {l : Launch} {D : zk_D} {base : Nat} {Hb : Heap} : zk_Met l qK D base Hb (zg_K D base Hb) yX6_readAtom (Jvm.Cond.code yX6_readAtom prog_8_method_14_code 4 (some .boolean) :: zg_tb) qR86 qC86 := zk_met (ws' := zg_tb) (P := qP86) (AT := zg_AT) zpn_X6 rfl rfl rfl qk86 (fun s hK => zg_wd hK) (fun p e s m args below meth c s₁ Q B hml hK => qo86 B hml hK) (fun p e s m args below meth c s₁ v G0 H0 B hml hK ha hp hF q hq => absurd hq List.not_mem_nil)
set_option maxRecDepth 100000 in
def qR87 : Room := { frames := 12, cells := 0, slots := 0, locals := 272 }
set_option maxHeartbeats 4000000 in
set_option maxRecDepth 100000 in
theorem qo87 {p : Program} {l : Launch} {e : Env} {s : State} {m : MethodId} {args : Array Value} {below : List Frame} {meth : Method} {c : Code} {s₁ : State} {Q : State → Prop} {D : zk_D} {base : Nat} {Hb : Heap} (B : BodyLoose p l yX6_readTerm (headSpec (Jvm.Cond.code yX6_readTerm prog_8_method_13_code 4 (some .boolean) :: zg_tb) qR87) prog_8_method_13_code 4 (some .boolean) e s m args below meth c s₁) (hml : c.maxLocals = 4) (hK : zg_K D base Hb s) : zk_ok p l e (headSpec (Jvm.Cond.code yX6_readTerm prog_8_method_13_code 4 (some .boolean) :: zg_tb) qR87).room s m args below meth c Q qK D base Hb 4 prog_8_method_13_code qP87 qC87.2.2.2.2 := by
  have S : CallFix p m c prog_8_method_13_code 4 s args (Jvm.Cond.code yX6_readTerm prog_8_method_13_code 4 (some .boolean) :: zg_tb) RX6 := ⟨B.exec, B.bytes, hml, findClass_of_methodNamed B.named, atoms_spec (ws := (Jvm.Cond.code yX6_readTerm prog_8_method_13_code 4 (some .boolean) :: zg_tb)) B.pre⟩
  exact ⟨List.forall_mem_cons.mpr ⟨zg_gp S (hK.2.1 6 _ rfl) (fun w h => (List.mem_cons_of_mem _ (zc6 w h))) rfl zt6_3 (List.mem_cons_of_mem _ zw1_119) rfl, fun _ h => absurd h List.not_mem_nil⟩,
    fun _ h => absurd h List.not_mem_nil,
    fun _ h => absurd h List.not_mem_nil,
    fun _ h => absurd h List.not_mem_nil,
    fun h => absurd rfl h,
    fun _ h => absurd h List.not_mem_nil,
    List.forall_mem_cons.mpr ⟨zg_callV (fun w h => List.mem_cons_of_mem _ h) zg_tb_all S hK zg_Km qm86 zw3_41 zy_yX6_readAtom_V (ci := 6) (by decide +kernel) (hK.2.1 6 _ rfl).2.1 ⟨rfl, rfl⟩ (zk_dg_ok qdo_8_13 (by decide +kernel)), List.forall_mem_cons.mpr ⟨zg_callV (fun w h => List.mem_cons_of_mem _ h) zg_tb_all S hK zg_Km qm36 zw2_183 zy_yX6_ahead_V (ci := 6) (by decide +kernel) (hK.2.1 6 _ rfl).2.1 ⟨rfl, rfl⟩ (zk_dg_ok qdo_8_13 (by decide +kernel)), List.forall_mem_cons.mpr ⟨zg_callV (fun w h => List.mem_cons_of_mem _ h) zg_tb_all S hK zg_Km qm86 zw3_41 zy_yX6_readAtom_V (ci := 6) (by decide +kernel) (hK.2.1 6 _ rfl).2.1 ⟨rfl, rfl⟩ (zk_dg_ok qdo_8_13 (by decide +kernel)), List.forall_mem_cons.mpr ⟨zg_callV (fun w h => List.mem_cons_of_mem _ h) zg_tb_all S hK zg_Km qm47 zw3_25 zy_yX6_add_V (ci := 6) (by decide +kernel) (hK.2.1 6 _ rfl).2.1 ⟨rfl, rfl⟩ (zk_dg_ok qdo_8_13 (by decide +kernel)), fun _ h => absurd h List.not_mem_nil⟩⟩⟩⟩⟩
set_option maxRecDepth 100000 in
theorem qm87 {l : Launch} {D : zk_D} {base : Nat} {Hb : Heap} : zk_Met l qK D base Hb (zg_K D base Hb) yX6_readTerm (Jvm.Cond.code yX6_readTerm prog_8_method_13_code 4 (some .boolean) :: zg_tb) qR87 qC87 := zk_met (ws' := zg_tb) (P := qP87) (AT := zg_AT) zpn_X6 rfl rfl rfl qk87 (fun s hK => zg_wd hK) (fun p e s m args below meth c s₁ Q B hml hK => qo87 B hml hK) (fun p e s m args below meth c s₁ v G0 H0 B hml hK ha hp hF q hq => absurd hq List.not_mem_nil)
set_option maxRecDepth 100000 in
def qR88 : Room := { frames := 13, cells := 0, slots := 0, locals := 295 }
set_option maxHeartbeats 4000000 in
set_option maxRecDepth 100000 in
theorem qo88 {p : Program} {l : Launch} {e : Env} {s : State} {m : MethodId} {args : Array Value} {below : List Frame} {meth : Method} {c : Code} {s₁ : State} {Q : State → Prop} {D : zk_D} {base : Nat} {Hb : Heap} (B : BodyLoose p l yX6_readSum (headSpec (Jvm.Cond.code yX6_readSum prog_8_method_12_code 4 (some .boolean) :: zg_tb) qR88) prog_8_method_12_code 4 (some .boolean) e s m args below meth c s₁) (hml : c.maxLocals = 4) (hK : zg_K D base Hb s) : zk_ok p l e (headSpec (Jvm.Cond.code yX6_readSum prog_8_method_12_code 4 (some .boolean) :: zg_tb) qR88).room s m args below meth c Q qK D base Hb 4 prog_8_method_12_code qP88 qC88.2.2.2.2 := by
  have S : CallFix p m c prog_8_method_12_code 4 s args (Jvm.Cond.code yX6_readSum prog_8_method_12_code 4 (some .boolean) :: zg_tb) RX6 := ⟨B.exec, B.bytes, hml, findClass_of_methodNamed B.named, atoms_spec (ws := (Jvm.Cond.code yX6_readSum prog_8_method_12_code 4 (some .boolean) :: zg_tb)) B.pre⟩
  exact ⟨List.forall_mem_cons.mpr ⟨zg_gp S (hK.2.1 6 _ rfl) (fun w h => (List.mem_cons_of_mem _ (zc6 w h))) rfl zt6_3 (List.mem_cons_of_mem _ zw1_119) rfl, fun _ h => absurd h List.not_mem_nil⟩,
    fun _ h => absurd h List.not_mem_nil,
    fun _ h => absurd h List.not_mem_nil,
    fun _ h => absurd h List.not_mem_nil,
    fun h => absurd rfl h,
    fun _ h => absurd h List.not_mem_nil,
    List.forall_mem_cons.mpr ⟨zg_callV (fun w h => List.mem_cons_of_mem _ h) zg_tb_all S hK zg_Km qm87 zw3_37 zy_yX6_readTerm_V (ci := 6) (by decide +kernel) (hK.2.1 6 _ rfl).2.1 ⟨rfl, rfl⟩ (zk_dg_ok qdo_8_12 (by decide +kernel)), List.forall_mem_cons.mpr ⟨zg_callV (fun w h => List.mem_cons_of_mem _ h) zg_tb_all S hK zg_Km qm36 zw2_183 zy_yX6_ahead_V (ci := 6) (by decide +kernel) (hK.2.1 6 _ rfl).2.1 ⟨rfl, rfl⟩ (zk_dg_ok qdo_8_12 (by decide +kernel)), List.forall_mem_cons.mpr ⟨zg_callV (fun w h => List.mem_cons_of_mem _ h) zg_tb_all S hK zg_Km qm87 zw3_37 zy_yX6_readTerm_V (ci := 6) (by decide +kernel) (hK.2.1 6 _ rfl).2.1 ⟨rfl, rfl⟩ (zk_dg_ok qdo_8_12 (by decide +kernel)), List.forall_mem_cons.mpr ⟨zg_callV (fun w h => List.mem_cons_of_mem _ h) zg_tb_all S hK zg_Km qm47 zw3_25 zy_yX6_add_V (ci := 6) (by decide +kernel) (hK.2.1 6 _ rfl).2.1 ⟨rfl, rfl⟩ (zk_dg_ok qdo_8_12 (by decide +kernel)), fun _ h => absurd h List.not_mem_nil⟩⟩⟩⟩⟩
set_option maxRecDepth 100000 in
theorem qm88 {l : Launch} {D : zk_D} {base : Nat} {Hb : Heap} : zk_Met l qK D base Hb (zg_K D base Hb) yX6_readSum (Jvm.Cond.code yX6_readSum prog_8_method_12_code 4 (some .boolean) :: zg_tb) qR88 qC88 := zk_met (ws' := zg_tb) (P := qP88) (AT := zg_AT) zpn_X6 rfl rfl rfl qk88 (fun s hK => zg_wd hK) (fun p e s m args below meth c s₁ Q B hml hK => qo88 B hml hK) (fun p e s m args below meth c s₁ v G0 H0 B hml hK ha hp hF q hq => absurd hq List.not_mem_nil)
set_option maxRecDepth 100000 in
def qR89 : Room := { frames := 1, cells := 0, slots := 0, locals := 20 }
set_option maxHeartbeats 4000000 in
set_option maxRecDepth 100000 in
theorem qo89 {p : Program} {l : Launch} {e : Env} {s : State} {m : MethodId} {args : Array Value} {below : List Frame} {meth : Method} {c : Code} {s₁ : State} {Q : State → Prop} {D : zk_D} {base : Nat} {Hb : Heap} (B : BodyLoose p l yJ0_isLatin1_aae02 (headSpec (Jvm.Cond.code yJ0_isLatin1_aae02 prog_19_method_154_code 1 (some .boolean) :: zg_tb) qR89) prog_19_method_154_code 1 (some .boolean) e s m args below meth c s₁) (hml : c.maxLocals = 1) (hK : zg_K D base Hb s) : zk_ok p l e (headSpec (Jvm.Cond.code yJ0_isLatin1_aae02 prog_19_method_154_code 1 (some .boolean) :: zg_tb) qR89).room s m args below meth c Q qK D base Hb 1 prog_19_method_154_code qP89 qC89.2.2.2.2 := by
  have S : CallFix p m c prog_19_method_154_code 1 s args (Jvm.Cond.code yJ0_isLatin1_aae02 prog_19_method_154_code 1 (some .boolean) :: zg_tb) RJ0 := ⟨B.exec, B.bytes, hml, findClass_of_methodNamed B.named, atoms_spec (ws := (Jvm.Cond.code yJ0_isLatin1_aae02 prog_19_method_154_code 1 (some .boolean) :: zg_tb)) B.pre⟩
  exact ⟨List.forall_mem_cons.mpr ⟨⟨zg_gokS S (hK.2.2.2.2.2.2.2.2.1 _ (List.mem_of_getElem? (i := 1) rfl)) (List.mem_cons_of_mem _ zw8_58), zg_pok4⟩, fun _ h => absurd h List.not_mem_nil⟩,
    fun _ h => absurd h List.not_mem_nil,
    fun _ h => absurd h List.not_mem_nil,
    fun _ h => absurd h List.not_mem_nil,
    fun h => absurd rfl h,
    List.forall_mem_cons.mpr ⟨zg_kokG S (hK.2.2.2.2.2.2.2.2.2.2.1 _ (List.mem_of_getElem? (i := 0) rfl)) (List.mem_cons_of_mem _ zw1_144) (by decide +kernel) (zk_dg_ok qdo_19_154 (by decide +kernel)), fun _ h => absurd h List.not_mem_nil⟩,
    fun _ h => absurd h List.not_mem_nil⟩
set_option maxRecDepth 100000 in
theorem qm89 {l : Launch} {D : zk_D} {base : Nat} {Hb : Heap} : zk_Met l qK D base Hb (zg_K D base Hb) yJ0_isLatin1_aae02 (Jvm.Cond.code yJ0_isLatin1_aae02 prog_19_method_154_code 1 (some .boolean) :: zg_tb) qR89 qC89 := zk_met (ws' := zg_tb) (P := qP89) (AT := zg_AT) zpn_J0 rfl rfl rfl qk89 (fun s hK => zg_wd hK) (fun p e s m args below meth c s₁ Q B hml hK => qo89 B hml hK) (fun p e s m args below meth c s₁ v G0 H0 B hml hK ha hp hF q hq => absurd hq List.not_mem_nil)
set_option maxRecDepth 100000 in
def qR90 : Room := { frames := 1, cells := 0, slots := 0, locals := 20 }
set_option maxHeartbeats 4000000 in
set_option maxRecDepth 100000 in
theorem qo90 {p : Program} {l : Launch} {e : Env} {s : State} {m : MethodId} {args : Array Value} {below : List Frame} {meth : Method} {c : Code} {s₁ : State} {Q : State → Prop} {D : zk_D} {base : Nat} {Hb : Heap} (B : BodyLoose p l yJ0_coder_7d493 (headSpec (Jvm.Cond.code yJ0_coder_7d493 prog_19_method_152_code 1 (some .byte) :: zg_tb) qR90) prog_19_method_152_code 1 (some .byte) e s m args below meth c s₁) (hml : c.maxLocals = 1) (hK : zg_K D base Hb s) : zk_ok p l e (headSpec (Jvm.Cond.code yJ0_coder_7d493 prog_19_method_152_code 1 (some .byte) :: zg_tb) qR90).room s m args below meth c Q qK D base Hb 1 prog_19_method_152_code qP90 qC90.2.2.2.2 := by
  have S : CallFix p m c prog_19_method_152_code 1 s args (Jvm.Cond.code yJ0_coder_7d493 prog_19_method_152_code 1 (some .byte) :: zg_tb) RJ0 := ⟨B.exec, B.bytes, hml, findClass_of_methodNamed B.named, atoms_spec (ws := (Jvm.Cond.code yJ0_coder_7d493 prog_19_method_152_code 1 (some .byte) :: zg_tb)) B.pre⟩
  exact ⟨List.forall_mem_cons.mpr ⟨⟨zg_gokS S (hK.2.2.2.2.2.2.2.2.1 _ (List.mem_of_getElem? (i := 1) rfl)) (List.mem_cons_of_mem _ zw8_58), zg_pok4⟩, fun _ h => absurd h List.not_mem_nil⟩,
    fun _ h => absurd h List.not_mem_nil,
    fun _ h => absurd h List.not_mem_nil,
    fun _ h => absurd h List.not_mem_nil,
    fun h => absurd rfl h,
    List.forall_mem_cons.mpr ⟨zg_kokG S (hK.2.2.2.2.2.2.2.2.2.2.1 _ (List.mem_of_getElem? (i := 0) rfl)) (List.mem_cons_of_mem _ zw1_144) (by decide +kernel) (zk_dg_ok qdo_19_152 (by decide +kernel)), fun _ h => absurd h List.not_mem_nil⟩,
    fun _ h => absurd h List.not_mem_nil⟩
set_option maxRecDepth 100000 in
theorem qm90 {l : Launch} {D : zk_D} {base : Nat} {Hb : Heap} : zk_Met l qK D base Hb (zg_K D base Hb) yJ0_coder_7d493 (Jvm.Cond.code yJ0_coder_7d493 prog_19_method_152_code 1 (some .byte) :: zg_tb) qR90 qC90 := zk_met (ws' := zg_tb) (P := qP90) (AT := zg_AT) zpn_J0 rfl rfl rfl qk90 (fun s hK => zg_wd hK) (fun p e s m args below meth c s₁ Q B hml hK => qo90 B hml hK) (fun p e s m args below meth c s₁ v G0 H0 B hml hK ha hp hF q hq => absurd hq List.not_mem_nil)
set_option maxRecDepth 100000 in
def qR91 : Room := { frames := 2, cells := 0, slots := 0, locals := 40 }
set_option maxHeartbeats 4000000 in
set_option maxRecDepth 100000 in
theorem qo91 {p : Program} {l : Launch} {e : Env} {s : State} {m : MethodId} {args : Array Value} {below : List Frame} {meth : Method} {c : Code} {s₁ : State} {Q : State → Prop} {D : zk_D} {base : Nat} {Hb : Heap} (B : BodyLoose p l yJ0_length_8abf5 (headSpec (Jvm.Cond.code yJ0_length_8abf5 prog_19_method_54_code 1 (some .int) :: zg_tb) qR91) prog_19_method_54_code 1 (some .int) e s m args below meth c s₁) (hml : c.maxLocals = 1) (hK : zg_K D base Hb s) : zk_ok p l e (headSpec (Jvm.Cond.code yJ0_length_8abf5 prog_19_method_54_code 1 (some .int) :: zg_tb) qR91).room s m args below meth c Q qK D base Hb 1 prog_19_method_54_code qP91 qC91.2.2.2.2 := by
  have S : CallFix p m c prog_19_method_54_code 1 s args (Jvm.Cond.code yJ0_length_8abf5 prog_19_method_54_code 1 (some .int) :: zg_tb) RJ0 := ⟨B.exec, B.bytes, hml, findClass_of_methodNamed B.named, atoms_spec (ws := (Jvm.Cond.code yJ0_length_8abf5 prog_19_method_54_code 1 (some .int) :: zg_tb)) B.pre⟩
  exact ⟨List.forall_mem_cons.mpr ⟨⟨zg_gokS S (hK.2.2.2.2.2.2.2.2.1 _ (List.mem_of_getElem? (i := 0) rfl)) (List.mem_cons_of_mem _ zw8_57), zg_pok4⟩, fun _ h => absurd h List.not_mem_nil⟩,
    fun _ h => absurd h List.not_mem_nil,
    fun _ h => absurd h List.not_mem_nil,
    fun _ h => absurd h List.not_mem_nil,
    fun h => absurd rfl h,
    fun _ h => absurd h List.not_mem_nil,
    List.forall_mem_cons.mpr ⟨zg_callV (fun w h => List.mem_cons_of_mem _ h) zg_tb_all S hK zg_Km qm90 zw1_140 zy_yJ0_coder_7d493_V (ci := 13) (by decide +kernel) hK.2.2.2.2.2.2.2.1 ⟨rfl, rfl⟩ (zk_dg_ok qdo_19_54 (by decide +kernel)), fun _ h => absurd h List.not_mem_nil⟩⟩
set_option maxRecDepth 100000 in
theorem qm91 {l : Launch} {D : zk_D} {base : Nat} {Hb : Heap} : zk_Met l qK D base Hb (zg_K D base Hb) yJ0_length_8abf5 (Jvm.Cond.code yJ0_length_8abf5 prog_19_method_54_code 1 (some .int) :: zg_tb) qR91 qC91 := zk_met (ws' := zg_tb) (P := qP91) (AT := zg_AT) zpn_J0 rfl rfl rfl qk91 (fun s hK => zg_wd hK) (fun p e s m args below meth c s₁ Q B hml hK => qo91 B hml hK) (fun p e s m args below meth c s₁ v G0 H0 B hml hK ha hp hF q hq => absurd hq List.not_mem_nil)
set_option maxRecDepth 100000 in
def qR92 : Room := { frames := 1, cells := 0, slots := 0, locals := 20 }
set_option maxHeartbeats 4000000 in
set_option maxRecDepth 100000 in
theorem qo92 {p : Program} {l : Launch} {e : Env} {s : State} {m : MethodId} {args : Array Value} {below : List Frame} {meth : Method} {c : Code} {s₁ : State} {Q : State → Prop} {D : zk_D} {base : Nat} {Hb : Heap} (B : BodyLoose p l yJ1_canEncode_9a6ad (headSpec (Jvm.Cond.code yJ1_canEncode_9a6ad prog_20_method_4_code 1 (some .boolean) :: zg_tb) qR92) prog_20_method_4_code 1 (some .boolean) e s m args below meth c s₁) (hml : c.maxLocals = 1) (hK : zg_K D base Hb s) : zk_ok p l e (headSpec (Jvm.Cond.code yJ1_canEncode_9a6ad prog_20_method_4_code 1 (some .boolean) :: zg_tb) qR92).room s m args below meth c Q qK D base Hb 1 prog_20_method_4_code qP92 qC92.2.2.2.2 := by
  have S : CallFix p m c prog_20_method_4_code 1 s args (Jvm.Cond.code yJ1_canEncode_9a6ad prog_20_method_4_code 1 (some .boolean) :: zg_tb) RJ1 := ⟨B.exec, B.bytes, hml, findClass_of_methodNamed B.named, atoms_spec (ws := (Jvm.Cond.code yJ1_canEncode_9a6ad prog_20_method_4_code 1 (some .boolean) :: zg_tb)) B.pre⟩
  exact ⟨fun _ h => absurd h List.not_mem_nil,
    fun _ h => absurd h List.not_mem_nil,
    fun _ h => absurd h List.not_mem_nil,
    fun _ h => absurd h List.not_mem_nil,
    fun h => absurd rfl h,
    fun _ h => absurd h List.not_mem_nil,
    fun _ h => absurd h List.not_mem_nil⟩
set_option maxRecDepth 100000 in
theorem qm92 {l : Launch} {D : zk_D} {base : Nat} {Hb : Heap} : zk_Met l qK D base Hb (zg_K D base Hb) yJ1_canEncode_9a6ad (Jvm.Cond.code yJ1_canEncode_9a6ad prog_20_method_4_code 1 (some .boolean) :: zg_tb) qR92 qC92 := zk_met (ws' := zg_tb) (P := qP92) (AT := zg_AT) zpn_J1 rfl rfl rfl qk92 (fun s hK => zg_wd hK) (fun p e s m args below meth c s₁ Q B hml hK => qo92 B hml hK) (fun p e s m args below meth c s₁ v G0 H0 B hml hK ha hp hF q hq => absurd hq List.not_mem_nil)
set_option maxRecDepth 100000 in
def qR93 : Room := { frames := 1, cells := 0, slots := 0, locals := 20 }
set_option maxHeartbeats 4000000 in
set_option maxRecDepth 100000 in
theorem qo93 {p : Program} {l : Launch} {e : Env} {s : State} {m : MethodId} {args : Array Value} {below : List Frame} {meth : Method} {c : Code} {s₁ : State} {Q : State → Prop} {D : zk_D} {base : Nat} {Hb : Heap} (B : BodyLoose p l yJ9_max_7cf53 (headSpec (Jvm.Cond.code yJ9_max_7cf53 prog_18_method_65_code 2 (some .int) :: zg_tb) qR93) prog_18_method_65_code 2 (some .int) e s m args below meth c s₁) (hml : c.maxLocals = 2) (hK : zg_K D base Hb s) : zk_ok p l e (headSpec (Jvm.Cond.code yJ9_max_7cf53 prog_18_method_65_code 2 (some .int) :: zg_tb) qR93).room s m args below meth c Q qK D base Hb 2 prog_18_method_65_code qP93 qC93.2.2.2.2 := by
  have S : CallFix p m c prog_18_method_65_code 2 s args (Jvm.Cond.code yJ9_max_7cf53 prog_18_method_65_code 2 (some .int) :: zg_tb) RJ9 := ⟨B.exec, B.bytes, hml, findClass_of_methodNamed B.named, atoms_spec (ws := (Jvm.Cond.code yJ9_max_7cf53 prog_18_method_65_code 2 (some .int) :: zg_tb)) B.pre⟩
  exact ⟨fun _ h => absurd h List.not_mem_nil,
    fun _ h => absurd h List.not_mem_nil,
    fun _ h => absurd h List.not_mem_nil,
    fun _ h => absurd h List.not_mem_nil,
    fun h => absurd rfl h,
    fun _ h => absurd h List.not_mem_nil,
    fun _ h => absurd h List.not_mem_nil⟩
set_option maxRecDepth 100000 in
theorem qm93 {l : Launch} {D : zk_D} {base : Nat} {Hb : Heap} : zk_Met l qK D base Hb (zg_K D base Hb) yJ9_max_7cf53 (Jvm.Cond.code yJ9_max_7cf53 prog_18_method_65_code 2 (some .int) :: zg_tb) qR93 qC93 := zk_metF (ws' := zg_tb) (P := qP93) (AT := zg_AT) zpf_yJ9_max_7cf53 rfl rfl rfl qk93 (fun s hK => zg_wd hK) (fun p e s m args below meth c s₁ Q B hml hK => qo93 B hml hK) (fun p e s m args below meth c s₁ v G0 H0 B hml hK ha hp hF q hq => absurd hq List.not_mem_nil)
set_option maxRecDepth 100000 in
def qR94 : Room := { frames := 1, cells := 0, slots := 0, locals := 20 }
set_option maxHeartbeats 4000000 in
set_option maxRecDepth 100000 in
theorem qo94 {p : Program} {l : Launch} {e : Env} {s : State} {m : MethodId} {args : Array Value} {below : List Frame} {meth : Method} {c : Code} {s₁ : State} {Q : State → Prop} {D : zk_D} {base : Nat} {Hb : Heap} (B : BodyLoose p l yJ9_min_7cf53 (headSpec (Jvm.Cond.code yJ9_min_7cf53 prog_18_method_69_code 2 (some .int) :: zg_tb) qR94) prog_18_method_69_code 2 (some .int) e s m args below meth c s₁) (hml : c.maxLocals = 2) (hK : zg_K D base Hb s) : zk_ok p l e (headSpec (Jvm.Cond.code yJ9_min_7cf53 prog_18_method_69_code 2 (some .int) :: zg_tb) qR94).room s m args below meth c Q qK D base Hb 2 prog_18_method_69_code qP94 qC94.2.2.2.2 := by
  have S : CallFix p m c prog_18_method_69_code 2 s args (Jvm.Cond.code yJ9_min_7cf53 prog_18_method_69_code 2 (some .int) :: zg_tb) RJ9 := ⟨B.exec, B.bytes, hml, findClass_of_methodNamed B.named, atoms_spec (ws := (Jvm.Cond.code yJ9_min_7cf53 prog_18_method_69_code 2 (some .int) :: zg_tb)) B.pre⟩
  exact ⟨fun _ h => absurd h List.not_mem_nil,
    fun _ h => absurd h List.not_mem_nil,
    fun _ h => absurd h List.not_mem_nil,
    fun _ h => absurd h List.not_mem_nil,
    fun h => absurd rfl h,
    fun _ h => absurd h List.not_mem_nil,
    fun _ h => absurd h List.not_mem_nil⟩
set_option maxRecDepth 100000 in
theorem qm94 {l : Launch} {D : zk_D} {base : Nat} {Hb : Heap} : zk_Met l qK D base Hb (zg_K D base Hb) yJ9_min_7cf53 (Jvm.Cond.code yJ9_min_7cf53 prog_18_method_69_code 2 (some .int) :: zg_tb) qR94 qC94 := zk_metF (ws' := zg_tb) (P := qP94) (AT := zg_AT) zpf_yJ9_min_7cf53 rfl rfl rfl qk94 (fun s hK => zg_wd hK) (fun p e s m args below meth c s₁ Q B hml hK => qo94 B hml hK) (fun p e s m args below meth c s₁ v G0 H0 B hml hK ha hp hF q hq => absurd hq List.not_mem_nil)
set_option maxRecDepth 100000 in
def qR95 : Room := { frames := 1, cells := 0, slots := 0, locals := 20 }
set_option maxHeartbeats 4000000 in
set_option maxRecDepth 100000 in
theorem qo95 {p : Program} {l : Launch} {e : Env} {s : State} {m : MethodId} {args : Array Value} {below : List Frame} {meth : Method} {c : Code} {s₁ : State} {Q : State → Prop} {D : zk_D} {base : Nat} {Hb : Heap} (B : BodyLoose p l yJ1_indexOfChar_4cfef (headSpec (Jvm.Cond.code yJ1_indexOfChar_4cfef prog_20_method_23_code 6 (some .int) :: zg_tb) qR95) prog_20_method_23_code 6 (some .int) e s m args below meth c s₁) (hml : c.maxLocals = 6) (hK : zg_K D base Hb s) : zk_ok p l e (headSpec (Jvm.Cond.code yJ1_indexOfChar_4cfef prog_20_method_23_code 6 (some .int) :: zg_tb) qR95).room s m args below meth c Q qK D base Hb 6 prog_20_method_23_code qP95 qC95.2.2.2.2 := by
  have S : CallFix p m c prog_20_method_23_code 6 s args (Jvm.Cond.code yJ1_indexOfChar_4cfef prog_20_method_23_code 6 (some .int) :: zg_tb) RJ1 := ⟨B.exec, B.bytes, hml, findClass_of_methodNamed B.named, atoms_spec (ws := (Jvm.Cond.code yJ1_indexOfChar_4cfef prog_20_method_23_code 6 (some .int) :: zg_tb)) B.pre⟩
  exact ⟨fun _ h => absurd h List.not_mem_nil,
    fun _ h => absurd h List.not_mem_nil,
    fun _ h => absurd h List.not_mem_nil,
    fun _ h => absurd h List.not_mem_nil,
    fun h => absurd rfl h,
    fun _ h => absurd h List.not_mem_nil,
    fun _ h => absurd h List.not_mem_nil⟩
set_option maxRecDepth 100000 in
theorem qm95 {l : Launch} {D : zk_D} {base : Nat} {Hb : Heap} : zk_Met l qK D base Hb (zg_K D base Hb) yJ1_indexOfChar_4cfef (Jvm.Cond.code yJ1_indexOfChar_4cfef prog_20_method_23_code 6 (some .int) :: zg_tb) qR95 qC95 := zk_met (ws' := zg_tb) (P := qP95) (AT := zg_AT) zpn_J1 rfl rfl rfl qk95 (fun s hK => zg_wd hK) (fun p e s m args below meth c s₁ Q B hml hK => qo95 B hml hK) (fun p e s m args below meth c s₁ v G0 H0 B hml hK ha hp hF q hq => absurd hq List.not_mem_nil)
set_option maxRecDepth 100000 in
def qR96 : Room := { frames := 2, cells := 0, slots := 0, locals := 45 }
set_option maxHeartbeats 4000000 in
set_option maxRecDepth 100000 in
theorem qo96 {p : Program} {l : Launch} {e : Env} {s : State} {m : MethodId} {args : Array Value} {below : List Frame} {meth : Method} {c : Code} {s₁ : State} {Q : State → Prop} {D : zk_D} {base : Nat} {Hb : Heap} (B : BodyLoose p l yJ1_indexOf_4cfef (headSpec (Jvm.Cond.code yJ1_indexOf_4cfef prog_20_method_22_code 4 (some .int) :: zg_tb) qR96) prog_20_method_22_code 4 (some .int) e s m args below meth c s₁) (hml : c.maxLocals = 4) (hK : zg_K D base Hb s) : zk_ok p l e (headSpec (Jvm.Cond.code yJ1_indexOf_4cfef prog_20_method_22_code 4 (some .int) :: zg_tb) qR96).room s m args below meth c Q qK D base Hb 4 prog_20_method_22_code qP96 qC96.2.2.2.2 := by
  have S : CallFix p m c prog_20_method_22_code 4 s args (Jvm.Cond.code yJ1_indexOf_4cfef prog_20_method_22_code 4 (some .int) :: zg_tb) RJ1 := ⟨B.exec, B.bytes, hml, findClass_of_methodNamed B.named, atoms_spec (ws := (Jvm.Cond.code yJ1_indexOf_4cfef prog_20_method_22_code 4 (some .int) :: zg_tb)) B.pre⟩
  exact ⟨fun _ h => absurd h List.not_mem_nil,
    fun _ h => absurd h List.not_mem_nil,
    fun _ h => absurd h List.not_mem_nil,
    fun _ h => absurd h List.not_mem_nil,
    fun h => absurd rfl h,
    fun _ h => absurd h List.not_mem_nil,
    List.forall_mem_cons.mpr ⟨zg_callS (fun w h => List.mem_cons_of_mem _ h) zg_tb_all S hK zg_Km qm92 zw2_204 zy_yJ1_canEncode_9a6ad_S (by decide +kernel) ⟨rfl, rfl⟩ (zk_dg_ok qdo_20_22 (by decide +kernel)), List.forall_mem_cons.mpr ⟨zg_callS (fun w h => List.mem_cons_of_mem _ h) zg_tb_all S hK zg_Km qm93 zw2_207 zy_yJ9_max_7cf53_S (by decide +kernel) ⟨rfl, rfl⟩ (zk_dg_ok qdo_20_22 (by decide +kernel)), List.forall_mem_cons.mpr ⟨zg_callS (fun w h => List.mem_cons_of_mem _ h) zg_tb_all S hK zg_Km qm94 zw2_210 zy_yJ9_min_7cf53_S (by decide +kernel) ⟨rfl, rfl⟩ (zk_dg_ok qdo_20_22 (by decide +kernel)), List.forall_mem_cons.mpr ⟨zg_callS (fun w h => List.mem_cons_of_mem _ h) zg_tb_all S hK zg_Km qm95 zw2_213 zy_yJ1_indexOfChar_4cfef_S (by decide +kernel) ⟨rfl, rfl⟩ (zk_dg_ok qdo_20_22 (by decide +kernel)), fun _ h => absurd h List.not_mem_nil⟩⟩⟩⟩⟩
set_option maxRecDepth 100000 in
theorem qm96 {l : Launch} {D : zk_D} {base : Nat} {Hb : Heap} : zk_Met l qK D base Hb (zg_K D base Hb) yJ1_indexOf_4cfef (Jvm.Cond.code yJ1_indexOf_4cfef prog_20_method_22_code 4 (some .int) :: zg_tb) qR96 qC96 := zk_met (ws' := zg_tb) (P := qP96) (AT := zg_AT) zpn_J1 rfl rfl rfl qk96 (fun s hK => zg_wd hK) (fun p e s m args below meth c s₁ Q B hml hK => qo96 B hml hK) (fun p e s m args below meth c s₁ v G0 H0 B hml hK ha hp hF q hq => absurd hq List.not_mem_nil)
set_option maxRecDepth 100000 in
def qR97 : Room := { frames := 3, cells := 0, slots := 0, locals := 68 }
set_option maxHeartbeats 4000000 in
set_option maxRecDepth 100000 in
theorem qo97 {p : Program} {l : Launch} {e : Env} {s : State} {m : MethodId} {args : Array Value} {below : List Frame} {meth : Method} {c : Code} {s₁ : State} {Q : State → Prop} {D : zk_D} {base : Nat} {Hb : Heap} (B : BodyLoose p l yJ0_indexOf_7cf53 (headSpec (Jvm.Cond.code yJ0_indexOf_7cf53 prog_19_method_80_code 3 (some .int) :: zg_tb) qR97) prog_19_method_80_code 3 (some .int) e s m args below meth c s₁) (hml : c.maxLocals = 3) (hK : zg_K D base Hb s) : zk_ok p l e (headSpec (Jvm.Cond.code yJ0_indexOf_7cf53 prog_19_method_80_code 3 (some .int) :: zg_tb) qR97).room s m args below meth c Q qK D base Hb 3 prog_19_method_80_code qP97 qC97.2.2.2.2 := by
  have S : CallFix p m c prog_19_method_80_code 3 s args (Jvm.Cond.code yJ0_indexOf_7cf53 prog_19_method_80_code 3 (some .int) :: zg_tb) RJ0 := ⟨B.exec, B.bytes, hml, findClass_of_methodNamed B.named, atoms_spec (ws := (Jvm.Cond.code yJ0_indexOf_7cf53 prog_19_method_80_code 3 (some .int) :: zg_tb)) B.pre⟩
  exact ⟨List.forall_mem_cons.mpr ⟨⟨zg_gokS S (hK.2.2.2.2.2.2.2.2.1 _ (List.mem_of_getElem? (i := 0) rfl)) (List.mem_cons_of_mem _ zw8_57), zg_pok4⟩, fun _ h => absurd h List.not_mem_nil⟩,
    fun _ h => absurd h List.not_mem_nil,
    fun _ h => absurd h List.not_mem_nil,
    fun _ h => absurd h List.not_mem_nil,
    fun h => absurd rfl h,
    fun _ h => absurd h List.not_mem_nil,
    List.forall_mem_cons.mpr ⟨zg_callV (fun w h => List.mem_cons_of_mem _ h) zg_tb_all S hK zg_Km qm89 zw2_196 zy_yJ0_isLatin1_aae02_V (ci := 13) (by decide +kernel) hK.2.2.2.2.2.2.2.1 ⟨rfl, rfl⟩ (zk_dg_ok qdo_19_80 (by decide +kernel)), List.forall_mem_cons.mpr ⟨zg_callV (fun w h => List.mem_cons_of_mem _ h) zg_tb_all S hK zg_Km qm91 zw2_200 zy_yJ0_length_8abf5_V (ci := 13) (by decide +kernel) hK.2.2.2.2.2.2.2.1 ⟨rfl, rfl⟩ (zk_dg_ok qdo_19_80 (by decide +kernel)), List.forall_mem_cons.mpr ⟨zg_callS (fun w h => List.mem_cons_of_mem _ h) zg_tb_all S hK zg_Km qm96 zw2_201 zy_yJ1_indexOf_4cfef_S (by decide +kernel) ⟨rfl, rfl⟩ (zk_dg_ok qdo_19_80 (by decide +kernel)), fun _ h => absurd h List.not_mem_nil⟩⟩⟩⟩
set_option maxRecDepth 100000 in
theorem qm97 {l : Launch} {D : zk_D} {base : Nat} {Hb : Heap} : zk_Met l qK D base Hb (zg_K D base Hb) yJ0_indexOf_7cf53 (Jvm.Cond.code yJ0_indexOf_7cf53 prog_19_method_80_code 3 (some .int) :: zg_tb) qR97 qC97 := zk_met (ws' := zg_tb) (P := qP97) (AT := zg_AT) zpn_J0 rfl rfl rfl qk97 (fun s hK => zg_wd hK) (fun p e s m args below meth c s₁ Q B hml hK => qo97 B hml hK) (fun p e s m args below meth c s₁ v G0 H0 B hml hK ha hp hF q hq => absurd hq List.not_mem_nil)
set_option maxRecDepth 100000 in
def qR98 : Room := { frames := 4, cells := 0, slots := 0, locals := 90 }
set_option maxHeartbeats 4000000 in
set_option maxRecDepth 100000 in
theorem qo98 {p : Program} {l : Launch} {e : Env} {s : State} {m : MethodId} {args : Array Value} {below : List Frame} {meth : Method} {c : Code} {s₁ : State} {Q : State → Prop} {D : zk_D} {base : Nat} {Hb : Heap} (B : BodyLoose p l yJ0_indexOf_0f7a4 (headSpec (Jvm.Cond.code yJ0_indexOf_0f7a4 prog_19_method_79_code 2 (some .int) :: zg_tb) qR98) prog_19_method_79_code 2 (some .int) e s m args below meth c s₁) (hml : c.maxLocals = 2) (hK : zg_K D base Hb s) : zk_ok p l e (headSpec (Jvm.Cond.code yJ0_indexOf_0f7a4 prog_19_method_79_code 2 (some .int) :: zg_tb) qR98).room s m args below meth c Q qK D base Hb 2 prog_19_method_79_code qP98 qC98.2.2.2.2 := by
  have S : CallFix p m c prog_19_method_79_code 2 s args (Jvm.Cond.code yJ0_indexOf_0f7a4 prog_19_method_79_code 2 (some .int) :: zg_tb) RJ0 := ⟨B.exec, B.bytes, hml, findClass_of_methodNamed B.named, atoms_spec (ws := (Jvm.Cond.code yJ0_indexOf_0f7a4 prog_19_method_79_code 2 (some .int) :: zg_tb)) B.pre⟩
  exact ⟨fun _ h => absurd h List.not_mem_nil,
    fun _ h => absurd h List.not_mem_nil,
    fun _ h => absurd h List.not_mem_nil,
    fun _ h => absurd h List.not_mem_nil,
    fun h => absurd rfl h,
    fun _ h => absurd h List.not_mem_nil,
    List.forall_mem_cons.mpr ⟨zg_callV (fun w h => List.mem_cons_of_mem _ h) zg_tb_all S hK zg_Km qm97 zw2_192 zy_yJ0_indexOf_7cf53_V (ci := 13) (by decide +kernel) hK.2.2.2.2.2.2.2.1 ⟨rfl, rfl⟩ (zk_dg_ok qdo_19_79 (by decide +kernel)), fun _ h => absurd h List.not_mem_nil⟩⟩
set_option maxRecDepth 100000 in
theorem qm98 {l : Launch} {D : zk_D} {base : Nat} {Hb : Heap} : zk_Met l qK D base Hb (zg_K D base Hb) yJ0_indexOf_0f7a4 (Jvm.Cond.code yJ0_indexOf_0f7a4 prog_19_method_79_code 2 (some .int) :: zg_tb) qR98 qC98 := zk_met (ws' := zg_tb) (P := qP98) (AT := zg_AT) zpn_J0 rfl rfl rfl qk98 (fun s hK => zg_wd hK) (fun p e s m args below meth c s₁ Q B hml hK => qo98 B hml hK) (fun p e s m args below meth c s₁ v G0 H0 B hml hK ha hp hF q hq => absurd hq List.not_mem_nil)
set_option maxRecDepth 100000 in
def qR99 : Room := { frames := 14, cells := 0, slots := 0, locals := 318 }
set_option maxHeartbeats 4000000 in
set_option maxRecDepth 100000 in
theorem qo99 {p : Program} {l : Launch} {e : Env} {s : State} {m : MethodId} {args : Array Value} {below : List Frame} {meth : Method} {c : Code} {s₁ : State} {Q : State → Prop} {D : zk_D} {base : Nat} {Hb : Heap} (B : BodyLoose p l yX6_readAtom (headSpec (Jvm.Cond.code yX6_readAtom prog_8_method_14_code 4 (some .boolean) :: zg_tb) qR99) prog_8_method_14_code 4 (some .boolean) e s m args below meth c s₁) (hml : c.maxLocals = 4) (hK : zg_K D base Hb s) : zk_ok p l e (headSpec (Jvm.Cond.code yX6_readAtom prog_8_method_14_code 4 (some .boolean) :: zg_tb) qR99).room s m args below meth c Q qK D base Hb 4 prog_8_method_14_code qP99 qC99.2.2.2.2 := by
  have S : CallFix p m c prog_8_method_14_code 4 s args (Jvm.Cond.code yX6_readAtom prog_8_method_14_code 4 (some .boolean) :: zg_tb) RX6 := ⟨B.exec, B.bytes, hml, findClass_of_methodNamed B.named, atoms_spec (ws := (Jvm.Cond.code yX6_readAtom prog_8_method_14_code 4 (some .boolean) :: zg_tb)) B.pre⟩
  exact ⟨List.forall_mem_cons.mpr ⟨zg_gp S (hK.2.1 6 _ rfl) (fun w h => (List.mem_cons_of_mem _ (zc6 w h))) rfl zt6_3 (List.mem_cons_of_mem _ zw1_119) rfl, fun _ h => absurd h List.not_mem_nil⟩,
    fun _ h => absurd h List.not_mem_nil,
    fun _ h => absurd h List.not_mem_nil,
    fun _ h => absurd h List.not_mem_nil,
    fun h => absurd rfl h,
    List.forall_mem_cons.mpr ⟨zg_kokS (k := 24) (tx := "wlsknauhrmyo") S (zg_sR2 hK) (by decide +kernel) (by decide) (zk_dg_ok qdo_8_14 (by decide +kernel)), fun _ h => absurd h List.not_mem_nil⟩,
    List.forall_mem_cons.mpr ⟨zg_callV (fun w h => List.mem_cons_of_mem _ h) zg_tb_all S hK zg_Km qm36 zw2_183 zy_yX6_ahead_V (ci := 6) (by decide +kernel) (hK.2.1 6 _ rfl).2.1 ⟨rfl, rfl⟩ (zk_dg_ok qdo_8_14 (by decide +kernel)), List.forall_mem_cons.mpr ⟨zg_callV (fun w h => List.mem_cons_of_mem _ h) zg_tb_all S hK zg_Km qm49 zw3_45 zy_yX6_readNumber_V (ci := 6) (by decide +kernel) (hK.2.1 6 _ rfl).2.1 ⟨rfl, rfl⟩ (zk_dg_ok qdo_8_14 (by decide +kernel)), List.forall_mem_cons.mpr ⟨zg_callV (fun w h => List.mem_cons_of_mem _ h) zg_tb_all S hK zg_Km qm88 zw3_33 zy_yX6_readSum_V (ci := 6) (by decide +kernel) (hK.2.1 6 _ rfl).2.1 ⟨rfl, rfl⟩ (zk_dg_ok qdo_8_14 (by decide +kernel)), List.forall_mem_cons.mpr ⟨zg_callV (fun w h => List.mem_cons_of_mem _ h) zg_tb_all S hK zg_Km qm48 zw3_29 zy_yX6_pass_V (ci := 6) (by decide +kernel) (hK.2.1 6 _ rfl).2.1 ⟨rfl, rfl⟩ (zk_dg_ok qdo_8_14 (by decide +kernel)), List.forall_mem_cons.mpr ⟨zg_callV (fun w h => List.mem_cons_of_mem _ h) zg_tb_all S hK zg_Km qm98 zw2_188 zy_yJ0_indexOf_0f7a4_V (ci := 13) (by decide +kernel) hK.2.2.2.2.2.2.2.1 ⟨rfl, rfl⟩ (zk_dg_ok qdo_8_14 (by decide +kernel)), List.forall_mem_cons.mpr ⟨zg_callV (fun w h => List.mem_cons_of_mem _ h) zg_tb_all S hK zg_Km qm47 zw3_25 zy_yX6_add_V (ci := 6) (by decide +kernel) (hK.2.1 6 _ rfl).2.1 ⟨rfl, rfl⟩ (zk_dg_ok qdo_8_14 (by decide +kernel)), fun _ h => absurd h List.not_mem_nil⟩⟩⟩⟩⟩⟩⟩
set_option maxRecDepth 100000 in
theorem qm99 {l : Launch} {D : zk_D} {base : Nat} {Hb : Heap} : zk_Met l qK D base Hb (zg_K D base Hb) yX6_readAtom (Jvm.Cond.code yX6_readAtom prog_8_method_14_code 4 (some .boolean) :: zg_tb) qR99 qC99 := zk_met (ws' := zg_tb) (P := qP99) (AT := zg_AT) zpn_X6 rfl rfl rfl qk99 (fun s hK => zg_wd hK) (fun p e s m args below meth c s₁ Q B hml hK => qo99 B hml hK) (fun p e s m args below meth c s₁ v G0 H0 B hml hK ha hp hF q hq => absurd hq List.not_mem_nil)
set_option maxRecDepth 100000 in
def qR100 : Room := { frames := 15, cells := 0, slots := 0, locals := 341 }
set_option maxHeartbeats 4000000 in
set_option maxRecDepth 100000 in
theorem qo100 {p : Program} {l : Launch} {e : Env} {s : State} {m : MethodId} {args : Array Value} {below : List Frame} {meth : Method} {c : Code} {s₁ : State} {Q : State → Prop} {D : zk_D} {base : Nat} {Hb : Heap} (B : BodyLoose p l yX6_readTerm (headSpec (Jvm.Cond.code yX6_readTerm prog_8_method_13_code 4 (some .boolean) :: zg_tb) qR100) prog_8_method_13_code 4 (some .boolean) e s m args below meth c s₁) (hml : c.maxLocals = 4) (hK : zg_K D base Hb s) : zk_ok p l e (headSpec (Jvm.Cond.code yX6_readTerm prog_8_method_13_code 4 (some .boolean) :: zg_tb) qR100).room s m args below meth c Q qK D base Hb 4 prog_8_method_13_code qP100 qC100.2.2.2.2 := by
  have S : CallFix p m c prog_8_method_13_code 4 s args (Jvm.Cond.code yX6_readTerm prog_8_method_13_code 4 (some .boolean) :: zg_tb) RX6 := ⟨B.exec, B.bytes, hml, findClass_of_methodNamed B.named, atoms_spec (ws := (Jvm.Cond.code yX6_readTerm prog_8_method_13_code 4 (some .boolean) :: zg_tb)) B.pre⟩
  exact ⟨List.forall_mem_cons.mpr ⟨zg_gp S (hK.2.1 6 _ rfl) (fun w h => (List.mem_cons_of_mem _ (zc6 w h))) rfl zt6_3 (List.mem_cons_of_mem _ zw1_119) rfl, fun _ h => absurd h List.not_mem_nil⟩,
    fun _ h => absurd h List.not_mem_nil,
    fun _ h => absurd h List.not_mem_nil,
    fun _ h => absurd h List.not_mem_nil,
    fun h => absurd rfl h,
    fun _ h => absurd h List.not_mem_nil,
    List.forall_mem_cons.mpr ⟨zg_callV (fun w h => List.mem_cons_of_mem _ h) zg_tb_all S hK zg_Km qm99 zw3_41 zy_yX6_readAtom_V (ci := 6) (by decide +kernel) (hK.2.1 6 _ rfl).2.1 ⟨rfl, rfl⟩ (zk_dg_ok qdo_8_13 (by decide +kernel)), List.forall_mem_cons.mpr ⟨zg_callV (fun w h => List.mem_cons_of_mem _ h) zg_tb_all S hK zg_Km qm36 zw2_183 zy_yX6_ahead_V (ci := 6) (by decide +kernel) (hK.2.1 6 _ rfl).2.1 ⟨rfl, rfl⟩ (zk_dg_ok qdo_8_13 (by decide +kernel)), List.forall_mem_cons.mpr ⟨zg_callV (fun w h => List.mem_cons_of_mem _ h) zg_tb_all S hK zg_Km qm99 zw3_41 zy_yX6_readAtom_V (ci := 6) (by decide +kernel) (hK.2.1 6 _ rfl).2.1 ⟨rfl, rfl⟩ (zk_dg_ok qdo_8_13 (by decide +kernel)), List.forall_mem_cons.mpr ⟨zg_callV (fun w h => List.mem_cons_of_mem _ h) zg_tb_all S hK zg_Km qm47 zw3_25 zy_yX6_add_V (ci := 6) (by decide +kernel) (hK.2.1 6 _ rfl).2.1 ⟨rfl, rfl⟩ (zk_dg_ok qdo_8_13 (by decide +kernel)), fun _ h => absurd h List.not_mem_nil⟩⟩⟩⟩⟩
set_option maxRecDepth 100000 in
theorem qm100 {l : Launch} {D : zk_D} {base : Nat} {Hb : Heap} : zk_Met l qK D base Hb (zg_K D base Hb) yX6_readTerm (Jvm.Cond.code yX6_readTerm prog_8_method_13_code 4 (some .boolean) :: zg_tb) qR100 qC100 := zk_met (ws' := zg_tb) (P := qP100) (AT := zg_AT) zpn_X6 rfl rfl rfl qk100 (fun s hK => zg_wd hK) (fun p e s m args below meth c s₁ Q B hml hK => qo100 B hml hK) (fun p e s m args below meth c s₁ v G0 H0 B hml hK ha hp hF q hq => absurd hq List.not_mem_nil)
set_option maxRecDepth 100000 in
def qR101 : Room := { frames := 16, cells := 0, slots := 0, locals := 364 }
set_option maxHeartbeats 4000000 in
set_option maxRecDepth 100000 in
theorem qo101 {p : Program} {l : Launch} {e : Env} {s : State} {m : MethodId} {args : Array Value} {below : List Frame} {meth : Method} {c : Code} {s₁ : State} {Q : State → Prop} {D : zk_D} {base : Nat} {Hb : Heap} (B : BodyLoose p l yX6_readSum (headSpec (Jvm.Cond.code yX6_readSum prog_8_method_12_code 4 (some .boolean) :: zg_tb) qR101) prog_8_method_12_code 4 (some .boolean) e s m args below meth c s₁) (hml : c.maxLocals = 4) (hK : zg_K D base Hb s) : zk_ok p l e (headSpec (Jvm.Cond.code yX6_readSum prog_8_method_12_code 4 (some .boolean) :: zg_tb) qR101).room s m args below meth c Q qK D base Hb 4 prog_8_method_12_code qP101 qC101.2.2.2.2 := by
  have S : CallFix p m c prog_8_method_12_code 4 s args (Jvm.Cond.code yX6_readSum prog_8_method_12_code 4 (some .boolean) :: zg_tb) RX6 := ⟨B.exec, B.bytes, hml, findClass_of_methodNamed B.named, atoms_spec (ws := (Jvm.Cond.code yX6_readSum prog_8_method_12_code 4 (some .boolean) :: zg_tb)) B.pre⟩
  exact ⟨List.forall_mem_cons.mpr ⟨zg_gp S (hK.2.1 6 _ rfl) (fun w h => (List.mem_cons_of_mem _ (zc6 w h))) rfl zt6_3 (List.mem_cons_of_mem _ zw1_119) rfl, fun _ h => absurd h List.not_mem_nil⟩,
    fun _ h => absurd h List.not_mem_nil,
    fun _ h => absurd h List.not_mem_nil,
    fun _ h => absurd h List.not_mem_nil,
    fun h => absurd rfl h,
    fun _ h => absurd h List.not_mem_nil,
    List.forall_mem_cons.mpr ⟨zg_callV (fun w h => List.mem_cons_of_mem _ h) zg_tb_all S hK zg_Km qm100 zw3_37 zy_yX6_readTerm_V (ci := 6) (by decide +kernel) (hK.2.1 6 _ rfl).2.1 ⟨rfl, rfl⟩ (zk_dg_ok qdo_8_12 (by decide +kernel)), List.forall_mem_cons.mpr ⟨zg_callV (fun w h => List.mem_cons_of_mem _ h) zg_tb_all S hK zg_Km qm36 zw2_183 zy_yX6_ahead_V (ci := 6) (by decide +kernel) (hK.2.1 6 _ rfl).2.1 ⟨rfl, rfl⟩ (zk_dg_ok qdo_8_12 (by decide +kernel)), List.forall_mem_cons.mpr ⟨zg_callV (fun w h => List.mem_cons_of_mem _ h) zg_tb_all S hK zg_Km qm100 zw3_37 zy_yX6_readTerm_V (ci := 6) (by decide +kernel) (hK.2.1 6 _ rfl).2.1 ⟨rfl, rfl⟩ (zk_dg_ok qdo_8_12 (by decide +kernel)), List.forall_mem_cons.mpr ⟨zg_callV (fun w h => List.mem_cons_of_mem _ h) zg_tb_all S hK zg_Km qm47 zw3_25 zy_yX6_add_V (ci := 6) (by decide +kernel) (hK.2.1 6 _ rfl).2.1 ⟨rfl, rfl⟩ (zk_dg_ok qdo_8_12 (by decide +kernel)), fun _ h => absurd h List.not_mem_nil⟩⟩⟩⟩⟩
set_option maxRecDepth 100000 in
theorem qm101 {l : Launch} {D : zk_D} {base : Nat} {Hb : Heap} : zk_Met l qK D base Hb (zg_K D base Hb) yX6_readSum (Jvm.Cond.code yX6_readSum prog_8_method_12_code 4 (some .boolean) :: zg_tb) qR101 qC101 := zk_met (ws' := zg_tb) (P := qP101) (AT := zg_AT) zpn_X6 rfl rfl rfl qk101 (fun s hK => zg_wd hK) (fun p e s m args below meth c s₁ Q B hml hK => qo101 B hml hK) (fun p e s m args below meth c s₁ v G0 H0 B hml hK ha hp hF q hq => absurd hq List.not_mem_nil)
set_option maxRecDepth 100000 in
def qR102 : Room := { frames := 1, cells := 0, slots := 0, locals := 20 }
set_option maxHeartbeats 4000000 in
set_option maxRecDepth 100000 in
theorem qo102 {p : Program} {l : Launch} {e : Env} {s : State} {m : MethodId} {args : Array Value} {below : List Frame} {meth : Method} {c : Code} {s₁ : State} {Q : State → Prop} {D : zk_D} {base : Nat} {Hb : Heap} (B : BodyLoose p l yJ0_isLatin1_aae02 (headSpec (Jvm.Cond.code yJ0_isLatin1_aae02 prog_19_method_154_code 1 (some .boolean) :: zg_tb) qR102) prog_19_method_154_code 1 (some .boolean) e s m args below meth c s₁) (hml : c.maxLocals = 1) (hK : zg_K D base Hb s) : zk_ok p l e (headSpec (Jvm.Cond.code yJ0_isLatin1_aae02 prog_19_method_154_code 1 (some .boolean) :: zg_tb) qR102).room s m args below meth c Q qK D base Hb 1 prog_19_method_154_code qP102 qC102.2.2.2.2 := by
  have S : CallFix p m c prog_19_method_154_code 1 s args (Jvm.Cond.code yJ0_isLatin1_aae02 prog_19_method_154_code 1 (some .boolean) :: zg_tb) RJ0 := ⟨B.exec, B.bytes, hml, findClass_of_methodNamed B.named, atoms_spec (ws := (Jvm.Cond.code yJ0_isLatin1_aae02 prog_19_method_154_code 1 (some .boolean) :: zg_tb)) B.pre⟩
  exact ⟨List.forall_mem_cons.mpr ⟨⟨zg_gokS S (hK.2.2.2.2.2.2.2.2.1 _ (List.mem_of_getElem? (i := 1) rfl)) (List.mem_cons_of_mem _ zw8_58), zg_pok4⟩, fun _ h => absurd h List.not_mem_nil⟩,
    fun _ h => absurd h List.not_mem_nil,
    fun _ h => absurd h List.not_mem_nil,
    fun _ h => absurd h List.not_mem_nil,
    fun h => absurd rfl h,
    List.forall_mem_cons.mpr ⟨zg_kokG S (hK.2.2.2.2.2.2.2.2.2.2.1 _ (List.mem_of_getElem? (i := 0) rfl)) (List.mem_cons_of_mem _ zw1_144) (by decide +kernel) (zk_dg_ok qdo_19_154 (by decide +kernel)), fun _ h => absurd h List.not_mem_nil⟩,
    fun _ h => absurd h List.not_mem_nil⟩
set_option maxRecDepth 100000 in
theorem qm102 {l : Launch} {D : zk_D} {base : Nat} {Hb : Heap} : zk_Met l qK D base Hb (zg_K D base Hb) yJ0_isLatin1_aae02 (Jvm.Cond.code yJ0_isLatin1_aae02 prog_19_method_154_code 1 (some .boolean) :: zg_tb) qR102 qC102 := zk_met (ws' := zg_tb) (P := qP102) (AT := zg_AT) zpn_J0 rfl rfl rfl qk102 (fun s hK => zg_wd hK) (fun p e s m args below meth c s₁ Q B hml hK => qo102 B hml hK) (fun p e s m args below meth c s₁ v G0 H0 B hml hK ha hp hF q hq => absurd hq List.not_mem_nil)
set_option maxRecDepth 100000 in
def qR103 : Room := { frames := 1, cells := 0, slots := 0, locals := 20 }
set_option maxHeartbeats 4000000 in
set_option maxRecDepth 100000 in
theorem qo103 {p : Program} {l : Launch} {e : Env} {s : State} {m : MethodId} {args : Array Value} {below : List Frame} {meth : Method} {c : Code} {s₁ : State} {Q : State → Prop} {D : zk_D} {base : Nat} {Hb : Heap} (B : BodyLoose p l yJ0_coder_7d493 (headSpec (Jvm.Cond.code yJ0_coder_7d493 prog_19_method_152_code 1 (some .byte) :: zg_tb) qR103) prog_19_method_152_code 1 (some .byte) e s m args below meth c s₁) (hml : c.maxLocals = 1) (hK : zg_K D base Hb s) : zk_ok p l e (headSpec (Jvm.Cond.code yJ0_coder_7d493 prog_19_method_152_code 1 (some .byte) :: zg_tb) qR103).room s m args below meth c Q qK D base Hb 1 prog_19_method_152_code qP103 qC103.2.2.2.2 := by
  have S : CallFix p m c prog_19_method_152_code 1 s args (Jvm.Cond.code yJ0_coder_7d493 prog_19_method_152_code 1 (some .byte) :: zg_tb) RJ0 := ⟨B.exec, B.bytes, hml, findClass_of_methodNamed B.named, atoms_spec (ws := (Jvm.Cond.code yJ0_coder_7d493 prog_19_method_152_code 1 (some .byte) :: zg_tb)) B.pre⟩
  exact ⟨List.forall_mem_cons.mpr ⟨⟨zg_gokS S (hK.2.2.2.2.2.2.2.2.1 _ (List.mem_of_getElem? (i := 1) rfl)) (List.mem_cons_of_mem _ zw8_58), zg_pok4⟩, fun _ h => absurd h List.not_mem_nil⟩,
    fun _ h => absurd h List.not_mem_nil,
    fun _ h => absurd h List.not_mem_nil,
    fun _ h => absurd h List.not_mem_nil,
    fun h => absurd rfl h,
    List.forall_mem_cons.mpr ⟨zg_kokG S (hK.2.2.2.2.2.2.2.2.2.2.1 _ (List.mem_of_getElem? (i := 0) rfl)) (List.mem_cons_of_mem _ zw1_144) (by decide +kernel) (zk_dg_ok qdo_19_152 (by decide +kernel)), fun _ h => absurd h List.not_mem_nil⟩,
    fun _ h => absurd h List.not_mem_nil⟩
set_option maxRecDepth 100000 in
theorem qm103 {l : Launch} {D : zk_D} {base : Nat} {Hb : Heap} : zk_Met l qK D base Hb (zg_K D base Hb) yJ0_coder_7d493 (Jvm.Cond.code yJ0_coder_7d493 prog_19_method_152_code 1 (some .byte) :: zg_tb) qR103 qC103 := zk_met (ws' := zg_tb) (P := qP103) (AT := zg_AT) zpn_J0 rfl rfl rfl qk103 (fun s hK => zg_wd hK) (fun p e s m args below meth c s₁ Q B hml hK => qo103 B hml hK) (fun p e s m args below meth c s₁ v G0 H0 B hml hK ha hp hF q hq => absurd hq List.not_mem_nil)
set_option maxRecDepth 100000 in
def qR104 : Room := { frames := 2, cells := 0, slots := 0, locals := 40 }
set_option maxHeartbeats 4000000 in
set_option maxRecDepth 100000 in
theorem qo104 {p : Program} {l : Launch} {e : Env} {s : State} {m : MethodId} {args : Array Value} {below : List Frame} {meth : Method} {c : Code} {s₁ : State} {Q : State → Prop} {D : zk_D} {base : Nat} {Hb : Heap} (B : BodyLoose p l yJ0_length_8abf5 (headSpec (Jvm.Cond.code yJ0_length_8abf5 prog_19_method_54_code 1 (some .int) :: zg_tb) qR104) prog_19_method_54_code 1 (some .int) e s m args below meth c s₁) (hml : c.maxLocals = 1) (hK : zg_K D base Hb s) : zk_ok p l e (headSpec (Jvm.Cond.code yJ0_length_8abf5 prog_19_method_54_code 1 (some .int) :: zg_tb) qR104).room s m args below meth c Q qK D base Hb 1 prog_19_method_54_code qP104 qC104.2.2.2.2 := by
  have S : CallFix p m c prog_19_method_54_code 1 s args (Jvm.Cond.code yJ0_length_8abf5 prog_19_method_54_code 1 (some .int) :: zg_tb) RJ0 := ⟨B.exec, B.bytes, hml, findClass_of_methodNamed B.named, atoms_spec (ws := (Jvm.Cond.code yJ0_length_8abf5 prog_19_method_54_code 1 (some .int) :: zg_tb)) B.pre⟩
  exact ⟨List.forall_mem_cons.mpr ⟨⟨zg_gokS S (hK.2.2.2.2.2.2.2.2.1 _ (List.mem_of_getElem? (i := 0) rfl)) (List.mem_cons_of_mem _ zw8_57), zg_pok4⟩, fun _ h => absurd h List.not_mem_nil⟩,
    fun _ h => absurd h List.not_mem_nil,
    fun _ h => absurd h List.not_mem_nil,
    fun _ h => absurd h List.not_mem_nil,
    fun h => absurd rfl h,
    fun _ h => absurd h List.not_mem_nil,
    List.forall_mem_cons.mpr ⟨zg_callV (fun w h => List.mem_cons_of_mem _ h) zg_tb_all S hK zg_Km qm103 zw1_140 zy_yJ0_coder_7d493_V (ci := 13) (by decide +kernel) hK.2.2.2.2.2.2.2.1 ⟨rfl, rfl⟩ (zk_dg_ok qdo_19_54 (by decide +kernel)), fun _ h => absurd h List.not_mem_nil⟩⟩
set_option maxRecDepth 100000 in
theorem qm104 {l : Launch} {D : zk_D} {base : Nat} {Hb : Heap} : zk_Met l qK D base Hb (zg_K D base Hb) yJ0_length_8abf5 (Jvm.Cond.code yJ0_length_8abf5 prog_19_method_54_code 1 (some .int) :: zg_tb) qR104 qC104 := zk_met (ws' := zg_tb) (P := qP104) (AT := zg_AT) zpn_J0 rfl rfl rfl qk104 (fun s hK => zg_wd hK) (fun p e s m args below meth c s₁ Q B hml hK => qo104 B hml hK) (fun p e s m args below meth c s₁ v G0 H0 B hml hK ha hp hF q hq => absurd hq List.not_mem_nil)
set_option maxRecDepth 100000 in
def qR105 : Room := { frames := 1, cells := 0, slots := 0, locals := 20 }
set_option maxHeartbeats 4000000 in
set_option maxRecDepth 100000 in
theorem qo105 {p : Program} {l : Launch} {e : Env} {s : State} {m : MethodId} {args : Array Value} {below : List Frame} {meth : Method} {c : Code} {s₁ : State} {Q : State → Prop} {D : zk_D} {base : Nat} {Hb : Heap} (B : BodyLoose p l yJ1_canEncode_9a6ad (headSpec (Jvm.Cond.code yJ1_canEncode_9a6ad prog_20_method_4_code 1 (some .boolean) :: zg_tb) qR105) prog_20_method_4_code 1 (some .boolean) e s m args below meth c s₁) (hml : c.maxLocals = 1) (hK : zg_K D base Hb s) : zk_ok p l e (headSpec (Jvm.Cond.code yJ1_canEncode_9a6ad prog_20_method_4_code 1 (some .boolean) :: zg_tb) qR105).room s m args below meth c Q qK D base Hb 1 prog_20_method_4_code qP105 qC105.2.2.2.2 := by
  have S : CallFix p m c prog_20_method_4_code 1 s args (Jvm.Cond.code yJ1_canEncode_9a6ad prog_20_method_4_code 1 (some .boolean) :: zg_tb) RJ1 := ⟨B.exec, B.bytes, hml, findClass_of_methodNamed B.named, atoms_spec (ws := (Jvm.Cond.code yJ1_canEncode_9a6ad prog_20_method_4_code 1 (some .boolean) :: zg_tb)) B.pre⟩
  exact ⟨fun _ h => absurd h List.not_mem_nil,
    fun _ h => absurd h List.not_mem_nil,
    fun _ h => absurd h List.not_mem_nil,
    fun _ h => absurd h List.not_mem_nil,
    fun h => absurd rfl h,
    fun _ h => absurd h List.not_mem_nil,
    fun _ h => absurd h List.not_mem_nil⟩
set_option maxRecDepth 100000 in
theorem qm105 {l : Launch} {D : zk_D} {base : Nat} {Hb : Heap} : zk_Met l qK D base Hb (zg_K D base Hb) yJ1_canEncode_9a6ad (Jvm.Cond.code yJ1_canEncode_9a6ad prog_20_method_4_code 1 (some .boolean) :: zg_tb) qR105 qC105 := zk_met (ws' := zg_tb) (P := qP105) (AT := zg_AT) zpn_J1 rfl rfl rfl qk105 (fun s hK => zg_wd hK) (fun p e s m args below meth c s₁ Q B hml hK => qo105 B hml hK) (fun p e s m args below meth c s₁ v G0 H0 B hml hK ha hp hF q hq => absurd hq List.not_mem_nil)
set_option maxRecDepth 100000 in
def qR106 : Room := { frames := 1, cells := 0, slots := 0, locals := 20 }
set_option maxHeartbeats 4000000 in
set_option maxRecDepth 100000 in
theorem qo106 {p : Program} {l : Launch} {e : Env} {s : State} {m : MethodId} {args : Array Value} {below : List Frame} {meth : Method} {c : Code} {s₁ : State} {Q : State → Prop} {D : zk_D} {base : Nat} {Hb : Heap} (B : BodyLoose p l yJ9_max_7cf53 (headSpec (Jvm.Cond.code yJ9_max_7cf53 prog_18_method_65_code 2 (some .int) :: zg_tb) qR106) prog_18_method_65_code 2 (some .int) e s m args below meth c s₁) (hml : c.maxLocals = 2) (hK : zg_K D base Hb s) : zk_ok p l e (headSpec (Jvm.Cond.code yJ9_max_7cf53 prog_18_method_65_code 2 (some .int) :: zg_tb) qR106).room s m args below meth c Q qK D base Hb 2 prog_18_method_65_code qP106 qC106.2.2.2.2 := by
  have S : CallFix p m c prog_18_method_65_code 2 s args (Jvm.Cond.code yJ9_max_7cf53 prog_18_method_65_code 2 (some .int) :: zg_tb) RJ9 := ⟨B.exec, B.bytes, hml, findClass_of_methodNamed B.named, atoms_spec (ws := (Jvm.Cond.code yJ9_max_7cf53 prog_18_method_65_code 2 (some .int) :: zg_tb)) B.pre⟩
  exact ⟨fun _ h => absurd h List.not_mem_nil,
    fun _ h => absurd h List.not_mem_nil,
    fun _ h => absurd h List.not_mem_nil,
    fun _ h => absurd h List.not_mem_nil,
    fun h => absurd rfl h,
    fun _ h => absurd h List.not_mem_nil,
    fun _ h => absurd h List.not_mem_nil⟩
set_option maxRecDepth 100000 in
theorem qm106 {l : Launch} {D : zk_D} {base : Nat} {Hb : Heap} : zk_Met l qK D base Hb (zg_K D base Hb) yJ9_max_7cf53 (Jvm.Cond.code yJ9_max_7cf53 prog_18_method_65_code 2 (some .int) :: zg_tb) qR106 qC106 := zk_metF (ws' := zg_tb) (P := qP106) (AT := zg_AT) zpf_yJ9_max_7cf53 rfl rfl rfl qk106 (fun s hK => zg_wd hK) (fun p e s m args below meth c s₁ Q B hml hK => qo106 B hml hK) (fun p e s m args below meth c s₁ v G0 H0 B hml hK ha hp hF q hq => absurd hq List.not_mem_nil)
set_option maxRecDepth 100000 in
def qR107 : Room := { frames := 1, cells := 0, slots := 0, locals := 20 }
set_option maxHeartbeats 4000000 in
set_option maxRecDepth 100000 in
theorem qo107 {p : Program} {l : Launch} {e : Env} {s : State} {m : MethodId} {args : Array Value} {below : List Frame} {meth : Method} {c : Code} {s₁ : State} {Q : State → Prop} {D : zk_D} {base : Nat} {Hb : Heap} (B : BodyLoose p l yJ9_min_7cf53 (headSpec (Jvm.Cond.code yJ9_min_7cf53 prog_18_method_69_code 2 (some .int) :: zg_tb) qR107) prog_18_method_69_code 2 (some .int) e s m args below meth c s₁) (hml : c.maxLocals = 2) (hK : zg_K D base Hb s) : zk_ok p l e (headSpec (Jvm.Cond.code yJ9_min_7cf53 prog_18_method_69_code 2 (some .int) :: zg_tb) qR107).room s m args below meth c Q qK D base Hb 2 prog_18_method_69_code qP107 qC107.2.2.2.2 := by
  have S : CallFix p m c prog_18_method_69_code 2 s args (Jvm.Cond.code yJ9_min_7cf53 prog_18_method_69_code 2 (some .int) :: zg_tb) RJ9 := ⟨B.exec, B.bytes, hml, findClass_of_methodNamed B.named, atoms_spec (ws := (Jvm.Cond.code yJ9_min_7cf53 prog_18_method_69_code 2 (some .int) :: zg_tb)) B.pre⟩
  exact ⟨fun _ h => absurd h List.not_mem_nil,
    fun _ h => absurd h List.not_mem_nil,
    fun _ h => absurd h List.not_mem_nil,
    fun _ h => absurd h List.not_mem_nil,
    fun h => absurd rfl h,
    fun _ h => absurd h List.not_mem_nil,
    fun _ h => absurd h List.not_mem_nil⟩
set_option maxRecDepth 100000 in
theorem qm107 {l : Launch} {D : zk_D} {base : Nat} {Hb : Heap} : zk_Met l qK D base Hb (zg_K D base Hb) yJ9_min_7cf53 (Jvm.Cond.code yJ9_min_7cf53 prog_18_method_69_code 2 (some .int) :: zg_tb) qR107 qC107 := zk_metF (ws' := zg_tb) (P := qP107) (AT := zg_AT) zpf_yJ9_min_7cf53 rfl rfl rfl qk107 (fun s hK => zg_wd hK) (fun p e s m args below meth c s₁ Q B hml hK => qo107 B hml hK) (fun p e s m args below meth c s₁ v G0 H0 B hml hK ha hp hF q hq => absurd hq List.not_mem_nil)
set_option maxRecDepth 100000 in
def qR108 : Room := { frames := 1, cells := 0, slots := 0, locals := 20 }
set_option maxHeartbeats 4000000 in
set_option maxRecDepth 100000 in
theorem qo108 {p : Program} {l : Launch} {e : Env} {s : State} {m : MethodId} {args : Array Value} {below : List Frame} {meth : Method} {c : Code} {s₁ : State} {Q : State → Prop} {D : zk_D} {base : Nat} {Hb : Heap} (B : BodyLoose p l yJ1_indexOfChar_4cfef (headSpec (Jvm.Cond.code yJ1_indexOfChar_4cfef prog_20_method_23_code 6 (some .int) :: zg_tb) qR108) prog_20_method_23_code 6 (some .int) e s m args below meth c s₁) (hml : c.maxLocals = 6) (hK : zg_K D base Hb s) : zk_ok p l e (headSpec (Jvm.Cond.code yJ1_indexOfChar_4cfef prog_20_method_23_code 6 (some .int) :: zg_tb) qR108).room s m args below meth c Q qK D base Hb 6 prog_20_method_23_code qP108 qC108.2.2.2.2 := by
  have S : CallFix p m c prog_20_method_23_code 6 s args (Jvm.Cond.code yJ1_indexOfChar_4cfef prog_20_method_23_code 6 (some .int) :: zg_tb) RJ1 := ⟨B.exec, B.bytes, hml, findClass_of_methodNamed B.named, atoms_spec (ws := (Jvm.Cond.code yJ1_indexOfChar_4cfef prog_20_method_23_code 6 (some .int) :: zg_tb)) B.pre⟩
  exact ⟨fun _ h => absurd h List.not_mem_nil,
    fun _ h => absurd h List.not_mem_nil,
    fun _ h => absurd h List.not_mem_nil,
    fun _ h => absurd h List.not_mem_nil,
    fun h => absurd rfl h,
    fun _ h => absurd h List.not_mem_nil,
    fun _ h => absurd h List.not_mem_nil⟩
set_option maxRecDepth 100000 in
theorem qm108 {l : Launch} {D : zk_D} {base : Nat} {Hb : Heap} : zk_Met l qK D base Hb (zg_K D base Hb) yJ1_indexOfChar_4cfef (Jvm.Cond.code yJ1_indexOfChar_4cfef prog_20_method_23_code 6 (some .int) :: zg_tb) qR108 qC108 := zk_met (ws' := zg_tb) (P := qP108) (AT := zg_AT) zpn_J1 rfl rfl rfl qk108 (fun s hK => zg_wd hK) (fun p e s m args below meth c s₁ Q B hml hK => qo108 B hml hK) (fun p e s m args below meth c s₁ v G0 H0 B hml hK ha hp hF q hq => absurd hq List.not_mem_nil)
set_option maxRecDepth 100000 in
def qR109 : Room := { frames := 2, cells := 0, slots := 0, locals := 45 }
set_option maxHeartbeats 4000000 in
set_option maxRecDepth 100000 in
theorem qo109 {p : Program} {l : Launch} {e : Env} {s : State} {m : MethodId} {args : Array Value} {below : List Frame} {meth : Method} {c : Code} {s₁ : State} {Q : State → Prop} {D : zk_D} {base : Nat} {Hb : Heap} (B : BodyLoose p l yJ1_indexOf_4cfef (headSpec (Jvm.Cond.code yJ1_indexOf_4cfef prog_20_method_22_code 4 (some .int) :: zg_tb) qR109) prog_20_method_22_code 4 (some .int) e s m args below meth c s₁) (hml : c.maxLocals = 4) (hK : zg_K D base Hb s) : zk_ok p l e (headSpec (Jvm.Cond.code yJ1_indexOf_4cfef prog_20_method_22_code 4 (some .int) :: zg_tb) qR109).room s m args below meth c Q qK D base Hb 4 prog_20_method_22_code qP109 qC109.2.2.2.2 := by
  have S : CallFix p m c prog_20_method_22_code 4 s args (Jvm.Cond.code yJ1_indexOf_4cfef prog_20_method_22_code 4 (some .int) :: zg_tb) RJ1 := ⟨B.exec, B.bytes, hml, findClass_of_methodNamed B.named, atoms_spec (ws := (Jvm.Cond.code yJ1_indexOf_4cfef prog_20_method_22_code 4 (some .int) :: zg_tb)) B.pre⟩
  exact ⟨fun _ h => absurd h List.not_mem_nil,
    fun _ h => absurd h List.not_mem_nil,
    fun _ h => absurd h List.not_mem_nil,
    fun _ h => absurd h List.not_mem_nil,
    fun h => absurd rfl h,
    fun _ h => absurd h List.not_mem_nil,
    List.forall_mem_cons.mpr ⟨zg_callS (fun w h => List.mem_cons_of_mem _ h) zg_tb_all S hK zg_Km qm105 zw2_204 zy_yJ1_canEncode_9a6ad_S (by decide +kernel) ⟨rfl, rfl⟩ (zk_dg_ok qdo_20_22 (by decide +kernel)), List.forall_mem_cons.mpr ⟨zg_callS (fun w h => List.mem_cons_of_mem _ h) zg_tb_all S hK zg_Km qm106 zw2_207 zy_yJ9_max_7cf53_S (by decide +kernel) ⟨rfl, rfl⟩ (zk_dg_ok qdo_20_22 (by decide +kernel)), List.forall_mem_cons.mpr ⟨zg_callS (fun w h => List.mem_cons_of_mem _ h) zg_tb_all S hK zg_Km qm107 zw2_210 zy_yJ9_min_7cf53_S (by decide +kernel) ⟨rfl, rfl⟩ (zk_dg_ok qdo_20_22 (by decide +kernel)), List.forall_mem_cons.mpr ⟨zg_callS (fun w h => List.mem_cons_of_mem _ h) zg_tb_all S hK zg_Km qm108 zw2_213 zy_yJ1_indexOfChar_4cfef_S (by decide +kernel) ⟨rfl, rfl⟩ (zk_dg_ok qdo_20_22 (by decide +kernel)), fun _ h => absurd h List.not_mem_nil⟩⟩⟩⟩⟩
set_option maxRecDepth 100000 in
theorem qm109 {l : Launch} {D : zk_D} {base : Nat} {Hb : Heap} : zk_Met l qK D base Hb (zg_K D base Hb) yJ1_indexOf_4cfef (Jvm.Cond.code yJ1_indexOf_4cfef prog_20_method_22_code 4 (some .int) :: zg_tb) qR109 qC109 := zk_met (ws' := zg_tb) (P := qP109) (AT := zg_AT) zpn_J1 rfl rfl rfl qk109 (fun s hK => zg_wd hK) (fun p e s m args below meth c s₁ Q B hml hK => qo109 B hml hK) (fun p e s m args below meth c s₁ v G0 H0 B hml hK ha hp hF q hq => absurd hq List.not_mem_nil)
set_option maxRecDepth 100000 in
def qR110 : Room := { frames := 3, cells := 0, slots := 0, locals := 68 }
set_option maxHeartbeats 4000000 in
set_option maxRecDepth 100000 in
theorem qo110 {p : Program} {l : Launch} {e : Env} {s : State} {m : MethodId} {args : Array Value} {below : List Frame} {meth : Method} {c : Code} {s₁ : State} {Q : State → Prop} {D : zk_D} {base : Nat} {Hb : Heap} (B : BodyLoose p l yJ0_indexOf_7cf53 (headSpec (Jvm.Cond.code yJ0_indexOf_7cf53 prog_19_method_80_code 3 (some .int) :: zg_tb) qR110) prog_19_method_80_code 3 (some .int) e s m args below meth c s₁) (hml : c.maxLocals = 3) (hK : zg_K D base Hb s) : zk_ok p l e (headSpec (Jvm.Cond.code yJ0_indexOf_7cf53 prog_19_method_80_code 3 (some .int) :: zg_tb) qR110).room s m args below meth c Q qK D base Hb 3 prog_19_method_80_code qP110 qC110.2.2.2.2 := by
  have S : CallFix p m c prog_19_method_80_code 3 s args (Jvm.Cond.code yJ0_indexOf_7cf53 prog_19_method_80_code 3 (some .int) :: zg_tb) RJ0 := ⟨B.exec, B.bytes, hml, findClass_of_methodNamed B.named, atoms_spec (ws := (Jvm.Cond.code yJ0_indexOf_7cf53 prog_19_method_80_code 3 (some .int) :: zg_tb)) B.pre⟩
  exact ⟨List.forall_mem_cons.mpr ⟨⟨zg_gokS S (hK.2.2.2.2.2.2.2.2.1 _ (List.mem_of_getElem? (i := 0) rfl)) (List.mem_cons_of_mem _ zw8_57), zg_pok4⟩, fun _ h => absurd h List.not_mem_nil⟩,
    fun _ h => absurd h List.not_mem_nil,
    fun _ h => absurd h List.not_mem_nil,
    fun _ h => absurd h List.not_mem_nil,
    fun h => absurd rfl h,
    fun _ h => absurd h List.not_mem_nil,
    List.forall_mem_cons.mpr ⟨zg_callV (fun w h => List.mem_cons_of_mem _ h) zg_tb_all S hK zg_Km qm102 zw2_196 zy_yJ0_isLatin1_aae02_V (ci := 13) (by decide +kernel) hK.2.2.2.2.2.2.2.1 ⟨rfl, rfl⟩ (zk_dg_ok qdo_19_80 (by decide +kernel)), List.forall_mem_cons.mpr ⟨zg_callV (fun w h => List.mem_cons_of_mem _ h) zg_tb_all S hK zg_Km qm104 zw2_200 zy_yJ0_length_8abf5_V (ci := 13) (by decide +kernel) hK.2.2.2.2.2.2.2.1 ⟨rfl, rfl⟩ (zk_dg_ok qdo_19_80 (by decide +kernel)), List.forall_mem_cons.mpr ⟨zg_callS (fun w h => List.mem_cons_of_mem _ h) zg_tb_all S hK zg_Km qm109 zw2_201 zy_yJ1_indexOf_4cfef_S (by decide +kernel) ⟨rfl, rfl⟩ (zk_dg_ok qdo_19_80 (by decide +kernel)), fun _ h => absurd h List.not_mem_nil⟩⟩⟩⟩
set_option maxRecDepth 100000 in
theorem qm110 {l : Launch} {D : zk_D} {base : Nat} {Hb : Heap} : zk_Met l qK D base Hb (zg_K D base Hb) yJ0_indexOf_7cf53 (Jvm.Cond.code yJ0_indexOf_7cf53 prog_19_method_80_code 3 (some .int) :: zg_tb) qR110 qC110 := zk_met (ws' := zg_tb) (P := qP110) (AT := zg_AT) zpn_J0 rfl rfl rfl qk110 (fun s hK => zg_wd hK) (fun p e s m args below meth c s₁ Q B hml hK => qo110 B hml hK) (fun p e s m args below meth c s₁ v G0 H0 B hml hK ha hp hF q hq => absurd hq List.not_mem_nil)
set_option maxRecDepth 100000 in
def qR111 : Room := { frames := 4, cells := 0, slots := 0, locals := 90 }
set_option maxHeartbeats 4000000 in
set_option maxRecDepth 100000 in
theorem qo111 {p : Program} {l : Launch} {e : Env} {s : State} {m : MethodId} {args : Array Value} {below : List Frame} {meth : Method} {c : Code} {s₁ : State} {Q : State → Prop} {D : zk_D} {base : Nat} {Hb : Heap} (B : BodyLoose p l yJ0_indexOf_0f7a4 (headSpec (Jvm.Cond.code yJ0_indexOf_0f7a4 prog_19_method_79_code 2 (some .int) :: zg_tb) qR111) prog_19_method_79_code 2 (some .int) e s m args below meth c s₁) (hml : c.maxLocals = 2) (hK : zg_K D base Hb s) : zk_ok p l e (headSpec (Jvm.Cond.code yJ0_indexOf_0f7a4 prog_19_method_79_code 2 (some .int) :: zg_tb) qR111).room s m args below meth c Q qK D base Hb 2 prog_19_method_79_code qP111 qC111.2.2.2.2 := by
  have S : CallFix p m c prog_19_method_79_code 2 s args (Jvm.Cond.code yJ0_indexOf_0f7a4 prog_19_method_79_code 2 (some .int) :: zg_tb) RJ0 := ⟨B.exec, B.bytes, hml, findClass_of_methodNamed B.named, atoms_spec (ws := (Jvm.Cond.code yJ0_indexOf_0f7a4 prog_19_method_79_code 2 (some .int) :: zg_tb)) B.pre⟩
  exact ⟨fun _ h => absurd h List.not_mem_nil,
    fun _ h => absurd h List.not_mem_nil,
    fun _ h => absurd h List.not_mem_nil,
    fun _ h => absurd h List.not_mem_nil,
    fun h => absurd rfl h,
    fun _ h => absurd h List.not_mem_nil,
    List.forall_mem_cons.mpr ⟨zg_callV (fun w h => List.mem_cons_of_mem _ h) zg_tb_all S hK zg_Km qm110 zw2_192 zy_yJ0_indexOf_7cf53_V (ci := 13) (by decide +kernel) hK.2.2.2.2.2.2.2.1 ⟨rfl, rfl⟩ (zk_dg_ok qdo_19_79 (by decide +kernel)), fun _ h => absurd h List.not_mem_nil⟩⟩
set_option maxRecDepth 100000 in
theorem qm111 {l : Launch} {D : zk_D} {base : Nat} {Hb : Heap} : zk_Met l qK D base Hb (zg_K D base Hb) yJ0_indexOf_0f7a4 (Jvm.Cond.code yJ0_indexOf_0f7a4 prog_19_method_79_code 2 (some .int) :: zg_tb) qR111 qC111 := zk_met (ws' := zg_tb) (P := qP111) (AT := zg_AT) zpn_J0 rfl rfl rfl qk111 (fun s hK => zg_wd hK) (fun p e s m args below meth c s₁ Q B hml hK => qo111 B hml hK) (fun p e s m args below meth c s₁ v G0 H0 B hml hK ha hp hF q hq => absurd hq List.not_mem_nil)
set_option maxRecDepth 100000 in
def qR112 : Room := { frames := 17, cells := 0, slots := 0, locals := 387 }
set_option maxHeartbeats 4000000 in
set_option maxRecDepth 100000 in
theorem qo112 {p : Program} {l : Launch} {e : Env} {s : State} {m : MethodId} {args : Array Value} {below : List Frame} {meth : Method} {c : Code} {s₁ : State} {Q : State → Prop} {D : zk_D} {base : Nat} {Hb : Heap} (B : BodyLoose p l yX6_readAtom (headSpec (Jvm.Cond.code yX6_readAtom prog_8_method_14_code 4 (some .boolean) :: zg_tb) qR112) prog_8_method_14_code 4 (some .boolean) e s m args below meth c s₁) (hml : c.maxLocals = 4) (hK : zg_K D base Hb s) : zk_ok p l e (headSpec (Jvm.Cond.code yX6_readAtom prog_8_method_14_code 4 (some .boolean) :: zg_tb) qR112).room s m args below meth c Q qK D base Hb 4 prog_8_method_14_code qP112 qC112.2.2.2.2 := by
  have S : CallFix p m c prog_8_method_14_code 4 s args (Jvm.Cond.code yX6_readAtom prog_8_method_14_code 4 (some .boolean) :: zg_tb) RX6 := ⟨B.exec, B.bytes, hml, findClass_of_methodNamed B.named, atoms_spec (ws := (Jvm.Cond.code yX6_readAtom prog_8_method_14_code 4 (some .boolean) :: zg_tb)) B.pre⟩
  exact ⟨List.forall_mem_cons.mpr ⟨zg_gp S (hK.2.1 6 _ rfl) (fun w h => (List.mem_cons_of_mem _ (zc6 w h))) rfl zt6_3 (List.mem_cons_of_mem _ zw1_119) rfl, fun _ h => absurd h List.not_mem_nil⟩,
    fun _ h => absurd h List.not_mem_nil,
    fun _ h => absurd h List.not_mem_nil,
    fun _ h => absurd h List.not_mem_nil,
    fun h => absurd rfl h,
    List.forall_mem_cons.mpr ⟨zg_kokS (k := 24) (tx := "wlsknauhrmyo") S (zg_sR2 hK) (by decide +kernel) (by decide) (zk_dg_ok qdo_8_14 (by decide +kernel)), fun _ h => absurd h List.not_mem_nil⟩,
    List.forall_mem_cons.mpr ⟨zg_callV (fun w h => List.mem_cons_of_mem _ h) zg_tb_all S hK zg_Km qm36 zw2_183 zy_yX6_ahead_V (ci := 6) (by decide +kernel) (hK.2.1 6 _ rfl).2.1 ⟨rfl, rfl⟩ (zk_dg_ok qdo_8_14 (by decide +kernel)), List.forall_mem_cons.mpr ⟨zg_callV (fun w h => List.mem_cons_of_mem _ h) zg_tb_all S hK zg_Km qm49 zw3_45 zy_yX6_readNumber_V (ci := 6) (by decide +kernel) (hK.2.1 6 _ rfl).2.1 ⟨rfl, rfl⟩ (zk_dg_ok qdo_8_14 (by decide +kernel)), List.forall_mem_cons.mpr ⟨zg_callV (fun w h => List.mem_cons_of_mem _ h) zg_tb_all S hK zg_Km qm101 zw3_33 zy_yX6_readSum_V (ci := 6) (by decide +kernel) (hK.2.1 6 _ rfl).2.1 ⟨rfl, rfl⟩ (zk_dg_ok qdo_8_14 (by decide +kernel)), List.forall_mem_cons.mpr ⟨zg_callV (fun w h => List.mem_cons_of_mem _ h) zg_tb_all S hK zg_Km qm48 zw3_29 zy_yX6_pass_V (ci := 6) (by decide +kernel) (hK.2.1 6 _ rfl).2.1 ⟨rfl, rfl⟩ (zk_dg_ok qdo_8_14 (by decide +kernel)), List.forall_mem_cons.mpr ⟨zg_callV (fun w h => List.mem_cons_of_mem _ h) zg_tb_all S hK zg_Km qm111 zw2_188 zy_yJ0_indexOf_0f7a4_V (ci := 13) (by decide +kernel) hK.2.2.2.2.2.2.2.1 ⟨rfl, rfl⟩ (zk_dg_ok qdo_8_14 (by decide +kernel)), List.forall_mem_cons.mpr ⟨zg_callV (fun w h => List.mem_cons_of_mem _ h) zg_tb_all S hK zg_Km qm47 zw3_25 zy_yX6_add_V (ci := 6) (by decide +kernel) (hK.2.1 6 _ rfl).2.1 ⟨rfl, rfl⟩ (zk_dg_ok qdo_8_14 (by decide +kernel)), fun _ h => absurd h List.not_mem_nil⟩⟩⟩⟩⟩⟩⟩
set_option maxRecDepth 100000 in
theorem qm112 {l : Launch} {D : zk_D} {base : Nat} {Hb : Heap} : zk_Met l qK D base Hb (zg_K D base Hb) yX6_readAtom (Jvm.Cond.code yX6_readAtom prog_8_method_14_code 4 (some .boolean) :: zg_tb) qR112 qC112 := zk_met (ws' := zg_tb) (P := qP112) (AT := zg_AT) zpn_X6 rfl rfl rfl qk112 (fun s hK => zg_wd hK) (fun p e s m args below meth c s₁ Q B hml hK => qo112 B hml hK) (fun p e s m args below meth c s₁ v G0 H0 B hml hK ha hp hF q hq => absurd hq List.not_mem_nil)
set_option maxRecDepth 100000 in
def qR113 : Room := { frames := 18, cells := 0, slots := 0, locals := 410 }
set_option maxHeartbeats 4000000 in
set_option maxRecDepth 100000 in
theorem qo113 {p : Program} {l : Launch} {e : Env} {s : State} {m : MethodId} {args : Array Value} {below : List Frame} {meth : Method} {c : Code} {s₁ : State} {Q : State → Prop} {D : zk_D} {base : Nat} {Hb : Heap} (B : BodyLoose p l yX6_readTerm (headSpec (Jvm.Cond.code yX6_readTerm prog_8_method_13_code 4 (some .boolean) :: zg_tb) qR113) prog_8_method_13_code 4 (some .boolean) e s m args below meth c s₁) (hml : c.maxLocals = 4) (hK : zg_K D base Hb s) : zk_ok p l e (headSpec (Jvm.Cond.code yX6_readTerm prog_8_method_13_code 4 (some .boolean) :: zg_tb) qR113).room s m args below meth c Q qK D base Hb 4 prog_8_method_13_code qP113 qC113.2.2.2.2 := by
  have S : CallFix p m c prog_8_method_13_code 4 s args (Jvm.Cond.code yX6_readTerm prog_8_method_13_code 4 (some .boolean) :: zg_tb) RX6 := ⟨B.exec, B.bytes, hml, findClass_of_methodNamed B.named, atoms_spec (ws := (Jvm.Cond.code yX6_readTerm prog_8_method_13_code 4 (some .boolean) :: zg_tb)) B.pre⟩
  exact ⟨List.forall_mem_cons.mpr ⟨zg_gp S (hK.2.1 6 _ rfl) (fun w h => (List.mem_cons_of_mem _ (zc6 w h))) rfl zt6_3 (List.mem_cons_of_mem _ zw1_119) rfl, fun _ h => absurd h List.not_mem_nil⟩,
    fun _ h => absurd h List.not_mem_nil,
    fun _ h => absurd h List.not_mem_nil,
    fun _ h => absurd h List.not_mem_nil,
    fun h => absurd rfl h,
    fun _ h => absurd h List.not_mem_nil,
    List.forall_mem_cons.mpr ⟨zg_callV (fun w h => List.mem_cons_of_mem _ h) zg_tb_all S hK zg_Km qm112 zw3_41 zy_yX6_readAtom_V (ci := 6) (by decide +kernel) (hK.2.1 6 _ rfl).2.1 ⟨rfl, rfl⟩ (zk_dg_ok qdo_8_13 (by decide +kernel)), List.forall_mem_cons.mpr ⟨zg_callV (fun w h => List.mem_cons_of_mem _ h) zg_tb_all S hK zg_Km qm36 zw2_183 zy_yX6_ahead_V (ci := 6) (by decide +kernel) (hK.2.1 6 _ rfl).2.1 ⟨rfl, rfl⟩ (zk_dg_ok qdo_8_13 (by decide +kernel)), List.forall_mem_cons.mpr ⟨zg_callV (fun w h => List.mem_cons_of_mem _ h) zg_tb_all S hK zg_Km qm112 zw3_41 zy_yX6_readAtom_V (ci := 6) (by decide +kernel) (hK.2.1 6 _ rfl).2.1 ⟨rfl, rfl⟩ (zk_dg_ok qdo_8_13 (by decide +kernel)), List.forall_mem_cons.mpr ⟨zg_callV (fun w h => List.mem_cons_of_mem _ h) zg_tb_all S hK zg_Km qm47 zw3_25 zy_yX6_add_V (ci := 6) (by decide +kernel) (hK.2.1 6 _ rfl).2.1 ⟨rfl, rfl⟩ (zk_dg_ok qdo_8_13 (by decide +kernel)), fun _ h => absurd h List.not_mem_nil⟩⟩⟩⟩⟩
set_option maxRecDepth 100000 in
theorem qm113 {l : Launch} {D : zk_D} {base : Nat} {Hb : Heap} : zk_Met l qK D base Hb (zg_K D base Hb) yX6_readTerm (Jvm.Cond.code yX6_readTerm prog_8_method_13_code 4 (some .boolean) :: zg_tb) qR113 qC113 := zk_met (ws' := zg_tb) (P := qP113) (AT := zg_AT) zpn_X6 rfl rfl rfl qk113 (fun s hK => zg_wd hK) (fun p e s m args below meth c s₁ Q B hml hK => qo113 B hml hK) (fun p e s m args below meth c s₁ v G0 H0 B hml hK ha hp hF q hq => absurd hq List.not_mem_nil)
set_option maxRecDepth 100000 in
def qR114 : Room := { frames := 19, cells := 0, slots := 0, locals := 433 }
set_option maxHeartbeats 4000000 in
set_option maxRecDepth 100000 in
theorem qo114 {p : Program} {l : Launch} {e : Env} {s : State} {m : MethodId} {args : Array Value} {below : List Frame} {meth : Method} {c : Code} {s₁ : State} {Q : State → Prop} {D : zk_D} {base : Nat} {Hb : Heap} (B : BodyLoose p l yX6_readSum (headSpec (Jvm.Cond.code yX6_readSum prog_8_method_12_code 4 (some .boolean) :: zg_tb) qR114) prog_8_method_12_code 4 (some .boolean) e s m args below meth c s₁) (hml : c.maxLocals = 4) (hK : zg_K D base Hb s) : zk_ok p l e (headSpec (Jvm.Cond.code yX6_readSum prog_8_method_12_code 4 (some .boolean) :: zg_tb) qR114).room s m args below meth c Q qK D base Hb 4 prog_8_method_12_code qP114 qC114.2.2.2.2 := by
  have S : CallFix p m c prog_8_method_12_code 4 s args (Jvm.Cond.code yX6_readSum prog_8_method_12_code 4 (some .boolean) :: zg_tb) RX6 := ⟨B.exec, B.bytes, hml, findClass_of_methodNamed B.named, atoms_spec (ws := (Jvm.Cond.code yX6_readSum prog_8_method_12_code 4 (some .boolean) :: zg_tb)) B.pre⟩
  exact ⟨List.forall_mem_cons.mpr ⟨zg_gp S (hK.2.1 6 _ rfl) (fun w h => (List.mem_cons_of_mem _ (zc6 w h))) rfl zt6_3 (List.mem_cons_of_mem _ zw1_119) rfl, fun _ h => absurd h List.not_mem_nil⟩,
    fun _ h => absurd h List.not_mem_nil,
    fun _ h => absurd h List.not_mem_nil,
    fun _ h => absurd h List.not_mem_nil,
    fun h => absurd rfl h,
    fun _ h => absurd h List.not_mem_nil,
    List.forall_mem_cons.mpr ⟨zg_callV (fun w h => List.mem_cons_of_mem _ h) zg_tb_all S hK zg_Km qm113 zw3_37 zy_yX6_readTerm_V (ci := 6) (by decide +kernel) (hK.2.1 6 _ rfl).2.1 ⟨rfl, rfl⟩ (zk_dg_ok qdo_8_12 (by decide +kernel)), List.forall_mem_cons.mpr ⟨zg_callV (fun w h => List.mem_cons_of_mem _ h) zg_tb_all S hK zg_Km qm36 zw2_183 zy_yX6_ahead_V (ci := 6) (by decide +kernel) (hK.2.1 6 _ rfl).2.1 ⟨rfl, rfl⟩ (zk_dg_ok qdo_8_12 (by decide +kernel)), List.forall_mem_cons.mpr ⟨zg_callV (fun w h => List.mem_cons_of_mem _ h) zg_tb_all S hK zg_Km qm113 zw3_37 zy_yX6_readTerm_V (ci := 6) (by decide +kernel) (hK.2.1 6 _ rfl).2.1 ⟨rfl, rfl⟩ (zk_dg_ok qdo_8_12 (by decide +kernel)), List.forall_mem_cons.mpr ⟨zg_callV (fun w h => List.mem_cons_of_mem _ h) zg_tb_all S hK zg_Km qm47 zw3_25 zy_yX6_add_V (ci := 6) (by decide +kernel) (hK.2.1 6 _ rfl).2.1 ⟨rfl, rfl⟩ (zk_dg_ok qdo_8_12 (by decide +kernel)), fun _ h => absurd h List.not_mem_nil⟩⟩⟩⟩⟩
set_option maxRecDepth 100000 in
theorem qm114 {l : Launch} {D : zk_D} {base : Nat} {Hb : Heap} : zk_Met l qK D base Hb (zg_K D base Hb) yX6_readSum (Jvm.Cond.code yX6_readSum prog_8_method_12_code 4 (some .boolean) :: zg_tb) qR114 qC114 := zk_met (ws' := zg_tb) (P := qP114) (AT := zg_AT) zpn_X6 rfl rfl rfl qk114 (fun s hK => zg_wd hK) (fun p e s m args below meth c s₁ Q B hml hK => qo114 B hml hK) (fun p e s m args below meth c s₁ v G0 H0 B hml hK ha hp hF q hq => absurd hq List.not_mem_nil)
set_option maxRecDepth 100000 in
def qR115 : Room := { frames := 1, cells := 0, slots := 0, locals := 20 }
set_option maxHeartbeats 4000000 in
set_option maxRecDepth 100000 in
theorem qo115 {p : Program} {l : Launch} {e : Env} {s : State} {m : MethodId} {args : Array Value} {below : List Frame} {meth : Method} {c : Code} {s₁ : State} {Q : State → Prop} {D : zk_D} {base : Nat} {Hb : Heap} (B : BodyLoose p l yJ0_isLatin1_aae02 (headSpec (Jvm.Cond.code yJ0_isLatin1_aae02 prog_19_method_154_code 1 (some .boolean) :: zg_tb) qR115) prog_19_method_154_code 1 (some .boolean) e s m args below meth c s₁) (hml : c.maxLocals = 1) (hK : zg_K D base Hb s) : zk_ok p l e (headSpec (Jvm.Cond.code yJ0_isLatin1_aae02 prog_19_method_154_code 1 (some .boolean) :: zg_tb) qR115).room s m args below meth c Q qK D base Hb 1 prog_19_method_154_code qP115 qC115.2.2.2.2 := by
  have S : CallFix p m c prog_19_method_154_code 1 s args (Jvm.Cond.code yJ0_isLatin1_aae02 prog_19_method_154_code 1 (some .boolean) :: zg_tb) RJ0 := ⟨B.exec, B.bytes, hml, findClass_of_methodNamed B.named, atoms_spec (ws := (Jvm.Cond.code yJ0_isLatin1_aae02 prog_19_method_154_code 1 (some .boolean) :: zg_tb)) B.pre⟩
  exact ⟨List.forall_mem_cons.mpr ⟨⟨zg_gokS S (hK.2.2.2.2.2.2.2.2.1 _ (List.mem_of_getElem? (i := 1) rfl)) (List.mem_cons_of_mem _ zw8_58), zg_pok4⟩, fun _ h => absurd h List.not_mem_nil⟩,
    fun _ h => absurd h List.not_mem_nil,
    fun _ h => absurd h List.not_mem_nil,
    fun _ h => absurd h List.not_mem_nil,
    fun h => absurd rfl h,
    List.forall_mem_cons.mpr ⟨zg_kokG S (hK.2.2.2.2.2.2.2.2.2.2.1 _ (List.mem_of_getElem? (i := 0) rfl)) (List.mem_cons_of_mem _ zw1_144) (by decide +kernel) (zk_dg_ok qdo_19_154 (by decide +kernel)), fun _ h => absurd h List.not_mem_nil⟩,
    fun _ h => absurd h List.not_mem_nil⟩
set_option maxRecDepth 100000 in
theorem qm115 {l : Launch} {D : zk_D} {base : Nat} {Hb : Heap} : zk_Met l qK D base Hb (zg_K D base Hb) yJ0_isLatin1_aae02 (Jvm.Cond.code yJ0_isLatin1_aae02 prog_19_method_154_code 1 (some .boolean) :: zg_tb) qR115 qC115 := zk_met (ws' := zg_tb) (P := qP115) (AT := zg_AT) zpn_J0 rfl rfl rfl qk115 (fun s hK => zg_wd hK) (fun p e s m args below meth c s₁ Q B hml hK => qo115 B hml hK) (fun p e s m args below meth c s₁ v G0 H0 B hml hK ha hp hF q hq => absurd hq List.not_mem_nil)
set_option maxRecDepth 100000 in
def qR116 : Room := { frames := 1, cells := 0, slots := 0, locals := 20 }
set_option maxHeartbeats 4000000 in
set_option maxRecDepth 100000 in
theorem qo116 {p : Program} {l : Launch} {e : Env} {s : State} {m : MethodId} {args : Array Value} {below : List Frame} {meth : Method} {c : Code} {s₁ : State} {Q : State → Prop} {D : zk_D} {base : Nat} {Hb : Heap} (B : BodyLoose p l yJ0_coder_7d493 (headSpec (Jvm.Cond.code yJ0_coder_7d493 prog_19_method_152_code 1 (some .byte) :: zg_tb) qR116) prog_19_method_152_code 1 (some .byte) e s m args below meth c s₁) (hml : c.maxLocals = 1) (hK : zg_K D base Hb s) : zk_ok p l e (headSpec (Jvm.Cond.code yJ0_coder_7d493 prog_19_method_152_code 1 (some .byte) :: zg_tb) qR116).room s m args below meth c Q qK D base Hb 1 prog_19_method_152_code qP116 qC116.2.2.2.2 := by
  have S : CallFix p m c prog_19_method_152_code 1 s args (Jvm.Cond.code yJ0_coder_7d493 prog_19_method_152_code 1 (some .byte) :: zg_tb) RJ0 := ⟨B.exec, B.bytes, hml, findClass_of_methodNamed B.named, atoms_spec (ws := (Jvm.Cond.code yJ0_coder_7d493 prog_19_method_152_code 1 (some .byte) :: zg_tb)) B.pre⟩
  exact ⟨List.forall_mem_cons.mpr ⟨⟨zg_gokS S (hK.2.2.2.2.2.2.2.2.1 _ (List.mem_of_getElem? (i := 1) rfl)) (List.mem_cons_of_mem _ zw8_58), zg_pok4⟩, fun _ h => absurd h List.not_mem_nil⟩,
    fun _ h => absurd h List.not_mem_nil,
    fun _ h => absurd h List.not_mem_nil,
    fun _ h => absurd h List.not_mem_nil,
    fun h => absurd rfl h,
    List.forall_mem_cons.mpr ⟨zg_kokG S (hK.2.2.2.2.2.2.2.2.2.2.1 _ (List.mem_of_getElem? (i := 0) rfl)) (List.mem_cons_of_mem _ zw1_144) (by decide +kernel) (zk_dg_ok qdo_19_152 (by decide +kernel)), fun _ h => absurd h List.not_mem_nil⟩,
    fun _ h => absurd h List.not_mem_nil⟩
set_option maxRecDepth 100000 in
theorem qm116 {l : Launch} {D : zk_D} {base : Nat} {Hb : Heap} : zk_Met l qK D base Hb (zg_K D base Hb) yJ0_coder_7d493 (Jvm.Cond.code yJ0_coder_7d493 prog_19_method_152_code 1 (some .byte) :: zg_tb) qR116 qC116 := zk_met (ws' := zg_tb) (P := qP116) (AT := zg_AT) zpn_J0 rfl rfl rfl qk116 (fun s hK => zg_wd hK) (fun p e s m args below meth c s₁ Q B hml hK => qo116 B hml hK) (fun p e s m args below meth c s₁ v G0 H0 B hml hK ha hp hF q hq => absurd hq List.not_mem_nil)
set_option maxRecDepth 100000 in
def qR117 : Room := { frames := 2, cells := 0, slots := 0, locals := 40 }
set_option maxHeartbeats 4000000 in
set_option maxRecDepth 100000 in
theorem qo117 {p : Program} {l : Launch} {e : Env} {s : State} {m : MethodId} {args : Array Value} {below : List Frame} {meth : Method} {c : Code} {s₁ : State} {Q : State → Prop} {D : zk_D} {base : Nat} {Hb : Heap} (B : BodyLoose p l yJ0_length_8abf5 (headSpec (Jvm.Cond.code yJ0_length_8abf5 prog_19_method_54_code 1 (some .int) :: zg_tb) qR117) prog_19_method_54_code 1 (some .int) e s m args below meth c s₁) (hml : c.maxLocals = 1) (hK : zg_K D base Hb s) : zk_ok p l e (headSpec (Jvm.Cond.code yJ0_length_8abf5 prog_19_method_54_code 1 (some .int) :: zg_tb) qR117).room s m args below meth c Q qK D base Hb 1 prog_19_method_54_code qP117 qC117.2.2.2.2 := by
  have S : CallFix p m c prog_19_method_54_code 1 s args (Jvm.Cond.code yJ0_length_8abf5 prog_19_method_54_code 1 (some .int) :: zg_tb) RJ0 := ⟨B.exec, B.bytes, hml, findClass_of_methodNamed B.named, atoms_spec (ws := (Jvm.Cond.code yJ0_length_8abf5 prog_19_method_54_code 1 (some .int) :: zg_tb)) B.pre⟩
  exact ⟨List.forall_mem_cons.mpr ⟨⟨zg_gokS S (hK.2.2.2.2.2.2.2.2.1 _ (List.mem_of_getElem? (i := 0) rfl)) (List.mem_cons_of_mem _ zw8_57), zg_pok4⟩, fun _ h => absurd h List.not_mem_nil⟩,
    fun _ h => absurd h List.not_mem_nil,
    fun _ h => absurd h List.not_mem_nil,
    fun _ h => absurd h List.not_mem_nil,
    fun h => absurd rfl h,
    fun _ h => absurd h List.not_mem_nil,
    List.forall_mem_cons.mpr ⟨zg_callV (fun w h => List.mem_cons_of_mem _ h) zg_tb_all S hK zg_Km qm116 zw1_140 zy_yJ0_coder_7d493_V (ci := 13) (by decide +kernel) hK.2.2.2.2.2.2.2.1 ⟨rfl, rfl⟩ (zk_dg_ok qdo_19_54 (by decide +kernel)), fun _ h => absurd h List.not_mem_nil⟩⟩
set_option maxRecDepth 100000 in
theorem qm117 {l : Launch} {D : zk_D} {base : Nat} {Hb : Heap} : zk_Met l qK D base Hb (zg_K D base Hb) yJ0_length_8abf5 (Jvm.Cond.code yJ0_length_8abf5 prog_19_method_54_code 1 (some .int) :: zg_tb) qR117 qC117 := zk_met (ws' := zg_tb) (P := qP117) (AT := zg_AT) zpn_J0 rfl rfl rfl qk117 (fun s hK => zg_wd hK) (fun p e s m args below meth c s₁ Q B hml hK => qo117 B hml hK) (fun p e s m args below meth c s₁ v G0 H0 B hml hK ha hp hF q hq => absurd hq List.not_mem_nil)
set_option maxRecDepth 100000 in
def qR118 : Room := { frames := 1, cells := 0, slots := 0, locals := 20 }
set_option maxHeartbeats 4000000 in
set_option maxRecDepth 100000 in
theorem qo118 {p : Program} {l : Launch} {e : Env} {s : State} {m : MethodId} {args : Array Value} {below : List Frame} {meth : Method} {c : Code} {s₁ : State} {Q : State → Prop} {D : zk_D} {base : Nat} {Hb : Heap} (B : BodyLoose p l yJ1_canEncode_9a6ad (headSpec (Jvm.Cond.code yJ1_canEncode_9a6ad prog_20_method_4_code 1 (some .boolean) :: zg_tb) qR118) prog_20_method_4_code 1 (some .boolean) e s m args below meth c s₁) (hml : c.maxLocals = 1) (hK : zg_K D base Hb s) : zk_ok p l e (headSpec (Jvm.Cond.code yJ1_canEncode_9a6ad prog_20_method_4_code 1 (some .boolean) :: zg_tb) qR118).room s m args below meth c Q qK D base Hb 1 prog_20_method_4_code qP118 qC118.2.2.2.2 := by
  have S : CallFix p m c prog_20_method_4_code 1 s args (Jvm.Cond.code yJ1_canEncode_9a6ad prog_20_method_4_code 1 (some .boolean) :: zg_tb) RJ1 := ⟨B.exec, B.bytes, hml, findClass_of_methodNamed B.named, atoms_spec (ws := (Jvm.Cond.code yJ1_canEncode_9a6ad prog_20_method_4_code 1 (some .boolean) :: zg_tb)) B.pre⟩
  exact ⟨fun _ h => absurd h List.not_mem_nil,
    fun _ h => absurd h List.not_mem_nil,
    fun _ h => absurd h List.not_mem_nil,
    fun _ h => absurd h List.not_mem_nil,
    fun h => absurd rfl h,
    fun _ h => absurd h List.not_mem_nil,
    fun _ h => absurd h List.not_mem_nil⟩
set_option maxRecDepth 100000 in
theorem qm118 {l : Launch} {D : zk_D} {base : Nat} {Hb : Heap} : zk_Met l qK D base Hb (zg_K D base Hb) yJ1_canEncode_9a6ad (Jvm.Cond.code yJ1_canEncode_9a6ad prog_20_method_4_code 1 (some .boolean) :: zg_tb) qR118 qC118 := zk_met (ws' := zg_tb) (P := qP118) (AT := zg_AT) zpn_J1 rfl rfl rfl qk118 (fun s hK => zg_wd hK) (fun p e s m args below meth c s₁ Q B hml hK => qo118 B hml hK) (fun p e s m args below meth c s₁ v G0 H0 B hml hK ha hp hF q hq => absurd hq List.not_mem_nil)
set_option maxRecDepth 100000 in
def qR119 : Room := { frames := 1, cells := 0, slots := 0, locals := 20 }
set_option maxHeartbeats 4000000 in
set_option maxRecDepth 100000 in
theorem qo119 {p : Program} {l : Launch} {e : Env} {s : State} {m : MethodId} {args : Array Value} {below : List Frame} {meth : Method} {c : Code} {s₁ : State} {Q : State → Prop} {D : zk_D} {base : Nat} {Hb : Heap} (B : BodyLoose p l yJ9_max_7cf53 (headSpec (Jvm.Cond.code yJ9_max_7cf53 prog_18_method_65_code 2 (some .int) :: zg_tb) qR119) prog_18_method_65_code 2 (some .int) e s m args below meth c s₁) (hml : c.maxLocals = 2) (hK : zg_K D base Hb s) : zk_ok p l e (headSpec (Jvm.Cond.code yJ9_max_7cf53 prog_18_method_65_code 2 (some .int) :: zg_tb) qR119).room s m args below meth c Q qK D base Hb 2 prog_18_method_65_code qP119 qC119.2.2.2.2 := by
  have S : CallFix p m c prog_18_method_65_code 2 s args (Jvm.Cond.code yJ9_max_7cf53 prog_18_method_65_code 2 (some .int) :: zg_tb) RJ9 := ⟨B.exec, B.bytes, hml, findClass_of_methodNamed B.named, atoms_spec (ws := (Jvm.Cond.code yJ9_max_7cf53 prog_18_method_65_code 2 (some .int) :: zg_tb)) B.pre⟩
  exact ⟨fun _ h => absurd h List.not_mem_nil,
    fun _ h => absurd h List.not_mem_nil,
    fun _ h => absurd h List.not_mem_nil,
    fun _ h => absurd h List.not_mem_nil,
    fun h => absurd rfl h,
    fun _ h => absurd h List.not_mem_nil,
    fun _ h => absurd h List.not_mem_nil⟩
set_option maxRecDepth 100000 in
theorem qm119 {l : Launch} {D : zk_D} {base : Nat} {Hb : Heap} : zk_Met l qK D base Hb (zg_K D base Hb) yJ9_max_7cf53 (Jvm.Cond.code yJ9_max_7cf53 prog_18_method_65_code 2 (some .int) :: zg_tb) qR119 qC119 := zk_metF (ws' := zg_tb) (P := qP119) (AT := zg_AT) zpf_yJ9_max_7cf53 rfl rfl rfl qk119 (fun s hK => zg_wd hK) (fun p e s m args below meth c s₁ Q B hml hK => qo119 B hml hK) (fun p e s m args below meth c s₁ v G0 H0 B hml hK ha hp hF q hq => absurd hq List.not_mem_nil)
set_option maxRecDepth 100000 in
def qR120 : Room := { frames := 1, cells := 0, slots := 0, locals := 20 }
set_option maxHeartbeats 4000000 in
set_option maxRecDepth 100000 in
theorem qo120 {p : Program} {l : Launch} {e : Env} {s : State} {m : MethodId} {args : Array Value} {below : List Frame} {meth : Method} {c : Code} {s₁ : State} {Q : State → Prop} {D : zk_D} {base : Nat} {Hb : Heap} (B : BodyLoose p l yJ9_min_7cf53 (headSpec (Jvm.Cond.code yJ9_min_7cf53 prog_18_method_69_code 2 (some .int) :: zg_tb) qR120) prog_18_method_69_code 2 (some .int) e s m args below meth c s₁) (hml : c.maxLocals = 2) (hK : zg_K D base Hb s) : zk_ok p l e (headSpec (Jvm.Cond.code yJ9_min_7cf53 prog_18_method_69_code 2 (some .int) :: zg_tb) qR120).room s m args below meth c Q qK D base Hb 2 prog_18_method_69_code qP120 qC120.2.2.2.2 := by
  have S : CallFix p m c prog_18_method_69_code 2 s args (Jvm.Cond.code yJ9_min_7cf53 prog_18_method_69_code 2 (some .int) :: zg_tb) RJ9 := ⟨B.exec, B.bytes, hml, findClass_of_methodNamed B.named, atoms_spec (ws := (Jvm.Cond.code yJ9_min_7cf53 prog_18_method_69_code 2 (some .int) :: zg_tb)) B.pre⟩
  exact ⟨fun _ h => absurd h List.not_mem_nil,
    fun _ h => absurd h List.not_mem_nil,
    fun _ h => absurd h List.not_mem_nil,
    fun _ h => absurd h List.not_mem_nil,
    fun h => absurd rfl h,
    fun _ h => absurd h List.not_mem_nil,
    fun _ h => absurd h List.not_mem_nil⟩
set_option maxRecDepth 100000 in
theorem qm120 {l : Launch} {D : zk_D} {base : Nat} {Hb : Heap} : zk_Met l qK D base Hb (zg_K D base Hb) yJ9_min_7cf53 (Jvm.Cond.code yJ9_min_7cf53 prog_18_method_69_code 2 (some .int) :: zg_tb) qR120 qC120 := zk_metF (ws' := zg_tb) (P := qP120) (AT := zg_AT) zpf_yJ9_min_7cf53 rfl rfl rfl qk120 (fun s hK => zg_wd hK) (fun p e s m args below meth c s₁ Q B hml hK => qo120 B hml hK) (fun p e s m args below meth c s₁ v G0 H0 B hml hK ha hp hF q hq => absurd hq List.not_mem_nil)
end
