/-! CONTRACTS MET: found by wip/an (python). -/
noncomputable section
set_option maxRecDepth 100000 in
def qR121 : Room := { frames := 1, cells := 0, slots := 0, locals := 20 }
set_option maxHeartbeats 4000000 in
set_option maxRecDepth 100000 in
theorem qo121 {p : Program} {l : Launch} {e : Env} {s : State} {m : MethodId} {args : Array Value} {below : List Frame} {meth : Method} {c : Code} {s₁ : State} {Q : State → Prop} {D : zk_D} {base : Nat} {Hb : Heap} (B : BodyLoose p l yJ1_indexOfChar_4cfef (headSpec (Jvm.Cond.code yJ1_indexOfChar_4cfef prog_20_method_23_code 6 (some .int) :: zg_tb) qR121) prog_20_method_23_code 6 (some .int) e s m args below meth c s₁) (hml : c.maxLocals = 6) (hK : zg_K D base Hb s) : zk_ok p l e (headSpec (Jvm.Cond.code yJ1_indexOfChar_4cfef prog_20_method_23_code 6 (some .int) :: zg_tb) qR121).room s m args below meth c Q qK D base Hb 6 prog_20_method_23_code qP121 qC121.2.2.2.2 := by
  have S : CallFix p m c prog_20_method_23_code 6 s args (Jvm.Cond.code yJ1_indexOfChar_4cfef prog_20_method_23_code 6 (some .int) :: zg_tb) RJ1 := ⟨B.exec, B.bytes, hml, findClass_of_methodNamed B.named, atoms_spec (ws := (Jvm.Cond.code yJ1_indexOfChar_4cfef prog_20_method_23_code 6 (some .int) :: zg_tb)) B.pre⟩
  exact ⟨fun _ h => absurd h List.not_mem_nil,
    fun _ h => absurd h List.not_mem_nil,
    fun _ h => absurd h List.not_mem_nil,
    fun _ h => absurd h List.not_mem_nil,
    fun h => absurd rfl h,
    fun _ h => absurd h List.not_mem_nil,
    fun _ h => absurd h List.not_mem_nil⟩
set_option maxRecDepth 100000 in
theorem qm121 {l : Launch} {D : zk_D} {base : Nat} {Hb : Heap} : zk_Met l qK D base Hb (zg_K D base Hb) yJ1_indexOfChar_4cfef (Jvm.Cond.code yJ1_indexOfChar_4cfef prog_20_method_23_code 6 (some .int) :: zg_tb) qR121 qC121 := zk_met (ws' := zg_tb) (P := qP121) (AT := zg_AT) zpn_J1 rfl rfl rfl qk121 (fun s hK => zg_wd hK) (fun p e s m args below meth c s₁ Q B hml hK => qo121 B hml hK) (fun p e s m args below meth c s₁ v G0 H0 B hml hK ha hp hF q hq => absurd hq List.not_mem_nil)
set_option maxRecDepth 100000 in
def qR122 : Room := { frames := 2, cells := 0, slots := 0, locals := 45 }
set_option maxHeartbeats 4000000 in
set_option maxRecDepth 100000 in
theorem qo122 {p : Program} {l : Launch} {e : Env} {s : State} {m : MethodId} {args : Array Value} {below : List Frame} {meth : Method} {c : Code} {s₁ : State} {Q : State → Prop} {D : zk_D} {base : Nat} {Hb : Heap} (B : BodyLoose p l yJ1_indexOf_4cfef (headSpec (Jvm.Cond.code yJ1_indexOf_4cfef prog_20_method_22_code 4 (some .int) :: zg_tb) qR122) prog_20_method_22_code 4 (some .int) e s m args below meth c s₁) (hml : c.maxLocals = 4) (hK : zg_K D base Hb s) : zk_ok p l e (headSpec (Jvm.Cond.code yJ1_indexOf_4cfef prog_20_method_22_code 4 (some .int) :: zg_tb) qR122).room s m args below meth c Q qK D base Hb 4 prog_20_method_22_code qP122 qC122.2.2.2.2 := by
  have S : CallFix p m c prog_20_method_22_code 4 s args (Jvm.Cond.code yJ1_indexOf_4cfef prog_20_method_22_code 4 (some .int) :: zg_tb) RJ1 := ⟨B.exec, B.bytes, hml, findClass_of_methodNamed B.named, atoms_spec (ws := (Jvm.Cond.code yJ1_indexOf_4cfef prog_20_method_22_code 4 (some .int) :: zg_tb)) B.pre⟩
  exact ⟨fun _ h => absurd h List.not_mem_nil,
    fun _ h => absurd h List.not_mem_nil,
    fun _ h => absurd h List.not_mem_nil,
    fun _ h => absurd h List.not_mem_nil,
    fun h => absurd rfl h,
    fun _ h => absurd h List.not_mem_nil,
    List.forall_mem_cons.mpr ⟨zg_callS (fun w h => List.mem_cons_of_mem _ h) zg_tb_all S hK zg_Km qm118 zw2_204 zy_yJ1_canEncode_9a6ad_S (by decide +kernel) ⟨rfl, rfl⟩ (zk_dg_ok qdo_20_22 (by decide +kernel)), List.forall_mem_cons.mpr ⟨zg_callS (fun w h => List.mem_cons_of_mem _ h) zg_tb_all S hK zg_Km qm119 zw2_207 zy_yJ9_max_7cf53_S (by decide +kernel) ⟨rfl, rfl⟩ (zk_dg_ok qdo_20_22 (by decide +kernel)), List.forall_mem_cons.mpr ⟨zg_callS (fun w h => List.mem_cons_of_mem _ h) zg_tb_all S hK zg_Km qm120 zw2_210 zy_yJ9_min_7cf53_S (by decide +kernel) ⟨rfl, rfl⟩ (zk_dg_ok qdo_20_22 (by decide +kernel)), List.forall_mem_cons.mpr ⟨zg_callS (fun w h => List.mem_cons_of_mem _ h) zg_tb_all S hK zg_Km qm121 zw2_213 zy_yJ1_indexOfChar_4cfef_S (by decide +kernel) ⟨rfl, rfl⟩ (zk_dg_ok qdo_20_22 (by decide +kernel)), fun _ h => absurd h List.not_mem_nil⟩⟩⟩⟩⟩
set_option maxRecDepth 100000 in
theorem qm122 {l : Launch} {D : zk_D} {base : Nat} {Hb : Heap} : zk_Met l qK D base Hb (zg_K D base Hb) yJ1_indexOf_4cfef (Jvm.Cond.code yJ1_indexOf_4cfef prog_20_method_22_code 4 (some .int) :: zg_tb) qR122 qC122 := zk_met (ws' := zg_tb) (P := qP122) (AT := zg_AT) zpn_J1 rfl rfl rfl qk122 (fun s hK => zg_wd hK) (fun p e s m args below meth c s₁ Q B hml hK => qo122 B hml hK) (fun p e s m args below meth c s₁ v G0 H0 B hml hK ha hp hF q hq => absurd hq List.not_mem_nil)
set_option maxRecDepth 100000 in
def qR123 : Room := { frames := 3, cells := 0, slots := 0, locals := 68 }
set_option maxHeartbeats 4000000 in
set_option maxRecDepth 100000 in
theorem qo123 {p : Program} {l : Launch} {e : Env} {s : State} {m : MethodId} {args : Array Value} {below : List Frame} {meth : Method} {c : Code} {s₁ : State} {Q : State → Prop} {D : zk_D} {base : Nat} {Hb : Heap} (B : BodyLoose p l yJ0_indexOf_7cf53 (headSpec (Jvm.Cond.code yJ0_indexOf_7cf53 prog_19_method_80_code 3 (some .int) :: zg_tb) qR123) prog_19_method_80_code 3 (some .int) e s m args below meth c s₁) (hml : c.maxLocals = 3) (hK : zg_K D base Hb s) : zk_ok p l e (headSpec (Jvm.Cond.code yJ0_indexOf_7cf53 prog_19_method_80_code 3 (some .int) :: zg_tb) qR123).room s m args below meth c Q qK D base Hb 3 prog_19_method_80_code qP123 qC123.2.2.2.2 := by
  have S : CallFix p m c prog_19_method_80_code 3 s args (Jvm.Cond.code yJ0_indexOf_7cf53 prog_19_method_80_code 3 (some .int) :: zg_tb) RJ0 := ⟨B.exec, B.bytes, hml, findClass_of_methodNamed B.named, atoms_spec (ws := (Jvm.Cond.code yJ0_indexOf_7cf53 prog_19_method_80_code 3 (some .int) :: zg_tb)) B.pre⟩
  exact ⟨List.forall_mem_cons.mpr ⟨⟨zg_gokS S (hK.2.2.2.2.2.2.2.2.1 _ (List.mem_of_getElem? (i := 0) rfl)) (List.mem_cons_of_mem _ zw8_57), zg_pok4⟩, fun _ h => absurd h List.not_mem_nil⟩,
    fun _ h => absurd h List.not_mem_nil,
    fun _ h => absurd h List.not_mem_nil,
    fun _ h => absurd h List.not_mem_nil,
    fun h => absurd rfl h,
    fun _ h => absurd h List.not_mem_nil,
    List.forall_mem_cons.mpr ⟨zg_callV (fun w h => List.mem_cons_of_mem _ h) zg_tb_all S hK zg_Km qm115 zw2_196 zy_yJ0_isLatin1_aae02_V (ci := 13) (by decide +kernel) hK.2.2.2.2.2.2.2.1 ⟨rfl, rfl⟩ (zk_dg_ok qdo_19_80 (by decide +kernel)), List.forall_mem_cons.mpr ⟨zg_callV (fun w h => List.mem_cons_of_mem _ h) zg_tb_all S hK zg_Km qm117 zw2_200 zy_yJ0_length_8abf5_V (ci := 13) (by decide +kernel) hK.2.2.2.2.2.2.2.1 ⟨rfl, rfl⟩ (zk_dg_ok qdo_19_80 (by decide +kernel)), List.forall_mem_cons.mpr ⟨zg_callS (fun w h => List.mem_cons_of_mem _ h) zg_tb_all S hK zg_Km qm122 zw2_201 zy_yJ1_indexOf_4cfef_S (by decide +kernel) ⟨rfl, rfl⟩ (zk_dg_ok qdo_19_80 (by decide +kernel)), fun _ h => absurd h List.not_mem_nil⟩⟩⟩⟩
set_option maxRecDepth 100000 in
theorem qm123 {l : Launch} {D : zk_D} {base : Nat} {Hb : Heap} : zk_Met l qK D base Hb (zg_K D base Hb) yJ0_indexOf_7cf53 (Jvm.Cond.code yJ0_indexOf_7cf53 prog_19_method_80_code 3 (some .int) :: zg_tb) qR123 qC123 := zk_met (ws' := zg_tb) (P := qP123) (AT := zg_AT) zpn_J0 rfl rfl rfl qk123 (fun s hK => zg_wd hK) (fun p e s m args below meth c s₁ Q B hml hK => qo123 B hml hK) (fun p e s m args below meth c s₁ v G0 H0 B hml hK ha hp hF q hq => absurd hq List.not_mem_nil)
set_option maxRecDepth 100000 in
def qR124 : Room := { frames := 4, cells := 0, slots := 0, locals := 90 }
set_option maxHeartbeats 4000000 in
set_option maxRecDepth 100000 in
theorem qo124 {p : Program} {l : Launch} {e : Env} {s : State} {m : MethodId} {args : Array Value} {below : List Frame} {meth : Method} {c : Code} {s₁ : State} {Q : State → Prop} {D : zk_D} {base : Nat} {Hb : Heap} (B : BodyLoose p l yJ0_indexOf_0f7a4 (headSpec (Jvm.Cond.code yJ0_indexOf_0f7a4 prog_19_method_79_code 2 (some .int) :: zg_tb) qR124) prog_19_method_79_code 2 (some .int) e s m args below meth c s₁) (hml : c.maxLocals = 2) (hK : zg_K D base Hb s) : zk_ok p l e (headSpec (Jvm.Cond.code yJ0_indexOf_0f7a4 prog_19_method_79_code 2 (some .int) :: zg_tb) qR124).room s m args below meth c Q qK D base Hb 2 prog_19_method_79_code qP124 qC124.2.2.2.2 := by
  have S : CallFix p m c prog_19_method_79_code 2 s args (Jvm.Cond.code yJ0_indexOf_0f7a4 prog_19_method_79_code 2 (some .int) :: zg_tb) RJ0 := ⟨B.exec, B.bytes, hml, findClass_of_methodNamed B.named, atoms_spec (ws := (Jvm.Cond.code yJ0_indexOf_0f7a4 prog_19_method_79_code 2 (some .int) :: zg_tb)) B.pre⟩
  exact ⟨fun _ h => absurd h List.not_mem_nil,
    fun _ h => absurd h List.not_mem_nil,
    fun _ h => absurd h List.not_mem_nil,
    fun _ h => absurd h List.not_mem_nil,
    fun h => absurd rfl h,
    fun _ h => absurd h List.not_mem_nil,
    List.forall_mem_cons.mpr ⟨zg_callV (fun w h => List.mem_cons_of_mem _ h) zg_tb_all S hK zg_Km qm123 zw2_192 zy_yJ0_indexOf_7cf53_V (ci := 13) (by decide +kernel) hK.2.2.2.2.2.2.2.1 ⟨rfl, rfl⟩ (zk_dg_ok qdo_19_79 (by decide +kernel)), fun _ h => absurd h List.not_mem_nil⟩⟩
set_option maxRecDepth 100000 in
theorem qm124 {l : Launch} {D : zk_D} {base : Nat} {Hb : Heap} : zk_Met l qK D base Hb (zg_K D base Hb) yJ0_indexOf_0f7a4 (Jvm.Cond.code yJ0_indexOf_0f7a4 prog_19_method_79_code 2 (some .int) :: zg_tb) qR124 qC124 := zk_met (ws' := zg_tb) (P := qP124) (AT := zg_AT) zpn_J0 rfl rfl rfl qk124 (fun s hK => zg_wd hK) (fun p e s m args below meth c s₁ Q B hml hK => qo124 B hml hK) (fun p e s m args below meth c s₁ v G0 H0 B hml hK ha hp hF q hq => absurd hq List.not_mem_nil)
set_option maxRecDepth 100000 in
def qR125 : Room := { frames := 20, cells := 0, slots := 0, locals := 456 }
set_option maxHeartbeats 4000000 in
set_option maxRecDepth 100000 in
theorem qo125 {p : Program} {l : Launch} {e : Env} {s : State} {m : MethodId} {args : Array Value} {below : List Frame} {meth : Method} {c : Code} {s₁ : State} {Q : State → Prop} {D : zk_D} {base : Nat} {Hb : Heap} (B : BodyLoose p l yX6_readAtom (headSpec (Jvm.Cond.code yX6_readAtom prog_8_method_14_code 4 (some .boolean) :: zg_tb) qR125) prog_8_method_14_code 4 (some .boolean) e s m args below meth c s₁) (hml : c.maxLocals = 4) (hK : zg_K D base Hb s) : zk_ok p l e (headSpec (Jvm.Cond.code yX6_readAtom prog_8_method_14_code 4 (some .boolean) :: zg_tb) qR125).room s m args below meth c Q qK D base Hb 4 prog_8_method_14_code qP125 qC125.2.2.2.2 := by
  have S : CallFix p m c prog_8_method_14_code 4 s args (Jvm.Cond.code yX6_readAtom prog_8_method_14_code 4 (some .boolean) :: zg_tb) RX6 := ⟨B.exec, B.bytes, hml, findClass_of_methodNamed B.named, atoms_spec (ws := (Jvm.Cond.code yX6_readAtom prog_8_method_14_code 4 (some .boolean) :: zg_tb)) B.pre⟩
  exact ⟨List.forall_mem_cons.mpr ⟨zg_gp S (hK.2.1 6 _ rfl) (fun w h => (List.mem_cons_of_mem _ (zc6 w h))) rfl zt6_3 (List.mem_cons_of_mem _ zw1_119) rfl, fun _ h => absurd h List.not_mem_nil⟩,
    fun _ h => absurd h List.not_mem_nil,
    fun _ h => absurd h List.not_mem_nil,
    fun _ h => absurd h List.not_mem_nil,
    fun h => absurd rfl h,
    List.forall_mem_cons.mpr ⟨zg_kokS (k := 24) (tx := "wlsknauhrmyo") S (zg_sR2 hK) (by decide +kernel) (by decide) (zk_dg_ok qdo_8_14 (by decide +kernel)), fun _ h => absurd h List.not_mem_nil⟩,
    List.forall_mem_cons.mpr ⟨zg_callV (fun w h => List.mem_cons_of_mem _ h) zg_tb_all S hK zg_Km qm36 zw2_183 zy_yX6_ahead_V (ci := 6) (by decide +kernel) (hK.2.1 6 _ rfl).2.1 ⟨rfl, rfl⟩ (zk_dg_ok qdo_8_14 (by decide +kernel)), List.forall_mem_cons.mpr ⟨zg_callV (fun w h => List.mem_cons_of_mem _ h) zg_tb_all S hK zg_Km qm49 zw3_45 zy_yX6_readNumber_V (ci := 6) (by decide +kernel) (hK.2.1 6 _ rfl).2.1 ⟨rfl, rfl⟩ (zk_dg_ok qdo_8_14 (by decide +kernel)), List.forall_mem_cons.mpr ⟨zg_callV (fun w h => List.mem_cons_of_mem _ h) zg_tb_all S hK zg_Km qm114 zw3_33 zy_yX6_readSum_V (ci := 6) (by decide +kernel) (hK.2.1 6 _ rfl).2.1 ⟨rfl, rfl⟩ (zk_dg_ok qdo_8_14 (by decide +kernel)), List.forall_mem_cons.mpr ⟨zg_callV (fun w h => List.mem_cons_of_mem _ h) zg_tb_all S hK zg_Km qm48 zw3_29 zy_yX6_pass_V (ci := 6) (by decide +kernel) (hK.2.1 6 _ rfl).2.1 ⟨rfl, rfl⟩ (zk_dg_ok qdo_8_14 (by decide +kernel)), List.forall_mem_cons.mpr ⟨zg_callV (fun w h => List.mem_cons_of_mem _ h) zg_tb_all S hK zg_Km qm124 zw2_188 zy_yJ0_indexOf_0f7a4_V (ci := 13) (by decide +kernel) hK.2.2.2.2.2.2.2.1 ⟨rfl, rfl⟩ (zk_dg_ok qdo_8_14 (by decide +kernel)), List.forall_mem_cons.mpr ⟨zg_callV (fun w h => List.mem_cons_of_mem _ h) zg_tb_all S hK zg_Km qm47 zw3_25 zy_yX6_add_V (ci := 6) (by decide +kernel) (hK.2.1 6 _ rfl).2.1 ⟨rfl, rfl⟩ (zk_dg_ok qdo_8_14 (by decide +kernel)), fun _ h => absurd h List.not_mem_nil⟩⟩⟩⟩⟩⟩⟩
set_option maxRecDepth 100000 in
theorem qm125 {l : Launch} {D : zk_D} {base : Nat} {Hb : Heap} : zk_Met l qK D base Hb (zg_K D base Hb) yX6_readAtom (Jvm.Cond.code yX6_readAtom prog_8_method_14_code 4 (some .boolean) :: zg_tb) qR125 qC125 := zk_met (ws' := zg_tb) (P := qP125) (AT := zg_AT) zpn_X6 rfl rfl rfl qk125 (fun s hK => zg_wd hK) (fun p e s m args below meth c s₁ Q B hml hK => qo125 B hml hK) (fun p e s m args below meth c s₁ v G0 H0 B hml hK ha hp hF q hq => absurd hq List.not_mem_nil)
set_option maxRecDepth 100000 in
def qR126 : Room := { frames := 21, cells := 0, slots := 0, locals := 479 }
set_option maxHeartbeats 4000000 in
set_option maxRecDepth 100000 in
theorem qo126 {p : Program} {l : Launch} {e : Env} {s : State} {m : MethodId} {args : Array Value} {below : List Frame} {meth : Method} {c : Code} {s₁ : State} {Q : State → Prop} {D : zk_D} {base : Nat} {Hb : Heap} (B : BodyLoose p l yX6_readTerm (headSpec (Jvm.Cond.code yX6_readTerm prog_8_method_13_code 4 (some .boolean) :: zg_tb) qR126) prog_8_method_13_code 4 (some .boolean) e s m args below meth c s₁) (hml : c.maxLocals = 4) (hK : zg_K D base Hb s) : zk_ok p l e (headSpec (Jvm.Cond.code yX6_readTerm prog_8_method_13_code 4 (some .boolean) :: zg_tb) qR126).room s m args below meth c Q qK D base Hb 4 prog_8_method_13_code qP126 qC126.2.2.2.2 := by
  have S : CallFix p m c prog_8_method_13_code 4 s args (Jvm.Cond.code yX6_readTerm prog_8_method_13_code 4 (some .boolean) :: zg_tb) RX6 := ⟨B.exec, B.bytes, hml, findClass_of_methodNamed B.named, atoms_spec (ws := (Jvm.Cond.code yX6_readTerm prog_8_method_13_code 4 (some .boolean) :: zg_tb)) B.pre⟩
  exact ⟨List.forall_mem_cons.mpr ⟨zg_gp S (hK.2.1 6 _ rfl) (fun w h => (List.mem_cons_of_mem _ (zc6 w h))) rfl zt6_3 (List.mem_cons_of_mem _ zw1_119) rfl, fun _ h => absurd h List.not_mem_nil⟩,
    fun _ h => absurd h List.not_mem_nil,
    fun _ h => absurd h List.not_mem_nil,
    fun _ h => absurd h List.not_mem_nil,
    fun h => absurd rfl h,
    fun _ h => absurd h List.not_mem_nil,
    List.forall_mem_cons.mpr ⟨zg_callV (fun w h => List.mem_cons_of_mem _ h) zg_tb_all S hK zg_Km qm125 zw3_41 zy_yX6_readAtom_V (ci := 6) (by decide +kernel) (hK.2.1 6 _ rfl).2.1 ⟨rfl, rfl⟩ (zk_dg_ok qdo_8_13 (by decide +kernel)), List.forall_mem_cons.mpr ⟨zg_callV (fun w h => List.mem_cons_of_mem _ h) zg_tb_all S hK zg_Km qm36 zw2_183 zy_yX6_ahead_V (ci := 6) (by decide +kernel) (hK.2.1 6 _ rfl).2.1 ⟨rfl, rfl⟩ (zk_dg_ok qdo_8_13 (by decide +kernel)), List.forall_mem_cons.mpr ⟨zg_callV (fun w h => List.mem_cons_of_mem _ h) zg_tb_all S hK zg_Km qm125 zw3_41 zy_yX6_readAtom_V (ci := 6) (by decide +kernel) (hK.2.1 6 _ rfl).2.1 ⟨rfl, rfl⟩ (zk_dg_ok qdo_8_13 (by decide +kernel)), List.forall_mem_cons.mpr ⟨zg_callV (fun w h => List.mem_cons_of_mem _ h) zg_tb_all S hK zg_Km qm47 zw3_25 zy_yX6_add_V (ci := 6) (by decide +kernel) (hK.2.1 6 _ rfl).2.1 ⟨rfl, rfl⟩ (zk_dg_ok qdo_8_13 (by decide +kernel)), fun _ h => absurd h List.not_mem_nil⟩⟩⟩⟩⟩
set_option maxRecDepth 100000 in
theorem qm126 {l : Launch} {D : zk_D} {base : Nat} {Hb : Heap} : zk_Met l qK D base Hb (zg_K D base Hb) yX6_readTerm (Jvm.Cond.code yX6_readTerm prog_8_method_13_code 4 (some .boolean) :: zg_tb) qR126 qC126 := zk_met (ws' := zg_tb) (P := qP126) (AT := zg_AT) zpn_X6 rfl rfl rfl qk126 (fun s hK => zg_wd hK) (fun p e s m args below meth c s₁ Q B hml hK => qo126 B hml hK) (fun p e s m args below meth c s₁ v G0 H0 B hml hK ha hp hF q hq => absurd hq List.not_mem_nil)
set_option maxRecDepth 100000 in
def qR127 : Room := { frames := 22, cells := 0, slots := 0, locals := 502 }
set_option maxHeartbeats 4000000 in
set_option maxRecDepth 100000 in
theorem qo127 {p : Program} {l : Launch} {e : Env} {s : State} {m : MethodId} {args : Array Value} {below : List Frame} {meth : Method} {c : Code} {s₁ : State} {Q : State → Prop} {D : zk_D} {base : Nat} {Hb : Heap} (B : BodyLoose p l yX6_readSum (headSpec (Jvm.Cond.code yX6_readSum prog_8_method_12_code 4 (some .boolean) :: zg_tb) qR127) prog_8_method_12_code 4 (some .boolean) e s m args below meth c s₁) (hml : c.maxLocals = 4) (hK : zg_K D base Hb s) : zk_ok p l e (headSpec (Jvm.Cond.code yX6_readSum prog_8_method_12_code 4 (some .boolean) :: zg_tb) qR127).room s m args below meth c Q qK D base Hb 4 prog_8_method_12_code qP127 qC127.2.2.2.2 := by
  have S : CallFix p m c prog_8_method_12_code 4 s args (Jvm.Cond.code yX6_readSum prog_8_method_12_code 4 (some .boolean) :: zg_tb) RX6 := ⟨B.exec, B.bytes, hml, findClass_of_methodNamed B.named, atoms_spec (ws := (Jvm.Cond.code yX6_readSum prog_8_method_12_code 4 (some .boolean) :: zg_tb)) B.pre⟩
  exact ⟨List.forall_mem_cons.mpr ⟨zg_gp S (hK.2.1 6 _ rfl) (fun w h => (List.mem_cons_of_mem _ (zc6 w h))) rfl zt6_3 (List.mem_cons_of_mem _ zw1_119) rfl, fun _ h => absurd h List.not_mem_nil⟩,
    fun _ h => absurd h List.not_mem_nil,
    fun _ h => absurd h List.not_mem_nil,
    fun _ h => absurd h List.not_mem_nil,
    fun h => absurd rfl h,
    fun _ h => absurd h List.not_mem_nil,
    List.forall_mem_cons.mpr ⟨zg_callV (fun w h => List.mem_cons_of_mem _ h) zg_tb_all S hK zg_Km qm126 zw3_37 zy_yX6_readTerm_V (ci := 6) (by decide +kernel) (hK.2.1 6 _ rfl).2.1 ⟨rfl, rfl⟩ (zk_dg_ok qdo_8_12 (by decide +kernel)), List.forall_mem_cons.mpr ⟨zg_callV (fun w h => List.mem_cons_of_mem _ h) zg_tb_all S hK zg_Km qm36 zw2_183 zy_yX6_ahead_V (ci := 6) (by decide +kernel) (hK.2.1 6 _ rfl).2.1 ⟨rfl, rfl⟩ (zk_dg_ok qdo_8_12 (by decide +kernel)), List.forall_mem_cons.mpr ⟨zg_callV (fun w h => List.mem_cons_of_mem _ h) zg_tb_all S hK zg_Km qm126 zw3_37 zy_yX6_readTerm_V (ci := 6) (by decide +kernel) (hK.2.1 6 _ rfl).2.1 ⟨rfl, rfl⟩ (zk_dg_ok qdo_8_12 (by decide +kernel)), List.forall_mem_cons.mpr ⟨zg_callV (fun w h => List.mem_cons_of_mem _ h) zg_tb_all S hK zg_Km qm47 zw3_25 zy_yX6_add_V (ci := 6) (by decide +kernel) (hK.2.1 6 _ rfl).2.1 ⟨rfl, rfl⟩ (zk_dg_ok qdo_8_12 (by decide +kernel)), fun _ h => absurd h List.not_mem_nil⟩⟩⟩⟩⟩
set_option maxRecDepth 100000 in
theorem qm127 {l : Launch} {D : zk_D} {base : Nat} {Hb : Heap} : zk_Met l qK D base Hb (zg_K D base Hb) yX6_readSum (Jvm.Cond.code yX6_readSum prog_8_method_12_code 4 (some .boolean) :: zg_tb) qR127 qC127 := zk_met (ws' := zg_tb) (P := qP127) (AT := zg_AT) zpn_X6 rfl rfl rfl qk127 (fun s hK => zg_wd hK) (fun p e s m args below meth c s₁ Q B hml hK => qo127 B hml hK) (fun p e s m args below meth c s₁ v G0 H0 B hml hK ha hp hF q hq => absurd hq List.not_mem_nil)
set_option maxRecDepth 100000 in
def qR128 : Room := { frames := 1, cells := 0, slots := 0, locals := 20 }
set_option maxHeartbeats 4000000 in
set_option maxRecDepth 100000 in
theorem qo128 {p : Program} {l : Launch} {e : Env} {s : State} {m : MethodId} {args : Array Value} {below : List Frame} {meth : Method} {c : Code} {s₁ : State} {Q : State → Prop} {D : zk_D} {base : Nat} {Hb : Heap} (B : BodyLoose p l yJ0_isLatin1_aae02 (headSpec (Jvm.Cond.code yJ0_isLatin1_aae02 prog_19_method_154_code 1 (some .boolean) :: zg_tb) qR128) prog_19_method_154_code 1 (some .boolean) e s m args below meth c s₁) (hml : c.maxLocals = 1) (hK : zg_K D base Hb s) : zk_ok p l e (headSpec (Jvm.Cond.code yJ0_isLatin1_aae02 prog_19_method_154_code 1 (some .boolean) :: zg_tb) qR128).room s m args below meth c Q qK D base Hb 1 prog_19_method_154_code qP128 qC128.2.2.2.2 := by
  have S : CallFix p m c prog_19_method_154_code 1 s args (Jvm.Cond.code yJ0_isLatin1_aae02 prog_19_method_154_code 1 (some .boolean) :: zg_tb) RJ0 := ⟨B.exec, B.bytes, hml, findClass_of_methodNamed B.named, atoms_spec (ws := (Jvm.Cond.code yJ0_isLatin1_aae02 prog_19_method_154_code 1 (some .boolean) :: zg_tb)) B.pre⟩
  exact ⟨List.forall_mem_cons.mpr ⟨⟨zg_gokS S (hK.2.2.2.2.2.2.2.2.1 _ (List.mem_of_getElem? (i := 1) rfl)) (List.mem_cons_of_mem _ zw8_58), zg_pok4⟩, fun _ h => absurd h List.not_mem_nil⟩,
    fun _ h => absurd h List.not_mem_nil,
    fun _ h => absurd h List.not_mem_nil,
    fun _ h => absurd h List.not_mem_nil,
    fun h => absurd rfl h,
    List.forall_mem_cons.mpr ⟨zg_kokG S (hK.2.2.2.2.2.2.2.2.2.2.1 _ (List.mem_of_getElem? (i := 0) rfl)) (List.mem_cons_of_mem _ zw1_144) (by decide +kernel) (zk_dg_ok qdo_19_154 (by decide +kernel)), fun _ h => absurd h List.not_mem_nil⟩,
    fun _ h => absurd h List.not_mem_nil⟩
set_option maxRecDepth 100000 in
theorem qm128 {l : Launch} {D : zk_D} {base : Nat} {Hb : Heap} : zk_Met l qK D base Hb (zg_K D base Hb) yJ0_isLatin1_aae02 (Jvm.Cond.code yJ0_isLatin1_aae02 prog_19_method_154_code 1 (some .boolean) :: zg_tb) qR128 qC128 := zk_met (ws' := zg_tb) (P := qP128) (AT := zg_AT) zpn_J0 rfl rfl rfl qk128 (fun s hK => zg_wd hK) (fun p e s m args below meth c s₁ Q B hml hK => qo128 B hml hK) (fun p e s m args below meth c s₁ v G0 H0 B hml hK ha hp hF q hq => absurd hq List.not_mem_nil)
set_option maxRecDepth 100000 in
def qR129 : Room := { frames := 1, cells := 0, slots := 0, locals := 20 }
set_option maxHeartbeats 4000000 in
set_option maxRecDepth 100000 in
theorem qo129 {p : Program} {l : Launch} {e : Env} {s : State} {m : MethodId} {args : Array Value} {below : List Frame} {meth : Method} {c : Code} {s₁ : State} {Q : State → Prop} {D : zk_D} {base : Nat} {Hb : Heap} (B : BodyLoose p l yJ0_coder_7d493 (headSpec (Jvm.Cond.code yJ0_coder_7d493 prog_19_method_152_code 1 (some .byte) :: zg_tb) qR129) prog_19_method_152_code 1 (some .byte) e s m args below meth c s₁) (hml : c.maxLocals = 1) (hK : zg_K D base Hb s) : zk_ok p l e (headSpec (Jvm.Cond.code yJ0_coder_7d493 prog_19_method_152_code 1 (some .byte) :: zg_tb) qR129).room s m args below meth c Q qK D base Hb 1 prog_19_method_152_code qP129 qC129.2.2.2.2 := by
  have S : CallFix p m c prog_19_method_152_code 1 s args (Jvm.Cond.code yJ0_coder_7d493 prog_19_method_152_code 1 (some .byte) :: zg_tb) RJ0 := ⟨B.exec, B.bytes, hml, findClass_of_methodNamed B.named, atoms_spec (ws := (Jvm.Cond.code yJ0_coder_7d493 prog_19_method_152_code 1 (some .byte) :: zg_tb)) B.pre⟩
  exact ⟨List.forall_mem_cons.mpr ⟨⟨zg_gokS S (hK.2.2.2.2.2.2.2.2.1 _ (List.mem_of_getElem? (i := 1) rfl)) (List.mem_cons_of_mem _ zw8_58), zg_pok4⟩, fun _ h => absurd h List.not_mem_nil⟩,
    fun _ h => absurd h List.not_mem_nil,
    fun _ h => absurd h List.not_mem_nil,
    fun _ h => absurd h List.not_mem_nil,
    fun h => absurd rfl h,
    List.forall_mem_cons.mpr ⟨zg_kokG S (hK.2.2.2.2.2.2.2.2.2.2.1 _ (List.mem_of_getElem? (i := 0) rfl)) (List.mem_cons_of_mem _ zw1_144) (by decide +kernel) (zk_dg_ok qdo_19_152 (by decide +kernel)), fun _ h => absurd h List.not_mem_nil⟩,
    fun _ h => absurd h List.not_mem_nil⟩
set_option maxRecDepth 100000 in
theorem qm129 {l : Launch} {D : zk_D} {base : Nat} {Hb : Heap} : zk_Met l qK D base Hb (zg_K D base Hb) yJ0_coder_7d493 (Jvm.Cond.code yJ0_coder_7d493 prog_19_method_152_code 1 (some .byte) :: zg_tb) qR129 qC129 := zk_met (ws' := zg_tb) (P := qP129) (AT := zg_AT) zpn_J0 rfl rfl rfl qk129 (fun s hK => zg_wd hK) (fun p e s m args below meth c s₁ Q B hml hK => qo129 B hml hK) (fun p e s m args below meth c s₁ v G0 H0 B hml hK ha hp hF q hq => absurd hq List.not_mem_nil)
set_option maxRecDepth 100000 in
def qR130 : Room := { frames := 2, cells := 0, slots := 0, locals := 40 }
set_option maxHeartbeats 4000000 in
set_option maxRecDepth 100000 in
theorem qo130 {p : Program} {l : Launch} {e : Env} {s : State} {m : MethodId} {args : Array Value} {below : List Frame} {meth : Method} {c : Code} {s₁ : State} {Q : State → Prop} {D : zk_D} {base : Nat} {Hb : Heap} (B : BodyLoose p l yJ0_length_8abf5 (headSpec (Jvm.Cond.code yJ0_length_8abf5 prog_19_method_54_code 1 (some .int) :: zg_tb) qR130) prog_19_method_54_code 1 (some .int) e s m args below meth c s₁) (hml : c.maxLocals = 1) (hK : zg_K D base Hb s) : zk_ok p l e (headSpec (Jvm.Cond.code yJ0_length_8abf5 prog_19_method_54_code 1 (some .int) :: zg_tb) qR130).room s m args below meth c Q qK D base Hb 1 prog_19_method_54_code qP130 qC130.2.2.2.2 := by
  have S : CallFix p m c prog_19_method_54_code 1 s args (Jvm.Cond.code yJ0_length_8abf5 prog_19_method_54_code 1 (some .int) :: zg_tb) RJ0 := ⟨B.exec, B.bytes, hml, findClass_of_methodNamed B.named, atoms_spec (ws := (Jvm.Cond.code yJ0_length_8abf5 prog_19_method_54_code 1 (some .int) :: zg_tb)) B.pre⟩
  exact ⟨List.forall_mem_cons.mpr ⟨⟨zg_gokS S (hK.2.2.2.2.2.2.2.2.1 _ (List.mem_of_getElem? (i := 0) rfl)) (List.mem_cons_of_mem _ zw8_57), zg_pok4⟩, fun _ h => absurd h List.not_mem_nil⟩,
    fun _ h => absurd h List.not_mem_nil,
    fun _ h => absurd h List.not_mem_nil,
    fun _ h => absurd h List.not_mem_nil,
    fun h => absurd rfl h,
    fun _ h => absurd h List.not_mem_nil,
    List.forall_mem_cons.mpr ⟨zg_callV (fun w h => List.mem_cons_of_mem _ h) zg_tb_all S hK zg_Km qm129 zw1_140 zy_yJ0_coder_7d493_V (ci := 13) (by decide +kernel) hK.2.2.2.2.2.2.2.1 ⟨rfl, rfl⟩ (zk_dg_ok qdo_19_54 (by decide +kernel)), fun _ h => absurd h List.not_mem_nil⟩⟩
set_option maxRecDepth 100000 in
theorem qm130 {l : Launch} {D : zk_D} {base : Nat} {Hb : Heap} : zk_Met l qK D base Hb (zg_K D base Hb) yJ0_length_8abf5 (Jvm.Cond.code yJ0_length_8abf5 prog_19_method_54_code 1 (some .int) :: zg_tb) qR130 qC130 := zk_met (ws' := zg_tb) (P := qP130) (AT := zg_AT) zpn_J0 rfl rfl rfl qk130 (fun s hK => zg_wd hK) (fun p e s m args below meth c s₁ Q B hml hK => qo130 B hml hK) (fun p e s m args below meth c s₁ v G0 H0 B hml hK ha hp hF q hq => absurd hq List.not_mem_nil)
set_option maxRecDepth 100000 in
def qR131 : Room := { frames := 1, cells := 0, slots := 0, locals := 20 }
set_option maxHeartbeats 4000000 in
set_option maxRecDepth 100000 in
theorem qo131 {p : Program} {l : Launch} {e : Env} {s : State} {m : MethodId} {args : Array Value} {below : List Frame} {meth : Method} {c : Code} {s₁ : State} {Q : State → Prop} {D : zk_D} {base : Nat} {Hb : Heap} (B : BodyLoose p l yJ1_canEncode_9a6ad (headSpec (Jvm.Cond.code yJ1_canEncode_9a6ad prog_20_method_4_code 1 (some .boolean) :: zg_tb) qR131) prog_20_method_4_code 1 (some .boolean) e s m args below meth c s₁) (hml : c.maxLocals = 1) (hK : zg_K D base Hb s) : zk_ok p l e (headSpec (Jvm.Cond.code yJ1_canEncode_9a6ad prog_20_method_4_code 1 (some .boolean) :: zg_tb) qR131).room s m args below meth c Q qK D base Hb 1 prog_20_method_4_code qP131 qC131.2.2.2.2 := by
  have S : CallFix p m c prog_20_method_4_code 1 s args (Jvm.Cond.code yJ1_canEncode_9a6ad prog_20_method_4_code 1 (some .boolean) :: zg_tb) RJ1 := ⟨B.exec, B.bytes, hml, findClass_of_methodNamed B.named, atoms_spec (ws := (Jvm.Cond.code yJ1_canEncode_9a6ad prog_20_method_4_code 1 (some .boolean) :: zg_tb)) B.pre⟩
  exact ⟨fun _ h => absurd h List.not_mem_nil,
    fun _ h => absurd h List.not_mem_nil,
    fun _ h => absurd h List.not_mem_nil,
    fun _ h => absurd h List.not_mem_nil,
    fun h => absurd rfl h,
    fun _ h => absurd h List.not_mem_nil,
    fun _ h => absurd h List.not_mem_nil⟩
set_option maxRecDepth 100000 in
theorem qm131 {l : Launch} {D : zk_D} {base : Nat} {Hb : Heap} : zk_Met l qK D base Hb (zg_K D base Hb) yJ1_canEncode_9a6ad (Jvm.Cond.code yJ1_canEncode_9a6ad prog_20_method_4_code 1 (some .boolean) :: zg_tb) qR131 qC131 := zk_met (ws' := zg_tb) (P := qP131) (AT := zg_AT) zpn_J1 rfl rfl rfl qk131 (fun s hK => zg_wd hK) (fun p e s m args below meth c s₁ Q B hml hK => qo131 B hml hK) (fun p e s m args below meth c s₁ v G0 H0 B hml hK ha hp hF q hq => absurd hq List.not_mem_nil)
set_option maxRecDepth 100000 in
def qR132 : Room := { frames := 1, cells := 0, slots := 0, locals := 20 }
set_option maxHeartbeats 4000000 in
set_option maxRecDepth 100000 in
theorem qo132 {p : Program} {l : Launch} {e : Env} {s : State} {m : MethodId} {args : Array Value} {below : List Frame} {meth : Method} {c : Code} {s₁ : State} {Q : State → Prop} {D : zk_D} {base : Nat} {Hb : Heap} (B : BodyLoose p l yJ9_max_7cf53 (headSpec (Jvm.Cond.code yJ9_max_7cf53 prog_18_method_65_code 2 (some .int) :: zg_tb) qR132) prog_18_method_65_code 2 (some .int) e s m args below meth c s₁) (hml : c.maxLocals = 2) (hK : zg_K D base Hb s) : zk_ok p l e (headSpec (Jvm.Cond.code yJ9_max_7cf53 prog_18_method_65_code 2 (some .int) :: zg_tb) qR132).room s m args below meth c Q qK D base Hb 2 prog_18_method_65_code qP132 qC132.2.2.2.2 := by
  have S : CallFix p m c prog_18_method_65_code 2 s args (Jvm.Cond.code yJ9_max_7cf53 prog_18_method_65_code 2 (some .int) :: zg_tb) RJ9 := ⟨B.exec, B.bytes, hml, findClass_of_methodNamed B.named, atoms_spec (ws := (Jvm.Cond.code yJ9_max_7cf53 prog_18_method_65_code 2 (some .int) :: zg_tb)) B.pre⟩
  exact ⟨fun _ h => absurd h List.not_mem_nil,
    fun _ h => absurd h List.not_mem_nil,
    fun _ h => absurd h List.not_mem_nil,
    fun _ h => absurd h List.not_mem_nil,
    fun h => absurd rfl h,
    fun _ h => absurd h List.not_mem_nil,
    fun _ h => absurd h List.not_mem_nil⟩
set_option maxRecDepth 100000 in
theorem qm132 {l : Launch} {D : zk_D} {base : Nat} {Hb : Heap} : zk_Met l qK D base Hb (zg_K D base Hb) yJ9_max_7cf53 (Jvm.Cond.code yJ9_max_7cf53 prog_18_method_65_code 2 (some .int) :: zg_tb) qR132 qC132 := zk_metF (ws' := zg_tb) (P := qP132) (AT := zg_AT) zpf_yJ9_max_7cf53 rfl rfl rfl qk132 (fun s hK => zg_wd hK) (fun p e s m args below meth c s₁ Q B hml hK => qo132 B hml hK) (fun p e s m args below meth c s₁ v G0 H0 B hml hK ha hp hF q hq => absurd hq List.not_mem_nil)
set_option maxRecDepth 100000 in
def qR133 : Room := { frames := 1, cells := 0, slots := 0, locals := 20 }
set_option maxHeartbeats 4000000 in
set_option maxRecDepth 100000 in
theorem qo133 {p : Program} {l : Launch} {e : Env} {s : State} {m : MethodId} {args : Array Value} {below : List Frame} {meth : Method} {c : Code} {s₁ : State} {Q : State → Prop} {D : zk_D} {base : Nat} {Hb : Heap} (B : BodyLoose p l yJ9_min_7cf53 (headSpec (Jvm.Cond.code yJ9_min_7cf53 prog_18_method_69_code 2 (some .int) :: zg_tb) qR133) prog_18_method_69_code 2 (some .int) e s m args below meth c s₁) (hml : c.maxLocals = 2) (hK : zg_K D base Hb s) : zk_ok p l e (headSpec (Jvm.Cond.code yJ9_min_7cf53 prog_18_method_69_code 2 (some .int) :: zg_tb) qR133).room s m args below meth c Q qK D base Hb 2 prog_18_method_69_code qP133 qC133.2.2.2.2 := by
  have S : CallFix p m c prog_18_method_69_code 2 s args (Jvm.Cond.code yJ9_min_7cf53 prog_18_method_69_code 2 (some .int) :: zg_tb) RJ9 := ⟨B.exec, B.bytes, hml, findClass_of_methodNamed B.named, atoms_spec (ws := (Jvm.Cond.code yJ9_min_7cf53 prog_18_method_69_code 2 (some .int) :: zg_tb)) B.pre⟩
  exact ⟨fun _ h => absurd h List.not_mem_nil,
    fun _ h => absurd h List.not_mem_nil,
    fun _ h => absurd h List.not_mem_nil,
    fun _ h => absurd h List.not_mem_nil,
    fun h => absurd rfl h,
    fun _ h => absurd h List.not_mem_nil,
    fun _ h => absurd h List.not_mem_nil⟩
set_option maxRecDepth 100000 in
theorem qm133 {l : Launch} {D : zk_D} {base : Nat} {Hb : Heap} : zk_Met l qK D base Hb (zg_K D base Hb) yJ9_min_7cf53 (Jvm.Cond.code yJ9_min_7cf53 prog_18_method_69_code 2 (some .int) :: zg_tb) qR133 qC133 := zk_metF (ws' := zg_tb) (P := qP133) (AT := zg_AT) zpf_yJ9_min_7cf53 rfl rfl rfl qk133 (fun s hK => zg_wd hK) (fun p e s m args below meth c s₁ Q B hml hK => qo133 B hml hK) (fun p e s m args below meth c s₁ v G0 H0 B hml hK ha hp hF q hq => absurd hq List.not_mem_nil)
set_option maxRecDepth 100000 in
def qR134 : Room := { frames := 1, cells := 0, slots := 0, locals := 20 }
set_option maxHeartbeats 4000000 in
set_option maxRecDepth 100000 in
theorem qo134 {p : Program} {l : Launch} {e : Env} {s : State} {m : MethodId} {args : Array Value} {below : List Frame} {meth : Method} {c : Code} {s₁ : State} {Q : State → Prop} {D : zk_D} {base : Nat} {Hb : Heap} (B : BodyLoose p l yJ1_indexOfChar_4cfef (headSpec (Jvm.Cond.code yJ1_indexOfChar_4cfef prog_20_method_23_code 6 (some .int) :: zg_tb) qR134) prog_20_method_23_code 6 (some .int) e s m args below meth c s₁) (hml : c.maxLocals = 6) (hK : zg_K D base Hb s) : zk_ok p l e (headSpec (Jvm.Cond.code yJ1_indexOfChar_4cfef prog_20_method_23_code 6 (some .int) :: zg_tb) qR134).room s m args below meth c Q qK D base Hb 6 prog_20_method_23_code qP134 qC134.2.2.2.2 := by
  have S : CallFix p m c prog_20_method_23_code 6 s args (Jvm.Cond.code yJ1_indexOfChar_4cfef prog_20_method_23_code 6 (some .int) :: zg_tb) RJ1 := ⟨B.exec, B.bytes, hml, findClass_of_methodNamed B.named, atoms_spec (ws := (Jvm.Cond.code yJ1_indexOfChar_4cfef prog_20_method_23_code 6 (some .int) :: zg_tb)) B.pre⟩
  exact ⟨fun _ h => absurd h List.not_mem_nil,
    fun _ h => absurd h List.not_mem_nil,
    fun _ h => absurd h List.not_mem_nil,
    fun _ h => absurd h List.not_mem_nil,
    fun h => absurd rfl h,
    fun _ h => absurd h List.not_mem_nil,
    fun _ h => absurd h List.not_mem_nil⟩
set_option maxRecDepth 100000 in
theorem qm134 {l : Launch} {D : zk_D} {base : Nat} {Hb : Heap} : zk_Met l qK D base Hb (zg_K D base Hb) yJ1_indexOfChar_4cfef (Jvm.Cond.code yJ1_indexOfChar_4cfef prog_20_method_23_code 6 (some .int) :: zg_tb) qR134 qC134 := zk_met (ws' := zg_tb) (P := qP134) (AT := zg_AT) zpn_J1 rfl rfl rfl qk134 (fun s hK => zg_wd hK) (fun p e s m args below meth c s₁ Q B hml hK => qo134 B hml hK) (fun p e s m args below meth c s₁ v G0 H0 B hml hK ha hp hF q hq => absurd hq List.not_mem_nil)
set_option maxRecDepth 100000 in
def qR135 : Room := { frames := 2, cells := 0, slots := 0, locals := 45 }
set_option maxHeartbeats 4000000 in
set_option maxRecDepth 100000 in
theorem qo135 {p : Program} {l : Launch} {e : Env} {s : State} {m : MethodId} {args : Array Value} {below : List Frame} {meth : Method} {c : Code} {s₁ : State} {Q : State → Prop} {D : zk_D} {base : Nat} {Hb : Heap} (B : BodyLoose p l yJ1_indexOf_4cfef (headSpec (Jvm.Cond.code yJ1_indexOf_4cfef prog_20_method_22_code 4 (some .int) :: zg_tb) qR135) prog_20_method_22_code 4 (some .int) e s m args below meth c s₁) (hml : c.maxLocals = 4) (hK : zg_K D base Hb s) : zk_ok p l e (headSpec (Jvm.Cond.code yJ1_indexOf_4cfef prog_20_method_22_code 4 (some .int) :: zg_tb) qR135).room s m args below meth c Q qK D base Hb 4 prog_20_method_22_code qP135 qC135.2.2.2.2 := by
  have S : CallFix p m c prog_20_method_22_code 4 s args (Jvm.Cond.code yJ1_indexOf_4cfef prog_20_method_22_code 4 (some .int) :: zg_tb) RJ1 := ⟨B.exec, B.bytes, hml, findClass_of_methodNamed B.named, atoms_spec (ws := (Jvm.Cond.code yJ1_indexOf_4cfef prog_20_method_22_code 4 (some .int) :: zg_tb)) B.pre⟩
  exact ⟨fun _ h => absurd h List.not_mem_nil,
    fun _ h => absurd h List.not_mem_nil,
    fun _ h => absurd h List.not_mem_nil,
    fun _ h => absurd h List.not_mem_nil,
    fun h => absurd rfl h,
    fun _ h => absurd h List.not_mem_nil,
    List.forall_mem_cons.mpr ⟨zg_callS (fun w h => List.mem_cons_of_mem _ h) zg_tb_all S hK zg_Km qm131 zw2_204 zy_yJ1_canEncode_9a6ad_S (by decide +kernel) ⟨rfl, rfl⟩ (zk_dg_ok qdo_20_22 (by decide +kernel)), List.forall_mem_cons.mpr ⟨zg_callS (fun w h => List.mem_cons_of_mem _ h) zg_tb_all S hK zg_Km qm132 zw2_207 zy_yJ9_max_7cf53_S (by decide +kernel) ⟨rfl, rfl⟩ (zk_dg_ok qdo_20_22 (by decide +kernel)), List.forall_mem_cons.mpr ⟨zg_callS (fun w h => List.mem_cons_of_mem _ h) zg_tb_all S hK zg_Km qm133 zw2_210 zy_yJ9_min_7cf53_S (by decide +kernel) ⟨rfl, rfl⟩ (zk_dg_ok qdo_20_22 (by decide +kernel)), List.forall_mem_cons.mpr ⟨zg_callS (fun w h => List.mem_cons_of_mem _ h) zg_tb_all S hK zg_Km qm134 zw2_213 zy_yJ1_indexOfChar_4cfef_S (by decide +kernel) ⟨rfl, rfl⟩ (zk_dg_ok qdo_20_22 (by decide +kernel)), fun _ h => absurd h List.not_mem_nil⟩⟩⟩⟩⟩
set_option maxRecDepth 100000 in
theorem qm135 {l : Launch} {D : zk_D} {base : Nat} {Hb : Heap} : zk_Met l qK D base Hb (zg_K D base Hb) yJ1_indexOf_4cfef (Jvm.Cond.code yJ1_indexOf_4cfef prog_20_method_22_code 4 (some .int) :: zg_tb) qR135 qC135 := zk_met (ws' := zg_tb) (P := qP135) (AT := zg_AT) zpn_J1 rfl rfl rfl qk135 (fun s hK => zg_wd hK) (fun p e s m args below meth c s₁ Q B hml hK => qo135 B hml hK) (fun p e s m args below meth c s₁ v G0 H0 B hml hK ha hp hF q hq => absurd hq List.not_mem_nil)
set_option maxRecDepth 100000 in
def qR136 : Room := { frames := 3, cells := 0, slots := 0, locals := 68 }
set_option maxHeartbeats 4000000 in
set_option maxRecDepth 100000 in
theorem qo136 {p : Program} {l : Launch} {e : Env} {s : State} {m : MethodId} {args : Array Value} {below : List Frame} {meth : Method} {c : Code} {s₁ : State} {Q : State → Prop} {D : zk_D} {base : Nat} {Hb : Heap} (B : BodyLoose p l yJ0_indexOf_7cf53 (headSpec (Jvm.Cond.code yJ0_indexOf_7cf53 prog_19_method_80_code 3 (some .int) :: zg_tb) qR136) prog_19_method_80_code 3 (some .int) e s m args below meth c s₁) (hml : c.maxLocals = 3) (hK : zg_K D base Hb s) : zk_ok p l e (headSpec (Jvm.Cond.code yJ0_indexOf_7cf53 prog_19_method_80_code 3 (some .int) :: zg_tb) qR136).room s m args below meth c Q qK D base Hb 3 prog_19_method_80_code qP136 qC136.2.2.2.2 := by
  have S : CallFix p m c prog_19_method_80_code 3 s args (Jvm.Cond.code yJ0_indexOf_7cf53 prog_19_method_80_code 3 (some .int) :: zg_tb) RJ0 := ⟨B.exec, B.bytes, hml, findClass_of_methodNamed B.named, atoms_spec (ws := (Jvm.Cond.code yJ0_indexOf_7cf53 prog_19_method_80_code 3 (some .int) :: zg_tb)) B.pre⟩
  exact ⟨List.forall_mem_cons.mpr ⟨⟨zg_gokS S (hK.2.2.2.2.2.2.2.2.1 _ (List.mem_of_getElem? (i := 0) rfl)) (List.mem_cons_of_mem _ zw8_57), zg_pok4⟩, fun _ h => absurd h List.not_mem_nil⟩,
    fun _ h => absurd h List.not_mem_nil,
    fun _ h => absurd h List.not_mem_nil,
    fun _ h => absurd h List.not_mem_nil,
    fun h => absurd rfl h,
    fun _ h => absurd h List.not_mem_nil,
    List.forall_mem_cons.mpr ⟨zg_callV (fun w h => List.mem_cons_of_mem _ h) zg_tb_all S hK zg_Km qm128 zw2_196 zy_yJ0_isLatin1_aae02_V (ci := 13) (by decide +kernel) hK.2.2.2.2.2.2.2.1 ⟨rfl, rfl⟩ (zk_dg_ok qdo_19_80 (by decide +kernel)), List.forall_mem_cons.mpr ⟨zg_callV (fun w h => List.mem_cons_of_mem _ h) zg_tb_all S hK zg_Km qm130 zw2_200 zy_yJ0_length_8abf5_V (ci := 13) (by decide +kernel) hK.2.2.2.2.2.2.2.1 ⟨rfl, rfl⟩ (zk_dg_ok qdo_19_80 (by decide +kernel)), List.forall_mem_cons.mpr ⟨zg_callS (fun w h => List.mem_cons_of_mem _ h) zg_tb_all S hK zg_Km qm135 zw2_201 zy_yJ1_indexOf_4cfef_S (by decide +kernel) ⟨rfl, rfl⟩ (zk_dg_ok qdo_19_80 (by decide +kernel)), fun _ h => absurd h List.not_mem_nil⟩⟩⟩⟩
set_option maxRecDepth 100000 in
theorem qm136 {l : Launch} {D : zk_D} {base : Nat} {Hb : Heap} : zk_Met l qK D base Hb (zg_K D base Hb) yJ0_indexOf_7cf53 (Jvm.Cond.code yJ0_indexOf_7cf53 prog_19_method_80_code 3 (some .int) :: zg_tb) qR136 qC136 := zk_met (ws' := zg_tb) (P := qP136) (AT := zg_AT) zpn_J0 rfl rfl rfl qk136 (fun s hK => zg_wd hK) (fun p e s m args below meth c s₁ Q B hml hK => qo136 B hml hK) (fun p e s m args below meth c s₁ v G0 H0 B hml hK ha hp hF q hq => absurd hq List.not_mem_nil)
set_option maxRecDepth 100000 in
def qR137 : Room := { frames := 4, cells := 0, slots := 0, locals := 90 }
set_option maxHeartbeats 4000000 in
set_option maxRecDepth 100000 in
theorem qo137 {p : Program} {l : Launch} {e : Env} {s : State} {m : MethodId} {args : Array Value} {below : List Frame} {meth : Method} {c : Code} {s₁ : State} {Q : State → Prop} {D : zk_D} {base : Nat} {Hb : Heap} (B : BodyLoose p l yJ0_indexOf_0f7a4 (headSpec (Jvm.Cond.code yJ0_indexOf_0f7a4 prog_19_method_79_code 2 (some .int) :: zg_tb) qR137) prog_19_method_79_code 2 (some .int) e s m args below meth c s₁) (hml : c.maxLocals = 2) (hK : zg_K D base Hb s) : zk_ok p l e (headSpec (Jvm.Cond.code yJ0_indexOf_0f7a4 prog_19_method_79_code 2 (some .int) :: zg_tb) qR137).room s m args below meth c Q qK D base Hb 2 prog_19_method_79_code qP137 qC137.2.2.2.2 := by
  have S : CallFix p m c prog_19_method_79_code 2 s args (Jvm.Cond.code yJ0_indexOf_0f7a4 prog_19_method_79_code 2 (some .int) :: zg_tb) RJ0 := ⟨B.exec, B.bytes, hml, findClass_of_methodNamed B.named, atoms_spec (ws := (Jvm.Cond.code yJ0_indexOf_0f7a4 prog_19_method_79_code 2 (some .int) :: zg_tb)) B.pre⟩
  exact ⟨fun _ h => absurd h List.not_mem_nil,
    fun _ h => absurd h List.not_mem_nil,
    fun _ h => absurd h List.not_mem_nil,
    fun _ h => absurd h List.not_mem_nil,
    fun h => absurd rfl h,
    fun _ h => absurd h List.not_mem_nil,
    List.forall_mem_cons.mpr ⟨zg_callV (fun w h => List.mem_cons_of_mem _ h) zg_tb_all S hK zg_Km qm136 zw2_192 zy_yJ0_indexOf_7cf53_V (ci := 13) (by decide +kernel) hK.2.2.2.2.2.2.2.1 ⟨rfl, rfl⟩ (zk_dg_ok qdo_19_79 (by decide +kernel)), fun _ h => absurd h List.not_mem_nil⟩⟩
set_option maxRecDepth 100000 in
theorem qm137 {l : Launch} {D : zk_D} {base : Nat} {Hb : Heap} : zk_Met l qK D base Hb (zg_K D base Hb) yJ0_indexOf_0f7a4 (Jvm.Cond.code yJ0_indexOf_0f7a4 prog_19_method_79_code 2 (some .int) :: zg_tb) qR137 qC137 := zk_met (ws' := zg_tb) (P := qP137) (AT := zg_AT) zpn_J0 rfl rfl rfl qk137 (fun s hK => zg_wd hK) (fun p e s m args below meth c s₁ Q B hml hK => qo137 B hml hK) (fun p e s m args below meth c s₁ v G0 H0 B hml hK ha hp hF q hq => absurd hq List.not_mem_nil)
set_option maxRecDepth 100000 in
def qR138 : Room := { frames := 23, cells := 0, slots := 0, locals := 525 }
set_option maxHeartbeats 4000000 in
set_option maxRecDepth 100000 in
theorem qo138 {p : Program} {l : Launch} {e : Env} {s : State} {m : MethodId} {args : Array Value} {below : List Frame} {meth : Method} {c : Code} {s₁ : State} {Q : State → Prop} {D : zk_D} {base : Nat} {Hb : Heap} (B : BodyLoose p l yX6_readAtom (headSpec (Jvm.Cond.code yX6_readAtom prog_8_method_14_code 4 (some .boolean) :: zg_tb) qR138) prog_8_method_14_code 4 (some .boolean) e s m args below meth c s₁) (hml : c.maxLocals = 4) (hK : zg_K D base Hb s) : zk_ok p l e (headSpec (Jvm.Cond.code yX6_readAtom prog_8_method_14_code 4 (some .boolean) :: zg_tb) qR138).room s m args below meth c Q qK D base Hb 4 prog_8_method_14_code qP138 qC138.2.2.2.2 := by
  have S : CallFix p m c prog_8_method_14_code 4 s args (Jvm.Cond.code yX6_readAtom prog_8_method_14_code 4 (some .boolean) :: zg_tb) RX6 := ⟨B.exec, B.bytes, hml, findClass_of_methodNamed B.named, atoms_spec (ws := (Jvm.Cond.code yX6_readAtom prog_8_method_14_code 4 (some .boolean) :: zg_tb)) B.pre⟩
  exact ⟨List.forall_mem_cons.mpr ⟨zg_gp S (hK.2.1 6 _ rfl) (fun w h => (List.mem_cons_of_mem _ (zc6 w h))) rfl zt6_3 (List.mem_cons_of_mem _ zw1_119) rfl, fun _ h => absurd h List.not_mem_nil⟩,
    fun _ h => absurd h List.not_mem_nil,
    fun _ h => absurd h List.not_mem_nil,
    fun _ h => absurd h List.not_mem_nil,
    fun h => absurd rfl h,
    List.forall_mem_cons.mpr ⟨zg_kokS (k := 24) (tx := "wlsknauhrmyo") S (zg_sR2 hK) (by decide +kernel) (by decide) (zk_dg_ok qdo_8_14 (by decide +kernel)), fun _ h => absurd h List.not_mem_nil⟩,
    List.forall_mem_cons.mpr ⟨zg_callV (fun w h => List.mem_cons_of_mem _ h) zg_tb_all S hK zg_Km qm36 zw2_183 zy_yX6_ahead_V (ci := 6) (by decide +kernel) (hK.2.1 6 _ rfl).2.1 ⟨rfl, rfl⟩ (zk_dg_ok qdo_8_14 (by decide +kernel)), List.forall_mem_cons.mpr ⟨zg_callV (fun w h => List.mem_cons_of_mem _ h) zg_tb_all S hK zg_Km qm49 zw3_45 zy_yX6_readNumber_V (ci := 6) (by decide +kernel) (hK.2.1 6 _ rfl).2.1 ⟨rfl, rfl⟩ (zk_dg_ok qdo_8_14 (by decide +kernel)), List.forall_mem_cons.mpr ⟨zg_callV (fun w h => List.mem_cons_of_mem _ h) zg_tb_all S hK zg_Km qm127 zw3_33 zy_yX6_readSum_V (ci := 6) (by decide +kernel) (hK.2.1 6 _ rfl).2.1 ⟨rfl, rfl⟩ (zk_dg_ok qdo_8_14 (by decide +kernel)), List.forall_mem_cons.mpr ⟨zg_callV (fun w h => List.mem_cons_of_mem _ h) zg_tb_all S hK zg_Km qm48 zw3_29 zy_yX6_pass_V (ci := 6) (by decide +kernel) (hK.2.1 6 _ rfl).2.1 ⟨rfl, rfl⟩ (zk_dg_ok qdo_8_14 (by decide +kernel)), List.forall_mem_cons.mpr ⟨zg_callV (fun w h => List.mem_cons_of_mem _ h) zg_tb_all S hK zg_Km qm137 zw2_188 zy_yJ0_indexOf_0f7a4_V (ci := 13) (by decide +kernel) hK.2.2.2.2.2.2.2.1 ⟨rfl, rfl⟩ (zk_dg_ok qdo_8_14 (by decide +kernel)), List.forall_mem_cons.mpr ⟨zg_callV (fun w h => List.mem_cons_of_mem _ h) zg_tb_all S hK zg_Km qm47 zw3_25 zy_yX6_add_V (ci := 6) (by decide +kernel) (hK.2.1 6 _ rfl).2.1 ⟨rfl, rfl⟩ (zk_dg_ok qdo_8_14 (by decide +kernel)), fun _ h => absurd h List.not_mem_nil⟩⟩⟩⟩⟩⟩⟩
set_option maxRecDepth 100000 in
theorem qm138 {l : Launch} {D : zk_D} {base : Nat} {Hb : Heap} : zk_Met l qK D base Hb (zg_K D base Hb) yX6_readAtom (Jvm.Cond.code yX6_readAtom prog_8_method_14_code 4 (some .boolean) :: zg_tb) qR138 qC138 := zk_met (ws' := zg_tb) (P := qP138) (AT := zg_AT) zpn_X6 rfl rfl rfl qk138 (fun s hK => zg_wd hK) (fun p e s m args below meth c s₁ Q B hml hK => qo138 B hml hK) (fun p e s m args below meth c s₁ v G0 H0 B hml hK ha hp hF q hq => absurd hq List.not_mem_nil)
set_option maxRecDepth 100000 in
def qR139 : Room := { frames := 24, cells := 0, slots := 0, locals := 548 }
set_option maxHeartbeats 4000000 in
set_option maxRecDepth 100000 in
theorem qo139 {p : Program} {l : Launch} {e : Env} {s : State} {m : MethodId} {args : Array Value} {below : List Frame} {meth : Method} {c : Code} {s₁ : State} {Q : State → Prop} {D : zk_D} {base : Nat} {Hb : Heap} (B : BodyLoose p l yX6_readTerm (headSpec (Jvm.Cond.code yX6_readTerm prog_8_method_13_code 4 (some .boolean) :: zg_tb) qR139) prog_8_method_13_code 4 (some .boolean) e s m args below meth c s₁) (hml : c.maxLocals = 4) (hK : zg_K D base Hb s) : zk_ok p l e (headSpec (Jvm.Cond.code yX6_readTerm prog_8_method_13_code 4 (some .boolean) :: zg_tb) qR139).room s m args below meth c Q qK D base Hb 4 prog_8_method_13_code qP139 qC139.2.2.2.2 := by
  have S : CallFix p m c prog_8_method_13_code 4 s args (Jvm.Cond.code yX6_readTerm prog_8_method_13_code 4 (some .boolean) :: zg_tb) RX6 := ⟨B.exec, B.bytes, hml, findClass_of_methodNamed B.named, atoms_spec (ws := (Jvm.Cond.code yX6_readTerm prog_8_method_13_code 4 (some .boolean) :: zg_tb)) B.pre⟩
  exact ⟨List.forall_mem_cons.mpr ⟨zg_gp S (hK.2.1 6 _ rfl) (fun w h => (List.mem_cons_of_mem _ (zc6 w h))) rfl zt6_3 (List.mem_cons_of_mem _ zw1_119) rfl, fun _ h => absurd h List.not_mem_nil⟩,
    fun _ h => absurd h List.not_mem_nil,
    fun _ h => absurd h List.not_mem_nil,
    fun _ h => absurd h List.not_mem_nil,
    fun h => absurd rfl h,
    fun _ h => absurd h List.not_mem_nil,
    List.forall_mem_cons.mpr ⟨zg_callV (fun w h => List.mem_cons_of_mem _ h) zg_tb_all S hK zg_Km qm138 zw3_41 zy_yX6_readAtom_V (ci := 6) (by decide +kernel) (hK.2.1 6 _ rfl).2.1 ⟨rfl, rfl⟩ (zk_dg_ok qdo_8_13 (by decide +kernel)), List.forall_mem_cons.mpr ⟨zg_callV (fun w h => List.mem_cons_of_mem _ h) zg_tb_all S hK zg_Km qm36 zw2_183 zy_yX6_ahead_V (ci := 6) (by decide +kernel) (hK.2.1 6 _ rfl).2.1 ⟨rfl, rfl⟩ (zk_dg_ok qdo_8_13 (by decide +kernel)), List.forall_mem_cons.mpr ⟨zg_callV (fun w h => List.mem_cons_of_mem _ h) zg_tb_all S hK zg_Km qm138 zw3_41 zy_yX6_readAtom_V (ci := 6) (by decide +kernel) (hK.2.1 6 _ rfl).2.1 ⟨rfl, rfl⟩ (zk_dg_ok qdo_8_13 (by decide +kernel)), List.forall_mem_cons.mpr ⟨zg_callV (fun w h => List.mem_cons_of_mem _ h) zg_tb_all S hK zg_Km qm47 zw3_25 zy_yX6_add_V (ci := 6) (by decide +kernel) (hK.2.1 6 _ rfl).2.1 ⟨rfl, rfl⟩ (zk_dg_ok qdo_8_13 (by decide +kernel)), fun _ h => absurd h List.not_mem_nil⟩⟩⟩⟩⟩
set_option maxRecDepth 100000 in
theorem qm139 {l : Launch} {D : zk_D} {base : Nat} {Hb : Heap} : zk_Met l qK D base Hb (zg_K D base Hb) yX6_readTerm (Jvm.Cond.code yX6_readTerm prog_8_method_13_code 4 (some .boolean) :: zg_tb) qR139 qC139 := zk_met (ws' := zg_tb) (P := qP139) (AT := zg_AT) zpn_X6 rfl rfl rfl qk139 (fun s hK => zg_wd hK) (fun p e s m args below meth c s₁ Q B hml hK => qo139 B hml hK) (fun p e s m args below meth c s₁ v G0 H0 B hml hK ha hp hF q hq => absurd hq List.not_mem_nil)
set_option maxRecDepth 100000 in
def qR140 : Room := { frames := 25, cells := 0, slots := 0, locals := 571 }
set_option maxHeartbeats 4000000 in
set_option maxRecDepth 100000 in
theorem qo140 {p : Program} {l : Launch} {e : Env} {s : State} {m : MethodId} {args : Array Value} {below : List Frame} {meth : Method} {c : Code} {s₁ : State} {Q : State → Prop} {D : zk_D} {base : Nat} {Hb : Heap} (B : BodyLoose p l yX6_readSum (headSpec (Jvm.Cond.code yX6_readSum prog_8_method_12_code 4 (some .boolean) :: zg_tb) qR140) prog_8_method_12_code 4 (some .boolean) e s m args below meth c s₁) (hml : c.maxLocals = 4) (hK : zg_K D base Hb s) : zk_ok p l e (headSpec (Jvm.Cond.code yX6_readSum prog_8_method_12_code 4 (some .boolean) :: zg_tb) qR140).room s m args below meth c Q qK D base Hb 4 prog_8_method_12_code qP140 qC140.2.2.2.2 := by
  have S : CallFix p m c prog_8_method_12_code 4 s args (Jvm.Cond.code yX6_readSum prog_8_method_12_code 4 (some .boolean) :: zg_tb) RX6 := ⟨B.exec, B.bytes, hml, findClass_of_methodNamed B.named, atoms_spec (ws := (Jvm.Cond.code yX6_readSum prog_8_method_12_code 4 (some .boolean) :: zg_tb)) B.pre⟩
  exact ⟨List.forall_mem_cons.mpr ⟨zg_gp S (hK.2.1 6 _ rfl) (fun w h => (List.mem_cons_of_mem _ (zc6 w h))) rfl zt6_3 (List.mem_cons_of_mem _ zw1_119) rfl, fun _ h => absurd h List.not_mem_nil⟩,
    fun _ h => absurd h List.not_mem_nil,
    fun _ h => absurd h List.not_mem_nil,
    fun _ h => absurd h List.not_mem_nil,
    fun h => absurd rfl h,
    fun _ h => absurd h List.not_mem_nil,
    List.forall_mem_cons.mpr ⟨zg_callV (fun w h => List.mem_cons_of_mem _ h) zg_tb_all S hK zg_Km qm139 zw3_37 zy_yX6_readTerm_V (ci := 6) (by decide +kernel) (hK.2.1 6 _ rfl).2.1 ⟨rfl, rfl⟩ (zk_dg_ok qdo_8_12 (by decide +kernel)), List.forall_mem_cons.mpr ⟨zg_callV (fun w h => List.mem_cons_of_mem _ h) zg_tb_all S hK zg_Km qm36 zw2_183 zy_yX6_ahead_V (ci := 6) (by decide +kernel) (hK.2.1 6 _ rfl).2.1 ⟨rfl, rfl⟩ (zk_dg_ok qdo_8_12 (by decide +kernel)), List.forall_mem_cons.mpr ⟨zg_callV (fun w h => List.mem_cons_of_mem _ h) zg_tb_all S hK zg_Km qm139 zw3_37 zy_yX6_readTerm_V (ci := 6) (by decide +kernel) (hK.2.1 6 _ rfl).2.1 ⟨rfl, rfl⟩ (zk_dg_ok qdo_8_12 (by decide +kernel)), List.forall_mem_cons.mpr ⟨zg_callV (fun w h => List.mem_cons_of_mem _ h) zg_tb_all S hK zg_Km qm47 zw3_25 zy_yX6_add_V (ci := 6) (by decide +kernel) (hK.2.1 6 _ rfl).2.1 ⟨rfl, rfl⟩ (zk_dg_ok qdo_8_12 (by decide +kernel)), fun _ h => absurd h List.not_mem_nil⟩⟩⟩⟩⟩
set_option maxRecDepth 100000 in
theorem qm140 {l : Launch} {D : zk_D} {base : Nat} {Hb : Heap} : zk_Met l qK D base Hb (zg_K D base Hb) yX6_readSum (Jvm.Cond.code yX6_readSum prog_8_method_12_code 4 (some .boolean) :: zg_tb) qR140 qC140 := zk_met (ws' := zg_tb) (P := qP140) (AT := zg_AT) zpn_X6 rfl rfl rfl qk140 (fun s hK => zg_wd hK) (fun p e s m args below meth c s₁ Q B hml hK => qo140 B hml hK) (fun p e s m args below meth c s₁ v G0 H0 B hml hK ha hp hF q hq => absurd hq List.not_mem_nil)
set_option maxRecDepth 100000 in
def qR141 : Room := { frames := 1, cells := 0, slots := 0, locals := 20 }
set_option maxHeartbeats 4000000 in
set_option maxRecDepth 100000 in
theorem qo141 {p : Program} {l : Launch} {e : Env} {s : State} {m : MethodId} {args : Array Value} {below : List Frame} {meth : Method} {c : Code} {s₁ : State} {Q : State → Prop} {D : zk_D} {base : Nat} {Hb : Heap} (B : BodyLoose p l yX6_isComparison (headSpec (Jvm.Cond.code yX6_isComparison prog_8_method_8_code 1 (some .boolean) :: zg_tb) qR141) prog_8_method_8_code 1 (some .boolean) e s m args below meth c s₁) (hml : c.maxLocals = 1) (hK : zg_K D base Hb s) : zk_ok p l e (headSpec (Jvm.Cond.code yX6_isComparison prog_8_method_8_code 1 (some .boolean) :: zg_tb) qR141).room s m args below meth c Q qK D base Hb 1 prog_8_method_8_code qP141 qC141.2.2.2.2 := by
  have S : CallFix p m c prog_8_method_8_code 1 s args (Jvm.Cond.code yX6_isComparison prog_8_method_8_code 1 (some .boolean) :: zg_tb) RX6 := ⟨B.exec, B.bytes, hml, findClass_of_methodNamed B.named, atoms_spec (ws := (Jvm.Cond.code yX6_isComparison prog_8_method_8_code 1 (some .boolean) :: zg_tb)) B.pre⟩
  exact ⟨fun _ h => absurd h List.not_mem_nil,
    fun _ h => absurd h List.not_mem_nil,
    fun _ h => absurd h List.not_mem_nil,
    fun _ h => absurd h List.not_mem_nil,
    fun h => absurd rfl h,
    fun _ h => absurd h List.not_mem_nil,
    fun _ h => absurd h List.not_mem_nil⟩
set_option maxRecDepth 100000 in
theorem qm141 {l : Launch} {D : zk_D} {base : Nat} {Hb : Heap} : zk_Met l qK D base Hb (zg_K D base Hb) yX6_isComparison (Jvm.Cond.code yX6_isComparison prog_8_method_8_code 1 (some .boolean) :: zg_tb) qR141 qC141 := zk_met (ws' := zg_tb) (P := qP141) (AT := zg_AT) zpn_X6 rfl rfl rfl qk141 (fun s hK => zg_wd hK) (fun p e s m args below meth c s₁ Q B hml hK => qo141 B hml hK) (fun p e s m args below meth c s₁ v G0 H0 B hml hK ha hp hF q hq => absurd hq List.not_mem_nil)
set_option maxRecDepth 100000 in
def qR142 : Room := { frames := 8, cells := 0, slots := 0, locals := 180 }
set_option maxHeartbeats 4000000 in
set_option maxRecDepth 100000 in
theorem qo142 {p : Program} {l : Launch} {e : Env} {s : State} {m : MethodId} {args : Array Value} {below : List Frame} {meth : Method} {c : Code} {s₁ : State} {Q : State → Prop} {D : zk_D} {base : Nat} {Hb : Heap} (B : BodyLoose p l yX6_readUnit (headSpec (Jvm.Cond.code yX6_readUnit prog_8_method_11_code 5 (some .boolean) :: zg_tb) qR142) prog_8_method_11_code 5 (some .boolean) e s m args below meth c s₁) (hml : c.maxLocals = 5) (hK : zg_K D base Hb s) : zk_ok p l e (headSpec (Jvm.Cond.code yX6_readUnit prog_8_method_11_code 5 (some .boolean) :: zg_tb) qR142).room s m args below meth c Q qK D base Hb 5 prog_8_method_11_code qP142 qC142.2.2.2.2 := by
  have S : CallFix p m c prog_8_method_11_code 5 s args (Jvm.Cond.code yX6_readUnit prog_8_method_11_code 5 (some .boolean) :: zg_tb) RX6 := ⟨B.exec, B.bytes, hml, findClass_of_methodNamed B.named, atoms_spec (ws := (Jvm.Cond.code yX6_readUnit prog_8_method_11_code 5 (some .boolean) :: zg_tb)) B.pre⟩
  exact ⟨List.forall_mem_cons.mpr ⟨zg_gp S (hK.2.1 6 _ rfl) (fun w h => (List.mem_cons_of_mem _ (zc6 w h))) rfl zt6_3 (List.mem_cons_of_mem _ zw1_119) rfl, fun _ h => absurd h List.not_mem_nil⟩,
    fun _ h => absurd h List.not_mem_nil,
    fun _ h => absurd h List.not_mem_nil,
    fun _ h => absurd h List.not_mem_nil,
    fun h => absurd rfl h,
    fun _ h => absurd h List.not_mem_nil,
    List.forall_mem_cons.mpr ⟨zg_callV (fun w h => List.mem_cons_of_mem _ h) zg_tb_all S hK zg_Km qm36 zw2_183 zy_yX6_ahead_V (ci := 6) (by decide +kernel) (hK.2.1 6 _ rfl).2.1 ⟨rfl, rfl⟩ (zk_dg_ok qdo_8_11 (by decide +kernel)), List.forall_mem_cons.mpr ⟨zg_callV (fun w h => List.mem_cons_of_mem _ h) zg_tb_all S hK zg_Km qm62 zw3_33 zy_yX6_readSum_V (ci := 6) (by decide +kernel) (hK.2.1 6 _ rfl).2.1 ⟨rfl, rfl⟩ (zk_dg_ok qdo_8_11 (by decide +kernel)), List.forall_mem_cons.mpr ⟨zg_callV (fun w h => List.mem_cons_of_mem _ h) zg_tb_all S hK zg_Km qm36 zw2_183 zy_yX6_ahead_V (ci := 6) (by decide +kernel) (hK.2.1 6 _ rfl).2.1 ⟨rfl, rfl⟩ (zk_dg_ok qdo_8_11 (by decide +kernel)), List.forall_mem_cons.mpr ⟨zg_callS (fun w h => List.mem_cons_of_mem _ h) zg_tb_all S hK zg_Km qm141 zw3_50 zy_yX6_isComparison_S (by decide +kernel) ⟨rfl, rfl⟩ (zk_dg_ok qdo_8_11 (by decide +kernel)), List.forall_mem_cons.mpr ⟨zg_callV (fun w h => List.mem_cons_of_mem _ h) zg_tb_all S hK zg_Km qm62 zw3_33 zy_yX6_readSum_V (ci := 6) (by decide +kernel) (hK.2.1 6 _ rfl).2.1 ⟨rfl, rfl⟩ (zk_dg_ok qdo_8_11 (by decide +kernel)), List.forall_mem_cons.mpr ⟨zg_callV (fun w h => List.mem_cons_of_mem _ h) zg_tb_all S hK zg_Km qm47 zw3_25 zy_yX6_add_V (ci := 6) (by decide +kernel) (hK.2.1 6 _ rfl).2.1 ⟨rfl, rfl⟩ (zk_dg_ok qdo_8_11 (by decide +kernel)), fun _ h => absurd h List.not_mem_nil⟩⟩⟩⟩⟩⟩⟩
set_option maxRecDepth 100000 in
theorem qm142 {l : Launch} {D : zk_D} {base : Nat} {Hb : Heap} : zk_Met l qK D base Hb (zg_K D base Hb) yX6_readUnit (Jvm.Cond.code yX6_readUnit prog_8_method_11_code 5 (some .boolean) :: zg_tb) qR142 qC142 := zk_met (ws' := zg_tb) (P := qP142) (AT := zg_AT) zpn_X6 rfl rfl rfl qk142 (fun s hK => zg_wd hK) (fun p e s m args below meth c s₁ Q B hml hK => qo142 B hml hK) (fun p e s m args below meth c s₁ v G0 H0 B hml hK ha hp hF q hq => absurd hq List.not_mem_nil)
set_option maxRecDepth 100000 in
def qR143 : Room := { frames := 9, cells := 0, slots := 0, locals := 204 }
set_option maxHeartbeats 4000000 in
set_option maxRecDepth 100000 in
theorem qo143 {p : Program} {l : Launch} {e : Env} {s : State} {m : MethodId} {args : Array Value} {below : List Frame} {meth : Method} {c : Code} {s₁ : State} {Q : State → Prop} {D : zk_D} {base : Nat} {Hb : Heap} (B : BodyLoose p l yX6_readTruths (headSpec (Jvm.Cond.code yX6_readTruths prog_8_method_10_code 4 (some .boolean) :: zg_tb) qR143) prog_8_method_10_code 4 (some .boolean) e s m args below meth c s₁) (hml : c.maxLocals = 4) (hK : zg_K D base Hb s) : zk_ok p l e (headSpec (Jvm.Cond.code yX6_readTruths prog_8_method_10_code 4 (some .boolean) :: zg_tb) qR143).room s m args below meth c Q qK D base Hb 4 prog_8_method_10_code qP143 qC143.2.2.2.2 := by
  have S : CallFix p m c prog_8_method_10_code 4 s args (Jvm.Cond.code yX6_readTruths prog_8_method_10_code 4 (some .boolean) :: zg_tb) RX6 := ⟨B.exec, B.bytes, hml, findClass_of_methodNamed B.named, atoms_spec (ws := (Jvm.Cond.code yX6_readTruths prog_8_method_10_code 4 (some .boolean) :: zg_tb)) B.pre⟩
  exact ⟨fun _ h => absurd h List.not_mem_nil,
    fun _ h => absurd h List.not_mem_nil,
    fun _ h => absurd h List.not_mem_nil,
    fun _ h => absurd h List.not_mem_nil,
    fun h => absurd rfl h,
    fun _ h => absurd h List.not_mem_nil,
    List.forall_mem_cons.mpr ⟨zg_callV (fun w h => List.mem_cons_of_mem _ h) zg_tb_all S hK zg_Km qm142 zw3_61 zy_yX6_readUnit_V (ci := 6) (by decide +kernel) (hK.2.1 6 _ rfl).2.1 ⟨rfl, rfl⟩ (zk_dg_ok qdo_8_10 (by decide +kernel)), List.forall_mem_cons.mpr ⟨zg_callV (fun w h => List.mem_cons_of_mem _ h) zg_tb_all S hK zg_Km qm48 zw3_29 zy_yX6_pass_V (ci := 6) (by decide +kernel) (hK.2.1 6 _ rfl).2.1 ⟨rfl, rfl⟩ (zk_dg_ok qdo_8_10 (by decide +kernel)), List.forall_mem_cons.mpr ⟨zg_callV (fun w h => List.mem_cons_of_mem _ h) zg_tb_all S hK zg_Km qm142 zw3_61 zy_yX6_readUnit_V (ci := 6) (by decide +kernel) (hK.2.1 6 _ rfl).2.1 ⟨rfl, rfl⟩ (zk_dg_ok qdo_8_10 (by decide +kernel)), List.forall_mem_cons.mpr ⟨zg_callV (fun w h => List.mem_cons_of_mem _ h) zg_tb_all S hK zg_Km qm47 zw3_25 zy_yX6_add_V (ci := 6) (by decide +kernel) (hK.2.1 6 _ rfl).2.1 ⟨rfl, rfl⟩ (zk_dg_ok qdo_8_10 (by decide +kernel)), fun _ h => absurd h List.not_mem_nil⟩⟩⟩⟩⟩
set_option maxRecDepth 100000 in
theorem qm143 {l : Launch} {D : zk_D} {base : Nat} {Hb : Heap} : zk_Met l qK D base Hb (zg_K D base Hb) yX6_readTruths (Jvm.Cond.code yX6_readTruths prog_8_method_10_code 4 (some .boolean) :: zg_tb) qR143 qC143 := zk_met (ws' := zg_tb) (P := qP143) (AT := zg_AT) zpn_X6 rfl rfl rfl qk143 (fun s hK => zg_wd hK) (fun p e s m args below meth c s₁ Q B hml hK => qo143 B hml hK) (fun p e s m args below meth c s₁ v G0 H0 B hml hK ha hp hF q hq => absurd hq List.not_mem_nil)
set_option maxRecDepth 100000 in
def qR144 : Room := { frames := 10, cells := 0, slots := 0, locals := 227 }
set_option maxHeartbeats 4000000 in
set_option maxRecDepth 100000 in
theorem qo144 {p : Program} {l : Launch} {e : Env} {s : State} {m : MethodId} {args : Array Value} {below : List Frame} {meth : Method} {c : Code} {s₁ : State} {Q : State → Prop} {D : zk_D} {base : Nat} {Hb : Heap} (B : BodyLoose p l yX6_readCondition (headSpec (Jvm.Cond.code yX6_readCondition prog_8_method_9_code 4 (some .boolean) :: zg_tb) qR144) prog_8_method_9_code 4 (some .boolean) e s m args below meth c s₁) (hml : c.maxLocals = 4) (hK : zg_K D base Hb s) : zk_ok p l e (headSpec (Jvm.Cond.code yX6_readCondition prog_8_method_9_code 4 (some .boolean) :: zg_tb) qR144).room s m args below meth c Q qK D base Hb 4 prog_8_method_9_code qP144 qC144.2.2.2.2 := by
  have S : CallFix p m c prog_8_method_9_code 4 s args (Jvm.Cond.code yX6_readCondition prog_8_method_9_code 4 (some .boolean) :: zg_tb) RX6 := ⟨B.exec, B.bytes, hml, findClass_of_methodNamed B.named, atoms_spec (ws := (Jvm.Cond.code yX6_readCondition prog_8_method_9_code 4 (some .boolean) :: zg_tb)) B.pre⟩
  exact ⟨fun _ h => absurd h List.not_mem_nil,
    fun _ h => absurd h List.not_mem_nil,
    fun _ h => absurd h List.not_mem_nil,
    fun _ h => absurd h List.not_mem_nil,
    fun h => absurd rfl h,
    fun _ h => absurd h List.not_mem_nil,
    List.forall_mem_cons.mpr ⟨zg_callV (fun w h => List.mem_cons_of_mem _ h) zg_tb_all S hK zg_Km qm143 zw3_57 zy_yX6_readTruths_V (ci := 6) (by decide +kernel) (hK.2.1 6 _ rfl).2.1 ⟨rfl, rfl⟩ (zk_dg_ok qdo_8_9 (by decide +kernel)), List.forall_mem_cons.mpr ⟨zg_callV (fun w h => List.mem_cons_of_mem _ h) zg_tb_all S hK zg_Km qm48 zw3_29 zy_yX6_pass_V (ci := 6) (by decide +kernel) (hK.2.1 6 _ rfl).2.1 ⟨rfl, rfl⟩ (zk_dg_ok qdo_8_9 (by decide +kernel)), List.forall_mem_cons.mpr ⟨zg_callV (fun w h => List.mem_cons_of_mem _ h) zg_tb_all S hK zg_Km qm143 zw3_57 zy_yX6_readTruths_V (ci := 6) (by decide +kernel) (hK.2.1 6 _ rfl).2.1 ⟨rfl, rfl⟩ (zk_dg_ok qdo_8_9 (by decide +kernel)), List.forall_mem_cons.mpr ⟨zg_callV (fun w h => List.mem_cons_of_mem _ h) zg_tb_all S hK zg_Km qm47 zw3_25 zy_yX6_add_V (ci := 6) (by decide +kernel) (hK.2.1 6 _ rfl).2.1 ⟨rfl, rfl⟩ (zk_dg_ok qdo_8_9 (by decide +kernel)), fun _ h => absurd h List.not_mem_nil⟩⟩⟩⟩⟩
set_option maxRecDepth 100000 in
theorem qm144 {l : Launch} {D : zk_D} {base : Nat} {Hb : Heap} : zk_Met l qK D base Hb (zg_K D base Hb) yX6_readCondition (Jvm.Cond.code yX6_readCondition prog_8_method_9_code 4 (some .boolean) :: zg_tb) qR144 qC144 := zk_met (ws' := zg_tb) (P := qP144) (AT := zg_AT) zpn_X6 rfl rfl rfl qk144 (fun s hK => zg_wd hK) (fun p e s m args below meth c s₁ Q B hml hK => qo144 B hml hK) (fun p e s m args below meth c s₁ v G0 H0 B hml hK ha hp hF q hq => absurd hq List.not_mem_nil)
set_option maxRecDepth 100000 in
def qR145 : Room := { frames := 11, cells := 0, slots := 0, locals := 250 }
set_option maxHeartbeats 4000000 in
set_option maxRecDepth 100000 in
theorem qo145 {p : Program} {l : Launch} {e : Env} {s : State} {m : MethodId} {args : Array Value} {below : List Frame} {meth : Method} {c : Code} {s₁ : State} {Q : State → Prop} {D : zk_D} {base : Nat} {Hb : Heap} (B : BodyLoose p l yX6_readUnit (headSpec (Jvm.Cond.code yX6_readUnit prog_8_method_11_code 5 (some .boolean) :: zg_tb) qR145) prog_8_method_11_code 5 (some .boolean) e s m args below meth c s₁) (hml : c.maxLocals = 5) (hK : zg_K D base Hb s) : zk_ok p l e (headSpec (Jvm.Cond.code yX6_readUnit prog_8_method_11_code 5 (some .boolean) :: zg_tb) qR145).room s m args below meth c Q qK D base Hb 5 prog_8_method_11_code qP145 qC145.2.2.2.2 := by
  have S : CallFix p m c prog_8_method_11_code 5 s args (Jvm.Cond.code yX6_readUnit prog_8_method_11_code 5 (some .boolean) :: zg_tb) RX6 := ⟨B.exec, B.bytes, hml, findClass_of_methodNamed B.named, atoms_spec (ws := (Jvm.Cond.code yX6_readUnit prog_8_method_11_code 5 (some .boolean) :: zg_tb)) B.pre⟩
  exact ⟨List.forall_mem_cons.mpr ⟨zg_gp S (hK.2.1 6 _ rfl) (fun w h => (List.mem_cons_of_mem _ (zc6 w h))) rfl zt6_3 (List.mem_cons_of_mem _ zw1_119) rfl, fun _ h => absurd h List.not_mem_nil⟩,
    fun _ h => absurd h List.not_mem_nil,
    fun _ h => absurd h List.not_mem_nil,
    fun _ h => absurd h List.not_mem_nil,
    fun h => absurd rfl h,
    fun _ h => absurd h List.not_mem_nil,
    List.forall_mem_cons.mpr ⟨zg_callV (fun w h => List.mem_cons_of_mem _ h) zg_tb_all S hK zg_Km qm36 zw2_183 zy_yX6_ahead_V (ci := 6) (by decide +kernel) (hK.2.1 6 _ rfl).2.1 ⟨rfl, rfl⟩ (zk_dg_ok qdo_8_11 (by decide +kernel)), List.forall_mem_cons.mpr ⟨zg_callV (fun w h => List.mem_cons_of_mem _ h) zg_tb_all S hK zg_Km qm144 zw3_53 zy_yX6_readCondition_V (ci := 6) (by decide +kernel) (hK.2.1 6 _ rfl).2.1 ⟨rfl, rfl⟩ (zk_dg_ok qdo_8_11 (by decide +kernel)), List.forall_mem_cons.mpr ⟨zg_callV (fun w h => List.mem_cons_of_mem _ h) zg_tb_all S hK zg_Km qm48 zw3_29 zy_yX6_pass_V (ci := 6) (by decide +kernel) (hK.2.1 6 _ rfl).2.1 ⟨rfl, rfl⟩ (zk_dg_ok qdo_8_11 (by decide +kernel)), List.forall_mem_cons.mpr ⟨zg_callV (fun w h => List.mem_cons_of_mem _ h) zg_tb_all S hK zg_Km qm142 zw3_61 zy_yX6_readUnit_V (ci := 6) (by decide +kernel) (hK.2.1 6 _ rfl).2.1 ⟨rfl, rfl⟩ (zk_dg_ok qdo_8_11 (by decide +kernel)), List.forall_mem_cons.mpr ⟨zg_callV (fun w h => List.mem_cons_of_mem _ h) zg_tb_all S hK zg_Km qm47 zw3_25 zy_yX6_add_V (ci := 6) (by decide +kernel) (hK.2.1 6 _ rfl).2.1 ⟨rfl, rfl⟩ (zk_dg_ok qdo_8_11 (by decide +kernel)), List.forall_mem_cons.mpr ⟨zg_callV (fun w h => List.mem_cons_of_mem _ h) zg_tb_all S hK zg_Km qm75 zw3_33 zy_yX6_readSum_V (ci := 6) (by decide +kernel) (hK.2.1 6 _ rfl).2.1 ⟨rfl, rfl⟩ (zk_dg_ok qdo_8_11 (by decide +kernel)), List.forall_mem_cons.mpr ⟨zg_callV (fun w h => List.mem_cons_of_mem _ h) zg_tb_all S hK zg_Km qm36 zw2_183 zy_yX6_ahead_V (ci := 6) (by decide +kernel) (hK.2.1 6 _ rfl).2.1 ⟨rfl, rfl⟩ (zk_dg_ok qdo_8_11 (by decide +kernel)), List.forall_mem_cons.mpr ⟨zg_callS (fun w h => List.mem_cons_of_mem _ h) zg_tb_all S hK zg_Km qm141 zw3_50 zy_yX6_isComparison_S (by decide +kernel) ⟨rfl, rfl⟩ (zk_dg_ok qdo_8_11 (by decide +kernel)), List.forall_mem_cons.mpr ⟨zg_callV (fun w h => List.mem_cons_of_mem _ h) zg_tb_all S hK zg_Km qm75 zw3_33 zy_yX6_readSum_V (ci := 6) (by decide +kernel) (hK.2.1 6 _ rfl).2.1 ⟨rfl, rfl⟩ (zk_dg_ok qdo_8_11 (by decide +kernel)), List.forall_mem_cons.mpr ⟨zg_callV (fun w h => List.mem_cons_of_mem _ h) zg_tb_all S hK zg_Km qm47 zw3_25 zy_yX6_add_V (ci := 6) (by decide +kernel) (hK.2.1 6 _ rfl).2.1 ⟨rfl, rfl⟩ (zk_dg_ok qdo_8_11 (by decide +kernel)), fun _ h => absurd h List.not_mem_nil⟩⟩⟩⟩⟩⟩⟩⟩⟩⟩⟩
set_option maxRecDepth 100000 in
theorem qm145 {l : Launch} {D : zk_D} {base : Nat} {Hb : Heap} : zk_Met l qK D base Hb (zg_K D base Hb) yX6_readUnit (Jvm.Cond.code yX6_readUnit prog_8_method_11_code 5 (some .boolean) :: zg_tb) qR145 qC145 := zk_met (ws' := zg_tb) (P := qP145) (AT := zg_AT) zpn_X6 rfl rfl rfl qk145 (fun s hK => zg_wd hK) (fun p e s m args below meth c s₁ Q B hml hK => qo145 B hml hK) (fun p e s m args below meth c s₁ v G0 H0 B hml hK ha hp hF q hq => absurd hq List.not_mem_nil)
set_option maxRecDepth 100000 in
def qR146 : Room := { frames := 12, cells := 0, slots := 0, locals := 274 }
set_option maxHeartbeats 4000000 in
set_option maxRecDepth 100000 in
theorem qo146 {p : Program} {l : Launch} {e : Env} {s : State} {m : MethodId} {args : Array Value} {below : List Frame} {meth : Method} {c : Code} {s₁ : State} {Q : State → Prop} {D : zk_D} {base : Nat} {Hb : Heap} (B : BodyLoose p l yX6_readTruths (headSpec (Jvm.Cond.code yX6_readTruths prog_8_method_10_code 4 (some .boolean) :: zg_tb) qR146) prog_8_method_10_code 4 (some .boolean) e s m args below meth c s₁) (hml : c.maxLocals = 4) (hK : zg_K D base Hb s) : zk_ok p l e (headSpec (Jvm.Cond.code yX6_readTruths prog_8_method_10_code 4 (some .boolean) :: zg_tb) qR146).room s m args below meth c Q qK D base Hb 4 prog_8_method_10_code qP146 qC146.2.2.2.2 := by
  have S : CallFix p m c prog_8_method_10_code 4 s args (Jvm.Cond.code yX6_readTruths prog_8_method_10_code 4 (some .boolean) :: zg_tb) RX6 := ⟨B.exec, B.bytes, hml, findClass_of_methodNamed B.named, atoms_spec (ws := (Jvm.Cond.code yX6_readTruths prog_8_method_10_code 4 (some .boolean) :: zg_tb)) B.pre⟩
  exact ⟨fun _ h => absurd h List.not_mem_nil,
    fun _ h => absurd h List.not_mem_nil,
    fun _ h => absurd h List.not_mem_nil,
    fun _ h => absurd h List.not_mem_nil,
    fun h => absurd rfl h,
    fun _ h => absurd h List.not_mem_nil,
    List.forall_mem_cons.mpr ⟨zg_callV (fun w h => List.mem_cons_of_mem _ h) zg_tb_all S hK zg_Km qm145 zw3_61 zy_yX6_readUnit_V (ci := 6) (by decide +kernel) (hK.2.1 6 _ rfl).2.1 ⟨rfl, rfl⟩ (zk_dg_ok qdo_8_10 (by decide +kernel)), List.forall_mem_cons.mpr ⟨zg_callV (fun w h => List.mem_cons_of_mem _ h) zg_tb_all S hK zg_Km qm48 zw3_29 zy_yX6_pass_V (ci := 6) (by decide +kernel) (hK.2.1 6 _ rfl).2.1 ⟨rfl, rfl⟩ (zk_dg_ok qdo_8_10 (by decide +kernel)), List.forall_mem_cons.mpr ⟨zg_callV (fun w h => List.mem_cons_of_mem _ h) zg_tb_all S hK zg_Km qm145 zw3_61 zy_yX6_readUnit_V (ci := 6) (by decide +kernel) (hK.2.1 6 _ rfl).2.1 ⟨rfl, rfl⟩ (zk_dg_ok qdo_8_10 (by decide +kernel)), List.forall_mem_cons.mpr ⟨zg_callV (fun w h => List.mem_cons_of_mem _ h) zg_tb_all S hK zg_Km qm47 zw3_25 zy_yX6_add_V (ci := 6) (by decide +kernel) (hK.2.1 6 _ rfl).2.1 ⟨rfl, rfl⟩ (zk_dg_ok qdo_8_10 (by decide +kernel)), fun _ h => absurd h List.not_mem_nil⟩⟩⟩⟩⟩
set_option maxRecDepth 100000 in
theorem qm146 {l : Launch} {D : zk_D} {base : Nat} {Hb : Heap} : zk_Met l qK D base Hb (zg_K D base Hb) yX6_readTruths (Jvm.Cond.code yX6_readTruths prog_8_method_10_code 4 (some .boolean) :: zg_tb) qR146 qC146 := zk_met (ws' := zg_tb) (P := qP146) (AT := zg_AT) zpn_X6 rfl rfl rfl qk146 (fun s hK => zg_wd hK) (fun p e s m args below meth c s₁ Q B hml hK => qo146 B hml hK) (fun p e s m args below meth c s₁ v G0 H0 B hml hK ha hp hF q hq => absurd hq List.not_mem_nil)
set_option maxRecDepth 100000 in
def qR147 : Room := { frames := 13, cells := 0, slots := 0, locals := 297 }
set_option maxHeartbeats 4000000 in
set_option maxRecDepth 100000 in
theorem qo147 {p : Program} {l : Launch} {e : Env} {s : State} {m : MethodId} {args : Array Value} {below : List Frame} {meth : Method} {c : Code} {s₁ : State} {Q : State → Prop} {D : zk_D} {base : Nat} {Hb : Heap} (B : BodyLoose p l yX6_readCondition (headSpec (Jvm.Cond.code yX6_readCondition prog_8_method_9_code 4 (some .boolean) :: zg_tb) qR147) prog_8_method_9_code 4 (some .boolean) e s m args below meth c s₁) (hml : c.maxLocals = 4) (hK : zg_K D base Hb s) : zk_ok p l e (headSpec (Jvm.Cond.code yX6_readCondition prog_8_method_9_code 4 (some .boolean) :: zg_tb) qR147).room s m args below meth c Q qK D base Hb 4 prog_8_method_9_code qP147 qC147.2.2.2.2 := by
  have S : CallFix p m c prog_8_method_9_code 4 s args (Jvm.Cond.code yX6_readCondition prog_8_method_9_code 4 (some .boolean) :: zg_tb) RX6 := ⟨B.exec, B.bytes, hml, findClass_of_methodNamed B.named, atoms_spec (ws := (Jvm.Cond.code yX6_readCondition prog_8_method_9_code 4 (some .boolean) :: zg_tb)) B.pre⟩
  exact ⟨fun _ h => absurd h List.not_mem_nil,
    fun _ h => absurd h List.not_mem_nil,
    fun _ h => absurd h List.not_mem_nil,
    fun _ h => absurd h List.not_mem_nil,
    fun h => absurd rfl h,
    fun _ h => absurd h List.not_mem_nil,
    List.forall_mem_cons.mpr ⟨zg_callV (fun w h => List.mem_cons_of_mem _ h) zg_tb_all S hK zg_Km qm146 zw3_57 zy_yX6_readTruths_V (ci := 6) (by decide +kernel) (hK.2.1 6 _ rfl).2.1 ⟨rfl, rfl⟩ (zk_dg_ok qdo_8_9 (by decide +kernel)), List.forall_mem_cons.mpr ⟨zg_callV (fun w h => List.mem_cons_of_mem _ h) zg_tb_all S hK zg_Km qm48 zw3_29 zy_yX6_pass_V (ci := 6) (by decide +kernel) (hK.2.1 6 _ rfl).2.1 ⟨rfl, rfl⟩ (zk_dg_ok qdo_8_9 (by decide +kernel)), List.forall_mem_cons.mpr ⟨zg_callV (fun w h => List.mem_cons_of_mem _ h) zg_tb_all S hK zg_Km qm146 zw3_57 zy_yX6_readTruths_V (ci := 6) (by decide +kernel) (hK.2.1 6 _ rfl).2.1 ⟨rfl, rfl⟩ (zk_dg_ok qdo_8_9 (by decide +kernel)), List.forall_mem_cons.mpr ⟨zg_callV (fun w h => List.mem_cons_of_mem _ h) zg_tb_all S hK zg_Km qm47 zw3_25 zy_yX6_add_V (ci := 6) (by decide +kernel) (hK.2.1 6 _ rfl).2.1 ⟨rfl, rfl⟩ (zk_dg_ok qdo_8_9 (by decide +kernel)), fun _ h => absurd h List.not_mem_nil⟩⟩⟩⟩⟩
set_option maxRecDepth 100000 in
theorem qm147 {l : Launch} {D : zk_D} {base : Nat} {Hb : Heap} : zk_Met l qK D base Hb (zg_K D base Hb) yX6_readCondition (Jvm.Cond.code yX6_readCondition prog_8_method_9_code 4 (some .boolean) :: zg_tb) qR147 qC147 := zk_met (ws' := zg_tb) (P := qP147) (AT := zg_AT) zpn_X6 rfl rfl rfl qk147 (fun s hK => zg_wd hK) (fun p e s m args below meth c s₁ Q B hml hK => qo147 B hml hK) (fun p e s m args below meth c s₁ v G0 H0 B hml hK ha hp hF q hq => absurd hq List.not_mem_nil)
set_option maxRecDepth 100000 in
def qR148 : Room := { frames := 14, cells := 0, slots := 0, locals := 320 }
set_option maxHeartbeats 4000000 in
set_option maxRecDepth 100000 in
theorem qo148 {p : Program} {l : Launch} {e : Env} {s : State} {m : MethodId} {args : Array Value} {below : List Frame} {meth : Method} {c : Code} {s₁ : State} {Q : State → Prop} {D : zk_D} {base : Nat} {Hb : Heap} (B : BodyLoose p l yX6_readUnit (headSpec (Jvm.Cond.code yX6_readUnit prog_8_method_11_code 5 (some .boolean) :: zg_tb) qR148) prog_8_method_11_code 5 (some .boolean) e s m args below meth c s₁) (hml : c.maxLocals = 5) (hK : zg_K D base Hb s) : zk_ok p l e (headSpec (Jvm.Cond.code yX6_readUnit prog_8_method_11_code 5 (some .boolean) :: zg_tb) qR148).room s m args below meth c Q qK D base Hb 5 prog_8_method_11_code qP148 qC148.2.2.2.2 := by
  have S : CallFix p m c prog_8_method_11_code 5 s args (Jvm.Cond.code yX6_readUnit prog_8_method_11_code 5 (some .boolean) :: zg_tb) RX6 := ⟨B.exec, B.bytes, hml, findClass_of_methodNamed B.named, atoms_spec (ws := (Jvm.Cond.code yX6_readUnit prog_8_method_11_code 5 (some .boolean) :: zg_tb)) B.pre⟩
  exact ⟨List.forall_mem_cons.mpr ⟨zg_gp S (hK.2.1 6 _ rfl) (fun w h => (List.mem_cons_of_mem _ (zc6 w h))) rfl zt6_3 (List.mem_cons_of_mem _ zw1_119) rfl, fun _ h => absurd h List.not_mem_nil⟩,
    fun _ h => absurd h List.not_mem_nil,
    fun _ h => absurd h List.not_mem_nil,
    fun _ h => absurd h List.not_mem_nil,
    fun h => absurd rfl h,
    fun _ h => absurd h List.not_mem_nil,
    List.forall_mem_cons.mpr ⟨zg_callV (fun w h => List.mem_cons_of_mem _ h) zg_tb_all S hK zg_Km qm36 zw2_183 zy_yX6_ahead_V (ci := 6) (by decide +kernel) (hK.2.1 6 _ rfl).2.1 ⟨rfl, rfl⟩ (zk_dg_ok qdo_8_11 (by decide +kernel)), List.forall_mem_cons.mpr ⟨zg_callV (fun w h => List.mem_cons_of_mem _ h) zg_tb_all S hK zg_Km qm147 zw3_53 zy_yX6_readCondition_V (ci := 6) (by decide +kernel) (hK.2.1 6 _ rfl).2.1 ⟨rfl, rfl⟩ (zk_dg_ok qdo_8_11 (by decide +kernel)), List.forall_mem_cons.mpr ⟨zg_callV (fun w h => List.mem_cons_of_mem _ h) zg_tb_all S hK zg_Km qm48 zw3_29 zy_yX6_pass_V (ci := 6) (by decide +kernel) (hK.2.1 6 _ rfl).2.1 ⟨rfl, rfl⟩ (zk_dg_ok qdo_8_11 (by decide +kernel)), List.forall_mem_cons.mpr ⟨zg_callV (fun w h => List.mem_cons_of_mem _ h) zg_tb_all S hK zg_Km qm145 zw3_61 zy_yX6_readUnit_V (ci := 6) (by decide +kernel) (hK.2.1 6 _ rfl).2.1 ⟨rfl, rfl⟩ (zk_dg_ok qdo_8_11 (by decide +kernel)), List.forall_mem_cons.mpr ⟨zg_callV (fun w h => List.mem_cons_of_mem _ h) zg_tb_all S hK zg_Km qm47 zw3_25 zy_yX6_add_V (ci := 6) (by decide +kernel) (hK.2.1 6 _ rfl).2.1 ⟨rfl, rfl⟩ (zk_dg_ok qdo_8_11 (by decide +kernel)), List.forall_mem_cons.mpr ⟨zg_callV (fun w h => List.mem_cons_of_mem _ h) zg_tb_all S hK zg_Km qm88 zw3_33 zy_yX6_readSum_V (ci := 6) (by decide +kernel) (hK.2.1 6 _ rfl).2.1 ⟨rfl, rfl⟩ (zk_dg_ok qdo_8_11 (by decide +kernel)), List.forall_mem_cons.mpr ⟨zg_callV (fun w h => List.mem_cons_of_mem _ h) zg_tb_all S hK zg_Km qm36 zw2_183 zy_yX6_ahead_V (ci := 6) (by decide +kernel) (hK.2.1 6 _ rfl).2.1 ⟨rfl, rfl⟩ (zk_dg_ok qdo_8_11 (by decide +kernel)), List.forall_mem_cons.mpr ⟨zg_callS (fun w h => List.mem_cons_of_mem _ h) zg_tb_all S hK zg_Km qm141 zw3_50 zy_yX6_isComparison_S (by decide +kernel) ⟨rfl, rfl⟩ (zk_dg_ok qdo_8_11 (by decide +kernel)), List.forall_mem_cons.mpr ⟨zg_callV (fun w h => List.mem_cons_of_mem _ h) zg_tb_all S hK zg_Km qm88 zw3_33 zy_yX6_readSum_V (ci := 6) (by decide +kernel) (hK.2.1 6 _ rfl).2.1 ⟨rfl, rfl⟩ (zk_dg_ok qdo_8_11 (by decide +kernel)), List.forall_mem_cons.mpr ⟨zg_callV (fun w h => List.mem_cons_of_mem _ h) zg_tb_all S hK zg_Km qm47 zw3_25 zy_yX6_add_V (ci := 6) (by decide +kernel) (hK.2.1 6 _ rfl).2.1 ⟨rfl, rfl⟩ (zk_dg_ok qdo_8_11 (by decide +kernel)), fun _ h => absurd h List.not_mem_nil⟩⟩⟩⟩⟩⟩⟩⟩⟩⟩⟩
set_option maxRecDepth 100000 in
theorem qm148 {l : Launch} {D : zk_D} {base : Nat} {Hb : Heap} : zk_Met l qK D base Hb (zg_K D base Hb) yX6_readUnit (Jvm.Cond.code yX6_readUnit prog_8_method_11_code 5 (some .boolean) :: zg_tb) qR148 qC148 := zk_met (ws' := zg_tb) (P := qP148) (AT := zg_AT) zpn_X6 rfl rfl rfl qk148 (fun s hK => zg_wd hK) (fun p e s m args below meth c s₁ Q B hml hK => qo148 B hml hK) (fun p e s m args below meth c s₁ v G0 H0 B hml hK ha hp hF q hq => absurd hq List.not_mem_nil)
set_option maxRecDepth 100000 in
def qR149 : Room := { frames := 15, cells := 0, slots := 0, locals := 344 }
set_option maxHeartbeats 4000000 in
set_option maxRecDepth 100000 in
theorem qo149 {p : Program} {l : Launch} {e : Env} {s : State} {m : MethodId} {args : Array Value} {below : List Frame} {meth : Method} {c : Code} {s₁ : State} {Q : State → Prop} {D : zk_D} {base : Nat} {Hb : Heap} (B : BodyLoose p l yX6_readTruths (headSpec (Jvm.Cond.code yX6_readTruths prog_8_method_10_code 4 (some .boolean) :: zg_tb) qR149) prog_8_method_10_code 4 (some .boolean) e s m args below meth c s₁) (hml : c.maxLocals = 4) (hK : zg_K D base Hb s) : zk_ok p l e (headSpec (Jvm.Cond.code yX6_readTruths prog_8_method_10_code 4 (some .boolean) :: zg_tb) qR149).room s m args below meth c Q qK D base Hb 4 prog_8_method_10_code qP149 qC149.2.2.2.2 := by
  have S : CallFix p m c prog_8_method_10_code 4 s args (Jvm.Cond.code yX6_readTruths prog_8_method_10_code 4 (some .boolean) :: zg_tb) RX6 := ⟨B.exec, B.bytes, hml, findClass_of_methodNamed B.named, atoms_spec (ws := (Jvm.Cond.code yX6_readTruths prog_8_method_10_code 4 (some .boolean) :: zg_tb)) B.pre⟩
  exact ⟨fun _ h => absurd h List.not_mem_nil,
    fun _ h => absurd h List.not_mem_nil,
    fun _ h => absurd h List.not_mem_nil,
    fun _ h => absurd h List.not_mem_nil,
    fun h => absurd rfl h,
    fun _ h => absurd h List.not_mem_nil,
    List.forall_mem_cons.mpr ⟨zg_callV (fun w h => List.mem_cons_of_mem _ h) zg_tb_all S hK zg_Km qm148 zw3_61 zy_yX6_readUnit_V (ci := 6) (by decide +kernel) (hK.2.1 6 _ rfl).2.1 ⟨rfl, rfl⟩ (zk_dg_ok qdo_8_10 (by decide +kernel)), List.forall_mem_cons.mpr ⟨zg_callV (fun w h => List.mem_cons_of_mem _ h) zg_tb_all S hK zg_Km qm48 zw3_29 zy_yX6_pass_V (ci := 6) (by decide +kernel) (hK.2.1 6 _ rfl).2.1 ⟨rfl, rfl⟩ (zk_dg_ok qdo_8_10 (by decide +kernel)), List.forall_mem_cons.mpr ⟨zg_callV (fun w h => List.mem_cons_of_mem _ h) zg_tb_all S hK zg_Km qm148 zw3_61 zy_yX6_readUnit_V (ci := 6) (by decide +kernel) (hK.2.1 6 _ rfl).2.1 ⟨rfl, rfl⟩ (zk_dg_ok qdo_8_10 (by decide +kernel)), List.forall_mem_cons.mpr ⟨zg_callV (fun w h => List.mem_cons_of_mem _ h) zg_tb_all S hK zg_Km qm47 zw3_25 zy_yX6_add_V (ci := 6) (by decide +kernel) (hK.2.1 6 _ rfl).2.1 ⟨rfl, rfl⟩ (zk_dg_ok qdo_8_10 (by decide +kernel)), fun _ h => absurd h List.not_mem_nil⟩⟩⟩⟩⟩
set_option maxRecDepth 100000 in
theorem qm149 {l : Launch} {D : zk_D} {base : Nat} {Hb : Heap} : zk_Met l qK D base Hb (zg_K D base Hb) yX6_readTruths (Jvm.Cond.code yX6_readTruths prog_8_method_10_code 4 (some .boolean) :: zg_tb) qR149 qC149 := zk_met (ws' := zg_tb) (P := qP149) (AT := zg_AT) zpn_X6 rfl rfl rfl qk149 (fun s hK => zg_wd hK) (fun p e s m args below meth c s₁ Q B hml hK => qo149 B hml hK) (fun p e s m args below meth c s₁ v G0 H0 B hml hK ha hp hF q hq => absurd hq List.not_mem_nil)
set_option maxRecDepth 100000 in
def qR150 : Room := { frames := 16, cells := 0, slots := 0, locals := 367 }
set_option maxHeartbeats 4000000 in
set_option maxRecDepth 100000 in
theorem qo150 {p : Program} {l : Launch} {e : Env} {s : State} {m : MethodId} {args : Array Value} {below : List Frame} {meth : Method} {c : Code} {s₁ : State} {Q : State → Prop} {D : zk_D} {base : Nat} {Hb : Heap} (B : BodyLoose p l yX6_readCondition (headSpec (Jvm.Cond.code yX6_readCondition prog_8_method_9_code 4 (some .boolean) :: zg_tb) qR150) prog_8_method_9_code 4 (some .boolean) e s m args below meth c s₁) (hml : c.maxLocals = 4) (hK : zg_K D base Hb s) : zk_ok p l e (headSpec (Jvm.Cond.code yX6_readCondition prog_8_method_9_code 4 (some .boolean) :: zg_tb) qR150).room s m args below meth c Q qK D base Hb 4 prog_8_method_9_code qP150 qC150.2.2.2.2 := by
  have S : CallFix p m c prog_8_method_9_code 4 s args (Jvm.Cond.code yX6_readCondition prog_8_method_9_code 4 (some .boolean) :: zg_tb) RX6 := ⟨B.exec, B.bytes, hml, findClass_of_methodNamed B.named, atoms_spec (ws := (Jvm.Cond.code yX6_readCondition prog_8_method_9_code 4 (some .boolean) :: zg_tb)) B.pre⟩
  exact ⟨fun _ h => absurd h List.not_mem_nil,
    fun _ h => absurd h List.not_mem_nil,
    fun _ h => absurd h List.not_mem_nil,
    fun _ h => absurd h List.not_mem_nil,
    fun h => absurd rfl h,
    fun _ h => absurd h List.not_mem_nil,
    List.forall_mem_cons.mpr ⟨zg_callV (fun w h => List.mem_cons_of_mem _ h) zg_tb_all S hK zg_Km qm149 zw3_57 zy_yX6_readTruths_V (ci := 6) (by decide +kernel) (hK.2.1 6 _ rfl).2.1 ⟨rfl, rfl⟩ (zk_dg_ok qdo_8_9 (by decide +kernel)), List.forall_mem_cons.mpr ⟨zg_callV (fun w h => List.mem_cons_of_mem _ h) zg_tb_all S hK zg_Km qm48 zw3_29 zy_yX6_pass_V (ci := 6) (by decide +kernel) (hK.2.1 6 _ rfl).2.1 ⟨rfl, rfl⟩ (zk_dg_ok qdo_8_9 (by decide +kernel)), List.forall_mem_cons.mpr ⟨zg_callV (fun w h => List.mem_cons_of_mem _ h) zg_tb_all S hK zg_Km qm149 zw3_57 zy_yX6_readTruths_V (ci := 6) (by decide +kernel) (hK.2.1 6 _ rfl).2.1 ⟨rfl, rfl⟩ (zk_dg_ok qdo_8_9 (by decide +kernel)), List.forall_mem_cons.mpr ⟨zg_callV (fun w h => List.mem_cons_of_mem _ h) zg_tb_all S hK zg_Km qm47 zw3_25 zy_yX6_add_V (ci := 6) (by decide +kernel) (hK.2.1 6 _ rfl).2.1 ⟨rfl, rfl⟩ (zk_dg_ok qdo_8_9 (by decide +kernel)), fun _ h => absurd h List.not_mem_nil⟩⟩⟩⟩⟩
set_option maxRecDepth 100000 in
theorem qm150 {l : Launch} {D : zk_D} {base : Nat} {Hb : Heap} : zk_Met l qK D base Hb (zg_K D base Hb) yX6_readCondition (Jvm.Cond.code yX6_readCondition prog_8_method_9_code 4 (some .boolean) :: zg_tb) qR150 qC150 := zk_met (ws' := zg_tb) (P := qP150) (AT := zg_AT) zpn_X6 rfl rfl rfl qk150 (fun s hK => zg_wd hK) (fun p e s m args below meth c s₁ Q B hml hK => qo150 B hml hK) (fun p e s m args below meth c s₁ v G0 H0 B hml hK ha hp hF q hq => absurd hq List.not_mem_nil)
set_option maxRecDepth 100000 in
def qR151 : Room := { frames := 17, cells := 0, slots := 0, locals := 390 }
set_option maxHeartbeats 4000000 in
set_option maxRecDepth 100000 in
theorem qo151 {p : Program} {l : Launch} {e : Env} {s : State} {m : MethodId} {args : Array Value} {below : List Frame} {meth : Method} {c : Code} {s₁ : State} {Q : State → Prop} {D : zk_D} {base : Nat} {Hb : Heap} (B : BodyLoose p l yX6_readUnit (headSpec (Jvm.Cond.code yX6_readUnit prog_8_method_11_code 5 (some .boolean) :: zg_tb) qR151) prog_8_method_11_code 5 (some .boolean) e s m args below meth c s₁) (hml : c.maxLocals = 5) (hK : zg_K D base Hb s) : zk_ok p l e (headSpec (Jvm.Cond.code yX6_readUnit prog_8_method_11_code 5 (some .boolean) :: zg_tb) qR151).room s m args below meth c Q qK D base Hb 5 prog_8_method_11_code qP151 qC151.2.2.2.2 := by
  have S : CallFix p m c prog_8_method_11_code 5 s args (Jvm.Cond.code yX6_readUnit prog_8_method_11_code 5 (some .boolean) :: zg_tb) RX6 := ⟨B.exec, B.bytes, hml, findClass_of_methodNamed B.named, atoms_spec (ws := (Jvm.Cond.code yX6_readUnit prog_8_method_11_code 5 (some .boolean) :: zg_tb)) B.pre⟩
  exact ⟨List.forall_mem_cons.mpr ⟨zg_gp S (hK.2.1 6 _ rfl) (fun w h => (List.mem_cons_of_mem _ (zc6 w h))) rfl zt6_3 (List.mem_cons_of_mem _ zw1_119) rfl, fun _ h => absurd h List.not_mem_nil⟩,
    fun _ h => absurd h List.not_mem_nil,
    fun _ h => absurd h List.not_mem_nil,
    fun _ h => absurd h List.not_mem_nil,
    fun h => absurd rfl h,
    fun _ h => absurd h List.not_mem_nil,
    List.forall_mem_cons.mpr ⟨zg_callV (fun w h => List.mem_cons_of_mem _ h) zg_tb_all S hK zg_Km qm36 zw2_183 zy_yX6_ahead_V (ci := 6) (by decide +kernel) (hK.2.1 6 _ rfl).2.1 ⟨rfl, rfl⟩ (zk_dg_ok qdo_8_11 (by decide +kernel)), List.forall_mem_cons.mpr ⟨zg_callV (fun w h => List.mem_cons_of_mem _ h) zg_tb_all S hK zg_Km qm150 zw3_53 zy_yX6_readCondition_V (ci := 6) (by decide +kernel) (hK.2.1 6 _ rfl).2.1 ⟨rfl, rfl⟩ (zk_dg_ok qdo_8_11 (by decide +kernel)), List.forall_mem_cons.mpr ⟨zg_callV (fun w h => List.mem_cons_of_mem _ h) zg_tb_all S hK zg_Km qm48 zw3_29 zy_yX6_pass_V (ci := 6) (by decide +kernel) (hK.2.1 6 _ rfl).2.1 ⟨rfl, rfl⟩ (zk_dg_ok qdo_8_11 (by decide +kernel)), List.forall_mem_cons.mpr ⟨zg_callV (fun w h => List.mem_cons_of_mem _ h) zg_tb_all S hK zg_Km qm148 zw3_61 zy_yX6_readUnit_V (ci := 6) (by decide +kernel) (hK.2.1 6 _ rfl).2.1 ⟨rfl, rfl⟩ (zk_dg_ok qdo_8_11 (by decide +kernel)), List.forall_mem_cons.mpr ⟨zg_callV (fun w h => List.mem_cons_of_mem _ h) zg_tb_all S hK zg_Km qm47 zw3_25 zy_yX6_add_V (ci := 6) (by decide +kernel) (hK.2.1 6 _ rfl).2.1 ⟨rfl, rfl⟩ (zk_dg_ok qdo_8_11 (by decide +kernel)), List.forall_mem_cons.mpr ⟨zg_callV (fun w h => List.mem_cons_of_mem _ h) zg_tb_all S hK zg_Km qm101 zw3_33 zy_yX6_readSum_V (ci := 6) (by decide +kernel) (hK.2.1 6 _ rfl).2.1 ⟨rfl, rfl⟩ (zk_dg_ok qdo_8_11 (by decide +kernel)), List.forall_mem_cons.mpr ⟨zg_callV (fun w h => List.mem_cons_of_mem _ h) zg_tb_all S hK zg_Km qm36 zw2_183 zy_yX6_ahead_V (ci := 6) (by decide +kernel) (hK.2.1 6 _ rfl).2.1 ⟨rfl, rfl⟩ (zk_dg_ok qdo_8_11 (by decide +kernel)), List.forall_mem_cons.mpr ⟨zg_callS (fun w h => List.mem_cons_of_mem _ h) zg_tb_all S hK zg_Km qm141 zw3_50 zy_yX6_isComparison_S (by decide +kernel) ⟨rfl, rfl⟩ (zk_dg_ok qdo_8_11 (by decide +kernel)), List.forall_mem_cons.mpr ⟨zg_callV (fun w h => List.mem_cons_of_mem _ h) zg_tb_all S hK zg_Km qm101 zw3_33 zy_yX6_readSum_V (ci := 6) (by decide +kernel) (hK.2.1 6 _ rfl).2.1 ⟨rfl, rfl⟩ (zk_dg_ok qdo_8_11 (by decide +kernel)), List.forall_mem_cons.mpr ⟨zg_callV (fun w h => List.mem_cons_of_mem _ h) zg_tb_all S hK zg_Km qm47 zw3_25 zy_yX6_add_V (ci := 6) (by decide +kernel) (hK.2.1 6 _ rfl).2.1 ⟨rfl, rfl⟩ (zk_dg_ok qdo_8_11 (by decide +kernel)), fun _ h => absurd h List.not_mem_nil⟩⟩⟩⟩⟩⟩⟩⟩⟩⟩⟩
set_option maxRecDepth 100000 in
theorem qm151 {l : Launch} {D : zk_D} {base : Nat} {Hb : Heap} : zk_Met l qK D base Hb (zg_K D base Hb) yX6_readUnit (Jvm.Cond.code yX6_readUnit prog_8_method_11_code 5 (some .boolean) :: zg_tb) qR151 qC151 := zk_met (ws' := zg_tb) (P := qP151) (AT := zg_AT) zpn_X6 rfl rfl rfl qk151 (fun s hK => zg_wd hK) (fun p e s m args below meth c s₁ Q B hml hK => qo151 B hml hK) (fun p e s m args below meth c s₁ v G0 H0 B hml hK ha hp hF q hq => absurd hq List.not_mem_nil)
set_option maxRecDepth 100000 in
def qR152 : Room := { frames := 18, cells := 0, slots := 0, locals := 414 }
set_option maxHeartbeats 4000000 in
set_option maxRecDepth 100000 in
theorem qo152 {p : Program} {l : Launch} {e : Env} {s : State} {m : MethodId} {args : Array Value} {below : List Frame} {meth : Method} {c : Code} {s₁ : State} {Q : State → Prop} {D : zk_D} {base : Nat} {Hb : Heap} (B : BodyLoose p l yX6_readTruths (headSpec (Jvm.Cond.code yX6_readTruths prog_8_method_10_code 4 (some .boolean) :: zg_tb) qR152) prog_8_method_10_code 4 (some .boolean) e s m args below meth c s₁) (hml : c.maxLocals = 4) (hK : zg_K D base Hb s) : zk_ok p l e (headSpec (Jvm.Cond.code yX6_readTruths prog_8_method_10_code 4 (some .boolean) :: zg_tb) qR152).room s m args below meth c Q qK D base Hb 4 prog_8_method_10_code qP152 qC152.2.2.2.2 := by
  have S : CallFix p m c prog_8_method_10_code 4 s args (Jvm.Cond.code yX6_readTruths prog_8_method_10_code 4 (some .boolean) :: zg_tb) RX6 := ⟨B.exec, B.bytes, hml, findClass_of_methodNamed B.named, atoms_spec (ws := (Jvm.Cond.code yX6_readTruths prog_8_method_10_code 4 (some .boolean) :: zg_tb)) B.pre⟩
  exact ⟨fun _ h => absurd h List.not_mem_nil,
    fun _ h => absurd h List.not_mem_nil,
    fun _ h => absurd h List.not_mem_nil,
    fun _ h => absurd h List.not_mem_nil,
    fun h => absurd rfl h,
    fun _ h => absurd h List.not_mem_nil,
    List.forall_mem_cons.mpr ⟨zg_callV (fun w h => List.mem_cons_of_mem _ h) zg_tb_all S hK zg_Km qm151 zw3_61 zy_yX6_readUnit_V (ci := 6) (by decide +kernel) (hK.2.1 6 _ rfl).2.1 ⟨rfl, rfl⟩ (zk_dg_ok qdo_8_10 (by decide +kernel)), List.forall_mem_cons.mpr ⟨zg_callV (fun w h => List.mem_cons_of_mem _ h) zg_tb_all S hK zg_Km qm48 zw3_29 zy_yX6_pass_V (ci := 6) (by decide +kernel) (hK.2.1 6 _ rfl).2.1 ⟨rfl, rfl⟩ (zk_dg_ok qdo_8_10 (by decide +kernel)), List.forall_mem_cons.mpr ⟨zg_callV (fun w h => List.mem_cons_of_mem _ h) zg_tb_all S hK zg_Km qm151 zw3_61 zy_yX6_readUnit_V (ci := 6) (by decide +kernel) (hK.2.1 6 _ rfl).2.1 ⟨rfl, rfl⟩ (zk_dg_ok qdo_8_10 (by decide +kernel)), List.forall_mem_cons.mpr ⟨zg_callV (fun w h => List.mem_cons_of_mem _ h) zg_tb_all S hK zg_Km qm47 zw3_25 zy_yX6_add_V (ci := 6) (by decide +kernel) (hK.2.1 6 _ rfl).2.1 ⟨rfl, rfl⟩ (zk_dg_ok qdo_8_10 (by decide +kernel)), fun _ h => absurd h List.not_mem_nil⟩⟩⟩⟩⟩
set_option maxRecDepth 100000 in
theorem qm152 {l : Launch} {D : zk_D} {base : Nat} {Hb : Heap} : zk_Met l qK D base Hb (zg_K D base Hb) yX6_readTruths (Jvm.Cond.code yX6_readTruths prog_8_method_10_code 4 (some .boolean) :: zg_tb) qR152 qC152 := zk_met (ws' := zg_tb) (P := qP152) (AT := zg_AT) zpn_X6 rfl rfl rfl qk152 (fun s hK => zg_wd hK) (fun p e s m args below meth c s₁ Q B hml hK => qo152 B hml hK) (fun p e s m args below meth c s₁ v G0 H0 B hml hK ha hp hF q hq => absurd hq List.not_mem_nil)
set_option maxRecDepth 100000 in
def qR153 : Room := { frames := 19, cells := 0, slots := 0, locals := 437 }
set_option maxHeartbeats 4000000 in
set_option maxRecDepth 100000 in
theorem qo153 {p : Program} {l : Launch} {e : Env} {s : State} {m : MethodId} {args : Array Value} {below : List Frame} {meth : Method} {c : Code} {s₁ : State} {Q : State → Prop} {D : zk_D} {base : Nat} {Hb : Heap} (B : BodyLoose p l yX6_readCondition (headSpec (Jvm.Cond.code yX6_readCondition prog_8_method_9_code 4 (some .boolean) :: zg_tb) qR153) prog_8_method_9_code 4 (some .boolean) e s m args below meth c s₁) (hml : c.maxLocals = 4) (hK : zg_K D base Hb s) : zk_ok p l e (headSpec (Jvm.Cond.code yX6_readCondition prog_8_method_9_code 4 (some .boolean) :: zg_tb) qR153).room s m args below meth c Q qK D base Hb 4 prog_8_method_9_code qP153 qC153.2.2.2.2 := by
  have S : CallFix p m c prog_8_method_9_code 4 s args (Jvm.Cond.code yX6_readCondition prog_8_method_9_code 4 (some .boolean) :: zg_tb) RX6 := ⟨B.exec, B.bytes, hml, findClass_of_methodNamed B.named, atoms_spec (ws := (Jvm.Cond.code yX6_readCondition prog_8_method_9_code 4 (some .boolean) :: zg_tb)) B.pre⟩
  exact ⟨fun _ h => absurd h List.not_mem_nil,
    fun _ h => absurd h List.not_mem_nil,
    fun _ h => absurd h List.not_mem_nil,
    fun _ h => absurd h List.not_mem_nil,
    fun h => absurd rfl h,
    fun _ h => absurd h List.not_mem_nil,
    List.forall_mem_cons.mpr ⟨zg_callV (fun w h => List.mem_cons_of_mem _ h) zg_tb_all S hK zg_Km qm152 zw3_57 zy_yX6_readTruths_V (ci := 6) (by decide +kernel) (hK.2.1 6 _ rfl).2.1 ⟨rfl, rfl⟩ (zk_dg_ok qdo_8_9 (by decide +kernel)), List.forall_mem_cons.mpr ⟨zg_callV (fun w h => List.mem_cons_of_mem _ h) zg_tb_all S hK zg_Km qm48 zw3_29 zy_yX6_pass_V (ci := 6) (by decide +kernel) (hK.2.1 6 _ rfl).2.1 ⟨rfl, rfl⟩ (zk_dg_ok qdo_8_9 (by decide +kernel)), List.forall_mem_cons.mpr ⟨zg_callV (fun w h => List.mem_cons_of_mem _ h) zg_tb_all S hK zg_Km qm152 zw3_57 zy_yX6_readTruths_V (ci := 6) (by decide +kernel) (hK.2.1 6 _ rfl).2.1 ⟨rfl, rfl⟩ (zk_dg_ok qdo_8_9 (by decide +kernel)), List.forall_mem_cons.mpr ⟨zg_callV (fun w h => List.mem_cons_of_mem _ h) zg_tb_all S hK zg_Km qm47 zw3_25 zy_yX6_add_V (ci := 6) (by decide +kernel) (hK.2.1 6 _ rfl).2.1 ⟨rfl, rfl⟩ (zk_dg_ok qdo_8_9 (by decide +kernel)), fun _ h => absurd h List.not_mem_nil⟩⟩⟩⟩⟩
set_option maxRecDepth 100000 in
theorem qm153 {l : Launch} {D : zk_D} {base : Nat} {Hb : Heap} : zk_Met l qK D base Hb (zg_K D base Hb) yX6_readCondition (Jvm.Cond.code yX6_readCondition prog_8_method_9_code 4 (some .boolean) :: zg_tb) qR153 qC153 := zk_met (ws' := zg_tb) (P := qP153) (AT := zg_AT) zpn_X6 rfl rfl rfl qk153 (fun s hK => zg_wd hK) (fun p e s m args below meth c s₁ Q B hml hK => qo153 B hml hK) (fun p e s m args below meth c s₁ v G0 H0 B hml hK ha hp hF q hq => absurd hq List.not_mem_nil)
set_option maxRecDepth 100000 in
def qR154 : Room := { frames := 20, cells := 0, slots := 0, locals := 460 }
set_option maxHeartbeats 4000000 in
set_option maxRecDepth 100000 in
theorem qo154 {p : Program} {l : Launch} {e : Env} {s : State} {m : MethodId} {args : Array Value} {below : List Frame} {meth : Method} {c : Code} {s₁ : State} {Q : State → Prop} {D : zk_D} {base : Nat} {Hb : Heap} (B : BodyLoose p l yX6_readUnit (headSpec (Jvm.Cond.code yX6_readUnit prog_8_method_11_code 5 (some .boolean) :: zg_tb) qR154) prog_8_method_11_code 5 (some .boolean) e s m args below meth c s₁) (hml : c.maxLocals = 5) (hK : zg_K D base Hb s) : zk_ok p l e (headSpec (Jvm.Cond.code yX6_readUnit prog_8_method_11_code 5 (some .boolean) :: zg_tb) qR154).room s m args below meth c Q qK D base Hb 5 prog_8_method_11_code qP154 qC154.2.2.2.2 := by
  have S : CallFix p m c prog_8_method_11_code 5 s args (Jvm.Cond.code yX6_readUnit prog_8_method_11_code 5 (some .boolean) :: zg_tb) RX6 := ⟨B.exec, B.bytes, hml, findClass_of_methodNamed B.named, atoms_spec (ws := (Jvm.Cond.code yX6_readUnit prog_8_method_11_code 5 (some .boolean) :: zg_tb)) B.pre⟩
  exact ⟨List.forall_mem_cons.mpr ⟨zg_gp S (hK.2.1 6 _ rfl) (fun w h => (List.mem_cons_of_mem _ (zc6 w h))) rfl zt6_3 (List.mem_cons_of_mem _ zw1_119) rfl, fun _ h => absurd h List.not_mem_nil⟩,
    fun _ h => absurd h List.not_mem_nil,
    fun _ h => absurd h List.not_mem_nil,
    fun _ h => absurd h List.not_mem_nil,
    fun h => absurd rfl h,
    fun _ h => absurd h List.not_mem_nil,
    List.forall_mem_cons.mpr ⟨zg_callV (fun w h => List.mem_cons_of_mem _ h) zg_tb_all S hK zg_Km qm36 zw2_183 zy_yX6_ahead_V (ci := 6) (by decide +kernel) (hK.2.1 6 _ rfl).2.1 ⟨rfl, rfl⟩ (zk_dg_ok qdo_8_11 (by decide +kernel)), List.forall_mem_cons.mpr ⟨zg_callV (fun w h => List.mem_cons_of_mem _ h) zg_tb_all S hK zg_Km qm153 zw3_53 zy_yX6_readCondition_V (ci := 6) (by decide +kernel) (hK.2.1 6 _ rfl).2.1 ⟨rfl, rfl⟩ (zk_dg_ok qdo_8_11 (by decide +kernel)), List.forall_mem_cons.mpr ⟨zg_callV (fun w h => List.mem_cons_of_mem _ h) zg_tb_all S hK zg_Km qm48 zw3_29 zy_yX6_pass_V (ci := 6) (by decide +kernel) (hK.2.1 6 _ rfl).2.1 ⟨rfl, rfl⟩ (zk_dg_ok qdo_8_11 (by decide +kernel)), List.forall_mem_cons.mpr ⟨zg_callV (fun w h => List.mem_cons_of_mem _ h) zg_tb_all S hK zg_Km qm151 zw3_61 zy_yX6_readUnit_V (ci := 6) (by decide +kernel) (hK.2.1 6 _ rfl).2.1 ⟨rfl, rfl⟩ (zk_dg_ok qdo_8_11 (by decide +kernel)), List.forall_mem_cons.mpr ⟨zg_callV (fun w h => List.mem_cons_of_mem _ h) zg_tb_all S hK zg_Km qm47 zw3_25 zy_yX6_add_V (ci := 6) (by decide +kernel) (hK.2.1 6 _ rfl).2.1 ⟨rfl, rfl⟩ (zk_dg_ok qdo_8_11 (by decide +kernel)), List.forall_mem_cons.mpr ⟨zg_callV (fun w h => List.mem_cons_of_mem _ h) zg_tb_all S hK zg_Km qm114 zw3_33 zy_yX6_readSum_V (ci := 6) (by decide +kernel) (hK.2.1 6 _ rfl).2.1 ⟨rfl, rfl⟩ (zk_dg_ok qdo_8_11 (by decide +kernel)), List.forall_mem_cons.mpr ⟨zg_callV (fun w h => List.mem_cons_of_mem _ h) zg_tb_all S hK zg_Km qm36 zw2_183 zy_yX6_ahead_V (ci := 6) (by decide +kernel) (hK.2.1 6 _ rfl).2.1 ⟨rfl, rfl⟩ (zk_dg_ok qdo_8_11 (by decide +kernel)), List.forall_mem_cons.mpr ⟨zg_callS (fun w h => List.mem_cons_of_mem _ h) zg_tb_all S hK zg_Km qm141 zw3_50 zy_yX6_isComparison_S (by decide +kernel) ⟨rfl, rfl⟩ (zk_dg_ok qdo_8_11 (by decide +kernel)), List.forall_mem_cons.mpr ⟨zg_callV (fun w h => List.mem_cons_of_mem _ h) zg_tb_all S hK zg_Km qm114 zw3_33 zy_yX6_readSum_V (ci := 6) (by decide +kernel) (hK.2.1 6 _ rfl).2.1 ⟨rfl, rfl⟩ (zk_dg_ok qdo_8_11 (by decide +kernel)), List.forall_mem_cons.mpr ⟨zg_callV (fun w h => List.mem_cons_of_mem _ h) zg_tb_all S hK zg_Km qm47 zw3_25 zy_yX6_add_V (ci := 6) (by decide +kernel) (hK.2.1 6 _ rfl).2.1 ⟨rfl, rfl⟩ (zk_dg_ok qdo_8_11 (by decide +kernel)), fun _ h => absurd h List.not_mem_nil⟩⟩⟩⟩⟩⟩⟩⟩⟩⟩⟩
set_option maxRecDepth 100000 in
theorem qm154 {l : Launch} {D : zk_D} {base : Nat} {Hb : Heap} : zk_Met l qK D base Hb (zg_K D base Hb) yX6_readUnit (Jvm.Cond.code yX6_readUnit prog_8_method_11_code 5 (some .boolean) :: zg_tb) qR154 qC154 := zk_met (ws' := zg_tb) (P := qP154) (AT := zg_AT) zpn_X6 rfl rfl rfl qk154 (fun s hK => zg_wd hK) (fun p e s m args below meth c s₁ Q B hml hK => qo154 B hml hK) (fun p e s m args below meth c s₁ v G0 H0 B hml hK ha hp hF q hq => absurd hq List.not_mem_nil)
set_option maxRecDepth 100000 in
def qR155 : Room := { frames := 21, cells := 0, slots := 0, locals := 484 }
set_option maxHeartbeats 4000000 in
set_option maxRecDepth 100000 in
theorem qo155 {p : Program} {l : Launch} {e : Env} {s : State} {m : MethodId} {args : Array Value} {below : List Frame} {meth : Method} {c : Code} {s₁ : State} {Q : State → Prop} {D : zk_D} {base : Nat} {Hb : Heap} (B : BodyLoose p l yX6_readTruths (headSpec (Jvm.Cond.code yX6_readTruths prog_8_method_10_code 4 (some .boolean) :: zg_tb) qR155) prog_8_method_10_code 4 (some .boolean) e s m args below meth c s₁) (hml : c.maxLocals = 4) (hK : zg_K D base Hb s) : zk_ok p l e (headSpec (Jvm.Cond.code yX6_readTruths prog_8_method_10_code 4 (some .boolean) :: zg_tb) qR155).room s m args below meth c Q qK D base Hb 4 prog_8_method_10_code qP155 qC155.2.2.2.2 := by
  have S : CallFix p m c prog_8_method_10_code 4 s args (Jvm.Cond.code yX6_readTruths prog_8_method_10_code 4 (some .boolean) :: zg_tb) RX6 := ⟨B.exec, B.bytes, hml, findClass_of_methodNamed B.named, atoms_spec (ws := (Jvm.Cond.code yX6_readTruths prog_8_method_10_code 4 (some .boolean) :: zg_tb)) B.pre⟩
  exact ⟨fun _ h => absurd h List.not_mem_nil,
    fun _ h => absurd h List.not_mem_nil,
    fun _ h => absurd h List.not_mem_nil,
    fun _ h => absurd h List.not_mem_nil,
    fun h => absurd rfl h,
    fun _ h => absurd h List.not_mem_nil,
    List.forall_mem_cons.mpr ⟨zg_callV (fun w h => List.mem_cons_of_mem _ h) zg_tb_all S hK zg_Km qm154 zw3_61 zy_yX6_readUnit_V (ci := 6) (by decide +kernel) (hK.2.1 6 _ rfl).2.1 ⟨rfl, rfl⟩ (zk_dg_ok qdo_8_10 (by decide +kernel)), List.forall_mem_cons.mpr ⟨zg_callV (fun w h => List.mem_cons_of_mem _ h) zg_tb_all S hK zg_Km qm48 zw3_29 zy_yX6_pass_V (ci := 6) (by decide +kernel) (hK.2.1 6 _ rfl).2.1 ⟨rfl, rfl⟩ (zk_dg_ok qdo_8_10 (by decide +kernel)), List.forall_mem_cons.mpr ⟨zg_callV (fun w h => List.mem_cons_of_mem _ h) zg_tb_all S hK zg_Km qm154 zw3_61 zy_yX6_readUnit_V (ci := 6) (by decide +kernel) (hK.2.1 6 _ rfl).2.1 ⟨rfl, rfl⟩ (zk_dg_ok qdo_8_10 (by decide +kernel)), List.forall_mem_cons.mpr ⟨zg_callV (fun w h => List.mem_cons_of_mem _ h) zg_tb_all S hK zg_Km qm47 zw3_25 zy_yX6_add_V (ci := 6) (by decide +kernel) (hK.2.1 6 _ rfl).2.1 ⟨rfl, rfl⟩ (zk_dg_ok qdo_8_10 (by decide +kernel)), fun _ h => absurd h List.not_mem_nil⟩⟩⟩⟩⟩
set_option maxRecDepth 100000 in
theorem qm155 {l : Launch} {D : zk_D} {base : Nat} {Hb : Heap} : zk_Met l qK D base Hb (zg_K D base Hb) yX6_readTruths (Jvm.Cond.code yX6_readTruths prog_8_method_10_code 4 (some .boolean) :: zg_tb) qR155 qC155 := zk_met (ws' := zg_tb) (P := qP155) (AT := zg_AT) zpn_X6 rfl rfl rfl qk155 (fun s hK => zg_wd hK) (fun p e s m args below meth c s₁ Q B hml hK => qo155 B hml hK) (fun p e s m args below meth c s₁ v G0 H0 B hml hK ha hp hF q hq => absurd hq List.not_mem_nil)
set_option maxRecDepth 100000 in
def qR156 : Room := { frames := 22, cells := 0, slots := 0, locals := 507 }
set_option maxHeartbeats 4000000 in
set_option maxRecDepth 100000 in
theorem qo156 {p : Program} {l : Launch} {e : Env} {s : State} {m : MethodId} {args : Array Value} {below : List Frame} {meth : Method} {c : Code} {s₁ : State} {Q : State → Prop} {D : zk_D} {base : Nat} {Hb : Heap} (B : BodyLoose p l yX6_readCondition (headSpec (Jvm.Cond.code yX6_readCondition prog_8_method_9_code 4 (some .boolean) :: zg_tb) qR156) prog_8_method_9_code 4 (some .boolean) e s m args below meth c s₁) (hml : c.maxLocals = 4) (hK : zg_K D base Hb s) : zk_ok p l e (headSpec (Jvm.Cond.code yX6_readCondition prog_8_method_9_code 4 (some .boolean) :: zg_tb) qR156).room s m args below meth c Q qK D base Hb 4 prog_8_method_9_code qP156 qC156.2.2.2.2 := by
  have S : CallFix p m c prog_8_method_9_code 4 s args (Jvm.Cond.code yX6_readCondition prog_8_method_9_code 4 (some .boolean) :: zg_tb) RX6 := ⟨B.exec, B.bytes, hml, findClass_of_methodNamed B.named, atoms_spec (ws := (Jvm.Cond.code yX6_readCondition prog_8_method_9_code 4 (some .boolean) :: zg_tb)) B.pre⟩
  exact ⟨fun _ h => absurd h List.not_mem_nil,
    fun _ h => absurd h List.not_mem_nil,
    fun _ h => absurd h List.not_mem_nil,
    fun _ h => absurd h List.not_mem_nil,
    fun h => absurd rfl h,
    fun _ h => absurd h List.not_mem_nil,
    List.forall_mem_cons.mpr ⟨zg_callV (fun w h => List.mem_cons_of_mem _ h) zg_tb_all S hK zg_Km qm155 zw3_57 zy_yX6_readTruths_V (ci := 6) (by decide +kernel) (hK.2.1 6 _ rfl).2.1 ⟨rfl, rfl⟩ (zk_dg_ok qdo_8_9 (by decide +kernel)), List.forall_mem_cons.mpr ⟨zg_callV (fun w h => List.mem_cons_of_mem _ h) zg_tb_all S hK zg_Km qm48 zw3_29 zy_yX6_pass_V (ci := 6) (by decide +kernel) (hK.2.1 6 _ rfl).2.1 ⟨rfl, rfl⟩ (zk_dg_ok qdo_8_9 (by decide +kernel)), List.forall_mem_cons.mpr ⟨zg_callV (fun w h => List.mem_cons_of_mem _ h) zg_tb_all S hK zg_Km qm155 zw3_57 zy_yX6_readTruths_V (ci := 6) (by decide +kernel) (hK.2.1 6 _ rfl).2.1 ⟨rfl, rfl⟩ (zk_dg_ok qdo_8_9 (by decide +kernel)), List.forall_mem_cons.mpr ⟨zg_callV (fun w h => List.mem_cons_of_mem _ h) zg_tb_all S hK zg_Km qm47 zw3_25 zy_yX6_add_V (ci := 6) (by decide +kernel) (hK.2.1 6 _ rfl).2.1 ⟨rfl, rfl⟩ (zk_dg_ok qdo_8_9 (by decide +kernel)), fun _ h => absurd h List.not_mem_nil⟩⟩⟩⟩⟩
set_option maxRecDepth 100000 in
theorem qm156 {l : Launch} {D : zk_D} {base : Nat} {Hb : Heap} : zk_Met l qK D base Hb (zg_K D base Hb) yX6_readCondition (Jvm.Cond.code yX6_readCondition prog_8_method_9_code 4 (some .boolean) :: zg_tb) qR156 qC156 := zk_met (ws' := zg_tb) (P := qP156) (AT := zg_AT) zpn_X6 rfl rfl rfl qk156 (fun s hK => zg_wd hK) (fun p e s m args below meth c s₁ Q B hml hK => qo156 B hml hK) (fun p e s m args below meth c s₁ v G0 H0 B hml hK ha hp hF q hq => absurd hq List.not_mem_nil)
set_option maxRecDepth 100000 in
def qR157 : Room := { frames := 23, cells := 0, slots := 0, locals := 530 }
set_option maxHeartbeats 4000000 in
set_option maxRecDepth 100000 in
theorem qo157 {p : Program} {l : Launch} {e : Env} {s : State} {m : MethodId} {args : Array Value} {below : List Frame} {meth : Method} {c : Code} {s₁ : State} {Q : State → Prop} {D : zk_D} {base : Nat} {Hb : Heap} (B : BodyLoose p l yX6_readUnit (headSpec (Jvm.Cond.code yX6_readUnit prog_8_method_11_code 5 (some .boolean) :: zg_tb) qR157) prog_8_method_11_code 5 (some .boolean) e s m args below meth c s₁) (hml : c.maxLocals = 5) (hK : zg_K D base Hb s) : zk_ok p l e (headSpec (Jvm.Cond.code yX6_readUnit prog_8_method_11_code 5 (some .boolean) :: zg_tb) qR157).room s m args below meth c Q qK D base Hb 5 prog_8_method_11_code qP157 qC157.2.2.2.2 := by
  have S : CallFix p m c prog_8_method_11_code 5 s args (Jvm.Cond.code yX6_readUnit prog_8_method_11_code 5 (some .boolean) :: zg_tb) RX6 := ⟨B.exec, B.bytes, hml, findClass_of_methodNamed B.named, atoms_spec (ws := (Jvm.Cond.code yX6_readUnit prog_8_method_11_code 5 (some .boolean) :: zg_tb)) B.pre⟩
  exact ⟨List.forall_mem_cons.mpr ⟨zg_gp S (hK.2.1 6 _ rfl) (fun w h => (List.mem_cons_of_mem _ (zc6 w h))) rfl zt6_3 (List.mem_cons_of_mem _ zw1_119) rfl, fun _ h => absurd h List.not_mem_nil⟩,
    fun _ h => absurd h List.not_mem_nil,
    fun _ h => absurd h List.not_mem_nil,
    fun _ h => absurd h List.not_mem_nil,
    fun h => absurd rfl h,
    fun _ h => absurd h List.not_mem_nil,
    List.forall_mem_cons.mpr ⟨zg_callV (fun w h => List.mem_cons_of_mem _ h) zg_tb_all S hK zg_Km qm36 zw2_183 zy_yX6_ahead_V (ci := 6) (by decide +kernel) (hK.2.1 6 _ rfl).2.1 ⟨rfl, rfl⟩ (zk_dg_ok qdo_8_11 (by decide +kernel)), List.forall_mem_cons.mpr ⟨zg_callV (fun w h => List.mem_cons_of_mem _ h) zg_tb_all S hK zg_Km qm156 zw3_53 zy_yX6_readCondition_V (ci := 6) (by decide +kernel) (hK.2.1 6 _ rfl).2.1 ⟨rfl, rfl⟩ (zk_dg_ok qdo_8_11 (by decide +kernel)), List.forall_mem_cons.mpr ⟨zg_callV (fun w h => List.mem_cons_of_mem _ h) zg_tb_all S hK zg_Km qm48 zw3_29 zy_yX6_pass_V (ci := 6) (by decide +kernel) (hK.2.1 6 _ rfl).2.1 ⟨rfl, rfl⟩ (zk_dg_ok qdo_8_11 (by decide +kernel)), List.forall_mem_cons.mpr ⟨zg_callV (fun w h => List.mem_cons_of_mem _ h) zg_tb_all S hK zg_Km qm154 zw3_61 zy_yX6_readUnit_V (ci := 6) (by decide +kernel) (hK.2.1 6 _ rfl).2.1 ⟨rfl, rfl⟩ (zk_dg_ok qdo_8_11 (by decide +kernel)), List.forall_mem_cons.mpr ⟨zg_callV (fun w h => List.mem_cons_of_mem _ h) zg_tb_all S hK zg_Km qm47 zw3_25 zy_yX6_add_V (ci := 6) (by decide +kernel) (hK.2.1 6 _ rfl).2.1 ⟨rfl, rfl⟩ (zk_dg_ok qdo_8_11 (by decide +kernel)), List.forall_mem_cons.mpr ⟨zg_callV (fun w h => List.mem_cons_of_mem _ h) zg_tb_all S hK zg_Km qm127 zw3_33 zy_yX6_readSum_V (ci := 6) (by decide +kernel) (hK.2.1 6 _ rfl).2.1 ⟨rfl, rfl⟩ (zk_dg_ok qdo_8_11 (by decide +kernel)), List.forall_mem_cons.mpr ⟨zg_callV (fun w h => List.mem_cons_of_mem _ h) zg_tb_all S hK zg_Km qm36 zw2_183 zy_yX6_ahead_V (ci := 6) (by decide +kernel) (hK.2.1 6 _ rfl).2.1 ⟨rfl, rfl⟩ (zk_dg_ok qdo_8_11 (by decide +kernel)), List.forall_mem_cons.mpr ⟨zg_callS (fun w h => List.mem_cons_of_mem _ h) zg_tb_all S hK zg_Km qm141 zw3_50 zy_yX6_isComparison_S (by decide +kernel) ⟨rfl, rfl⟩ (zk_dg_ok qdo_8_11 (by decide +kernel)), List.forall_mem_cons.mpr ⟨zg_callV (fun w h => List.mem_cons_of_mem _ h) zg_tb_all S hK zg_Km qm127 zw3_33 zy_yX6_readSum_V (ci := 6) (by decide +kernel) (hK.2.1 6 _ rfl).2.1 ⟨rfl, rfl⟩ (zk_dg_ok qdo_8_11 (by decide +kernel)), List.forall_mem_cons.mpr ⟨zg_callV (fun w h => List.mem_cons_of_mem _ h) zg_tb_all S hK zg_Km qm47 zw3_25 zy_yX6_add_V (ci := 6) (by decide +kernel) (hK.2.1 6 _ rfl).2.1 ⟨rfl, rfl⟩ (zk_dg_ok qdo_8_11 (by decide +kernel)), fun _ h => absurd h List.not_mem_nil⟩⟩⟩⟩⟩⟩⟩⟩⟩⟩⟩
set_option maxRecDepth 100000 in
theorem qm157 {l : Launch} {D : zk_D} {base : Nat} {Hb : Heap} : zk_Met l qK D base Hb (zg_K D base Hb) yX6_readUnit (Jvm.Cond.code yX6_readUnit prog_8_method_11_code 5 (some .boolean) :: zg_tb) qR157 qC157 := zk_met (ws' := zg_tb) (P := qP157) (AT := zg_AT) zpn_X6 rfl rfl rfl qk157 (fun s hK => zg_wd hK) (fun p e s m args below meth c s₁ Q B hml hK => qo157 B hml hK) (fun p e s m args below meth c s₁ v G0 H0 B hml hK ha hp hF q hq => absurd hq List.not_mem_nil)
set_option maxRecDepth 100000 in
def qR158 : Room := { frames := 24, cells := 0, slots := 0, locals := 554 }
set_option maxHeartbeats 4000000 in
set_option maxRecDepth 100000 in
theorem qo158 {p : Program} {l : Launch} {e : Env} {s : State} {m : MethodId} {args : Array Value} {below : List Frame} {meth : Method} {c : Code} {s₁ : State} {Q : State → Prop} {D : zk_D} {base : Nat} {Hb : Heap} (B : BodyLoose p l yX6_readTruths (headSpec (Jvm.Cond.code yX6_readTruths prog_8_method_10_code 4 (some .boolean) :: zg_tb) qR158) prog_8_method_10_code 4 (some .boolean) e s m args below meth c s₁) (hml : c.maxLocals = 4) (hK : zg_K D base Hb s) : zk_ok p l e (headSpec (Jvm.Cond.code yX6_readTruths prog_8_method_10_code 4 (some .boolean) :: zg_tb) qR158).room s m args below meth c Q qK D base Hb 4 prog_8_method_10_code qP158 qC158.2.2.2.2 := by
  have S : CallFix p m c prog_8_method_10_code 4 s args (Jvm.Cond.code yX6_readTruths prog_8_method_10_code 4 (some .boolean) :: zg_tb) RX6 := ⟨B.exec, B.bytes, hml, findClass_of_methodNamed B.named, atoms_spec (ws := (Jvm.Cond.code yX6_readTruths prog_8_method_10_code 4 (some .boolean) :: zg_tb)) B.pre⟩
  exact ⟨fun _ h => absurd h List.not_mem_nil,
    fun _ h => absurd h List.not_mem_nil,
    fun _ h => absurd h List.not_mem_nil,
    fun _ h => absurd h List.not_mem_nil,
    fun h => absurd rfl h,
    fun _ h => absurd h List.not_mem_nil,
    List.forall_mem_cons.mpr ⟨zg_callV (fun w h => List.mem_cons_of_mem _ h) zg_tb_all S hK zg_Km qm157 zw3_61 zy_yX6_readUnit_V (ci := 6) (by decide +kernel) (hK.2.1 6 _ rfl).2.1 ⟨rfl, rfl⟩ (zk_dg_ok qdo_8_10 (by decide +kernel)), List.forall_mem_cons.mpr ⟨zg_callV (fun w h => List.mem_cons_of_mem _ h) zg_tb_all S hK zg_Km qm48 zw3_29 zy_yX6_pass_V (ci := 6) (by decide +kernel) (hK.2.1 6 _ rfl).2.1 ⟨rfl, rfl⟩ (zk_dg_ok qdo_8_10 (by decide +kernel)), List.forall_mem_cons.mpr ⟨zg_callV (fun w h => List.mem_cons_of_mem _ h) zg_tb_all S hK zg_Km qm157 zw3_61 zy_yX6_readUnit_V (ci := 6) (by decide +kernel) (hK.2.1 6 _ rfl).2.1 ⟨rfl, rfl⟩ (zk_dg_ok qdo_8_10 (by decide +kernel)), List.forall_mem_cons.mpr ⟨zg_callV (fun w h => List.mem_cons_of_mem _ h) zg_tb_all S hK zg_Km qm47 zw3_25 zy_yX6_add_V (ci := 6) (by decide +kernel) (hK.2.1 6 _ rfl).2.1 ⟨rfl, rfl⟩ (zk_dg_ok qdo_8_10 (by decide +kernel)), fun _ h => absurd h List.not_mem_nil⟩⟩⟩⟩⟩
set_option maxRecDepth 100000 in
theorem qm158 {l : Launch} {D : zk_D} {base : Nat} {Hb : Heap} : zk_Met l qK D base Hb (zg_K D base Hb) yX6_readTruths (Jvm.Cond.code yX6_readTruths prog_8_method_10_code 4 (some .boolean) :: zg_tb) qR158 qC158 := zk_met (ws' := zg_tb) (P := qP158) (AT := zg_AT) zpn_X6 rfl rfl rfl qk158 (fun s hK => zg_wd hK) (fun p e s m args below meth c s₁ Q B hml hK => qo158 B hml hK) (fun p e s m args below meth c s₁ v G0 H0 B hml hK ha hp hF q hq => absurd hq List.not_mem_nil)
set_option maxRecDepth 100000 in
def qR159 : Room := { frames := 25, cells := 0, slots := 0, locals := 577 }
set_option maxHeartbeats 4000000 in
set_option maxRecDepth 100000 in
theorem qo159 {p : Program} {l : Launch} {e : Env} {s : State} {m : MethodId} {args : Array Value} {below : List Frame} {meth : Method} {c : Code} {s₁ : State} {Q : State → Prop} {D : zk_D} {base : Nat} {Hb : Heap} (B : BodyLoose p l yX6_readCondition (headSpec (Jvm.Cond.code yX6_readCondition prog_8_method_9_code 4 (some .boolean) :: zg_tb) qR159) prog_8_method_9_code 4 (some .boolean) e s m args below meth c s₁) (hml : c.maxLocals = 4) (hK : zg_K D base Hb s) : zk_ok p l e (headSpec (Jvm.Cond.code yX6_readCondition prog_8_method_9_code 4 (some .boolean) :: zg_tb) qR159).room s m args below meth c Q qK D base Hb 4 prog_8_method_9_code qP159 qC159.2.2.2.2 := by
  have S : CallFix p m c prog_8_method_9_code 4 s args (Jvm.Cond.code yX6_readCondition prog_8_method_9_code 4 (some .boolean) :: zg_tb) RX6 := ⟨B.exec, B.bytes, hml, findClass_of_methodNamed B.named, atoms_spec (ws := (Jvm.Cond.code yX6_readCondition prog_8_method_9_code 4 (some .boolean) :: zg_tb)) B.pre⟩
  exact ⟨fun _ h => absurd h List.not_mem_nil,
    fun _ h => absurd h List.not_mem_nil,
    fun _ h => absurd h List.not_mem_nil,
    fun _ h => absurd h List.not_mem_nil,
    fun h => absurd rfl h,
    fun _ h => absurd h List.not_mem_nil,
    List.forall_mem_cons.mpr ⟨zg_callV (fun w h => List.mem_cons_of_mem _ h) zg_tb_all S hK zg_Km qm158 zw3_57 zy_yX6_readTruths_V (ci := 6) (by decide +kernel) (hK.2.1 6 _ rfl).2.1 ⟨rfl, rfl⟩ (zk_dg_ok qdo_8_9 (by decide +kernel)), List.forall_mem_cons.mpr ⟨zg_callV (fun w h => List.mem_cons_of_mem _ h) zg_tb_all S hK zg_Km qm48 zw3_29 zy_yX6_pass_V (ci := 6) (by decide +kernel) (hK.2.1 6 _ rfl).2.1 ⟨rfl, rfl⟩ (zk_dg_ok qdo_8_9 (by decide +kernel)), List.forall_mem_cons.mpr ⟨zg_callV (fun w h => List.mem_cons_of_mem _ h) zg_tb_all S hK zg_Km qm158 zw3_57 zy_yX6_readTruths_V (ci := 6) (by decide +kernel) (hK.2.1 6 _ rfl).2.1 ⟨rfl, rfl⟩ (zk_dg_ok qdo_8_9 (by decide +kernel)), List.forall_mem_cons.mpr ⟨zg_callV (fun w h => List.mem_cons_of_mem _ h) zg_tb_all S hK zg_Km qm47 zw3_25 zy_yX6_add_V (ci := 6) (by decide +kernel) (hK.2.1 6 _ rfl).2.1 ⟨rfl, rfl⟩ (zk_dg_ok qdo_8_9 (by decide +kernel)), fun _ h => absurd h List.not_mem_nil⟩⟩⟩⟩⟩
set_option maxRecDepth 100000 in
theorem qm159 {l : Launch} {D : zk_D} {base : Nat} {Hb : Heap} : zk_Met l qK D base Hb (zg_K D base Hb) yX6_readCondition (Jvm.Cond.code yX6_readCondition prog_8_method_9_code 4 (some .boolean) :: zg_tb) qR159 qC159 := zk_met (ws' := zg_tb) (P := qP159) (AT := zg_AT) zpn_X6 rfl rfl rfl qk159 (fun s hK => zg_wd hK) (fun p e s m args below meth c s₁ Q B hml hK => qo159 B hml hK) (fun p e s m args below meth c s₁ v G0 H0 B hml hK ha hp hF q hq => absurd hq List.not_mem_nil)
set_option maxRecDepth 100000 in
def qR160 : Room := { frames := 26, cells := 0, slots := 0, locals := 600 }
set_option maxHeartbeats 4000000 in
set_option maxRecDepth 100000 in
theorem qo160 {p : Program} {l : Launch} {e : Env} {s : State} {m : MethodId} {args : Array Value} {below : List Frame} {meth : Method} {c : Code} {s₁ : State} {Q : State → Prop} {D : zk_D} {base : Nat} {Hb : Heap} (B : BodyLoose p l yX6_readUnit (headSpec (Jvm.Cond.code yX6_readUnit prog_8_method_11_code 5 (some .boolean) :: zg_tb) qR160) prog_8_method_11_code 5 (some .boolean) e s m args below meth c s₁) (hml : c.maxLocals = 5) (hK : zg_K D base Hb s) : zk_ok p l e (headSpec (Jvm.Cond.code yX6_readUnit prog_8_method_11_code 5 (some .boolean) :: zg_tb) qR160).room s m args below meth c Q qK D base Hb 5 prog_8_method_11_code qP160 qC160.2.2.2.2 := by
  have S : CallFix p m c prog_8_method_11_code 5 s args (Jvm.Cond.code yX6_readUnit prog_8_method_11_code 5 (some .boolean) :: zg_tb) RX6 := ⟨B.exec, B.bytes, hml, findClass_of_methodNamed B.named, atoms_spec (ws := (Jvm.Cond.code yX6_readUnit prog_8_method_11_code 5 (some .boolean) :: zg_tb)) B.pre⟩
  exact ⟨List.forall_mem_cons.mpr ⟨zg_gp S (hK.2.1 6 _ rfl) (fun w h => (List.mem_cons_of_mem _ (zc6 w h))) rfl zt6_3 (List.mem_cons_of_mem _ zw1_119) rfl, fun _ h => absurd h List.not_mem_nil⟩,
    fun _ h => absurd h List.not_mem_nil,
    fun _ h => absurd h List.not_mem_nil,
    fun _ h => absurd h List.not_mem_nil,
    fun h => absurd rfl h,
    fun _ h => absurd h List.not_mem_nil,
    List.forall_mem_cons.mpr ⟨zg_callV (fun w h => List.mem_cons_of_mem _ h) zg_tb_all S hK zg_Km qm36 zw2_183 zy_yX6_ahead_V (ci := 6) (by decide +kernel) (hK.2.1 6 _ rfl).2.1 ⟨rfl, rfl⟩ (zk_dg_ok qdo_8_11 (by decide +kernel)), List.forall_mem_cons.mpr ⟨zg_callV (fun w h => List.mem_cons_of_mem _ h) zg_tb_all S hK zg_Km qm159 zw3_53 zy_yX6_readCondition_V (ci := 6) (by decide +kernel) (hK.2.1 6 _ rfl).2.1 ⟨rfl, rfl⟩ (zk_dg_ok qdo_8_11 (by decide +kernel)), List.forall_mem_cons.mpr ⟨zg_callV (fun w h => List.mem_cons_of_mem _ h) zg_tb_all S hK zg_Km qm48 zw3_29 zy_yX6_pass_V (ci := 6) (by decide +kernel) (hK.2.1 6 _ rfl).2.1 ⟨rfl, rfl⟩ (zk_dg_ok qdo_8_11 (by decide +kernel)), List.forall_mem_cons.mpr ⟨zg_callV (fun w h => List.mem_cons_of_mem _ h) zg_tb_all S hK zg_Km qm157 zw3_61 zy_yX6_readUnit_V (ci := 6) (by decide +kernel) (hK.2.1 6 _ rfl).2.1 ⟨rfl, rfl⟩ (zk_dg_ok qdo_8_11 (by decide +kernel)), List.forall_mem_cons.mpr ⟨zg_callV (fun w h => List.mem_cons_of_mem _ h) zg_tb_all S hK zg_Km qm47 zw3_25 zy_yX6_add_V (ci := 6) (by decide +kernel) (hK.2.1 6 _ rfl).2.1 ⟨rfl, rfl⟩ (zk_dg_ok qdo_8_11 (by decide +kernel)), List.forall_mem_cons.mpr ⟨zg_callV (fun w h => List.mem_cons_of_mem _ h) zg_tb_all S hK zg_Km qm140 zw3_33 zy_yX6_readSum_V (ci := 6) (by decide +kernel) (hK.2.1 6 _ rfl).2.1 ⟨rfl, rfl⟩ (zk_dg_ok qdo_8_11 (by decide +kernel)), List.forall_mem_cons.mpr ⟨zg_callV (fun w h => List.mem_cons_of_mem _ h) zg_tb_all S hK zg_Km qm36 zw2_183 zy_yX6_ahead_V (ci := 6) (by decide +kernel) (hK.2.1 6 _ rfl).2.1 ⟨rfl, rfl⟩ (zk_dg_ok qdo_8_11 (by decide +kernel)), List.forall_mem_cons.mpr ⟨zg_callS (fun w h => List.mem_cons_of_mem _ h) zg_tb_all S hK zg_Km qm141 zw3_50 zy_yX6_isComparison_S (by decide +kernel) ⟨rfl, rfl⟩ (zk_dg_ok qdo_8_11 (by decide +kernel)), List.forall_mem_cons.mpr ⟨zg_callV (fun w h => List.mem_cons_of_mem _ h) zg_tb_all S hK zg_Km qm140 zw3_33 zy_yX6_readSum_V (ci := 6) (by decide +kernel) (hK.2.1 6 _ rfl).2.1 ⟨rfl, rfl⟩ (zk_dg_ok qdo_8_11 (by decide +kernel)), List.forall_mem_cons.mpr ⟨zg_callV (fun w h => List.mem_cons_of_mem _ h) zg_tb_all S hK zg_Km qm47 zw3_25 zy_yX6_add_V (ci := 6) (by decide +kernel) (hK.2.1 6 _ rfl).2.1 ⟨rfl, rfl⟩ (zk_dg_ok qdo_8_11 (by decide +kernel)), fun _ h => absurd h List.not_mem_nil⟩⟩⟩⟩⟩⟩⟩⟩⟩⟩⟩
set_option maxRecDepth 100000 in
theorem qm160 {l : Launch} {D : zk_D} {base : Nat} {Hb : Heap} : zk_Met l qK D base Hb (zg_K D base Hb) yX6_readUnit (Jvm.Cond.code yX6_readUnit prog_8_method_11_code 5 (some .boolean) :: zg_tb) qR160 qC160 := zk_met (ws' := zg_tb) (P := qP160) (AT := zg_AT) zpn_X6 rfl rfl rfl qk160 (fun s hK => zg_wd hK) (fun p e s m args below meth c s₁ Q B hml hK => qo160 B hml hK) (fun p e s m args below meth c s₁ v G0 H0 B hml hK ha hp hF q hq => absurd hq List.not_mem_nil)
end
