/-! CONTRACTS MET: found by wip/an (python). -/
noncomputable section
set_option maxRecDepth 100000 in
def qR402 : Room := { frames := 2, cells := 0, slots := 0, locals := 40 }
set_option maxHeartbeats 4000000 in
set_option maxRecDepth 100000 in
theorem qo402 {p : Program} {l : Launch} {e : Env} {s : State} {m : MethodId} {args : Array Value} {below : List Frame} {meth : Method} {c : Code} {s₁ : State} {Q : State → Prop} {D : zk_D} {base : Nat} {Hb : Heap} (B : BodyLoose p l yJ0_length_8abf5 (headSpec (Jvm.Cond.code yJ0_length_8abf5 prog_19_method_54_code 1 (some .int) :: zg_tb) qR402) prog_19_method_54_code 1 (some .int) e s m args below meth c s₁) (hml : c.maxLocals = 1) (hK : zg_K D base Hb s) : zk_ok p l e (headSpec (Jvm.Cond.code yJ0_length_8abf5 prog_19_method_54_code 1 (some .int) :: zg_tb) qR402).room s m args below meth c Q qK D base Hb 1 prog_19_method_54_code qP402 qC402.2.2.2.2 := by
  have S : CallFix p m c prog_19_method_54_code 1 s args (Jvm.Cond.code yJ0_length_8abf5 prog_19_method_54_code 1 (some .int) :: zg_tb) RJ0 := ⟨B.exec, B.bytes, hml, findClass_of_methodNamed B.named, atoms_spec (ws := (Jvm.Cond.code yJ0_length_8abf5 prog_19_method_54_code 1 (some .int) :: zg_tb)) B.pre⟩
  exact ⟨List.forall_mem_cons.mpr ⟨⟨zg_gokS S (hK.2.2.2.2.2.2.2.2.1 _ (List.mem_of_getElem? (i := 0) rfl)) (List.mem_cons_of_mem _ zw8_57), zg_pok4⟩, fun _ h => absurd h List.not_mem_nil⟩,
    fun _ h => absurd h List.not_mem_nil,
    fun _ h => absurd h List.not_mem_nil,
    fun _ h => absurd h List.not_mem_nil,
    fun h => absurd rfl h,
    fun _ h => absurd h List.not_mem_nil,
    List.forall_mem_cons.mpr ⟨zg_callV (fun w h => List.mem_cons_of_mem _ h) zg_tb_all S hK zg_Km qm401 zw1_140 zy_yJ0_coder_7d493_V (ci := 13) (by decide +kernel) hK.2.2.2.2.2.2.2.1 ⟨rfl, rfl⟩ (zk_dg_ok qdo_19_54 (by decide +kernel)), fun _ h => absurd h List.not_mem_nil⟩⟩
set_option maxRecDepth 100000 in
theorem qm402 {l : Launch} {D : zk_D} {base : Nat} {Hb : Heap} : zk_Met l qK D base Hb (zg_K D base Hb) yJ0_length_8abf5 (Jvm.Cond.code yJ0_length_8abf5 prog_19_method_54_code 1 (some .int) :: zg_tb) qR402 qC402 := zk_met (ws' := zg_tb) (P := qP402) (AT := zg_AT) zpn_J0 rfl rfl rfl qk402 (fun s hK => zg_wd hK) (fun p e s m args below meth c s₁ Q B hml hK => qo402 B hml hK) (fun p e s m args below meth c s₁ v G0 H0 B hml hK ha hp hF q hq => absurd hq List.not_mem_nil)
set_option maxRecDepth 100000 in
def qR403 : Room := { frames := 1, cells := 0, slots := 0, locals := 20 }
set_option maxHeartbeats 4000000 in
set_option maxRecDepth 100000 in
theorem qo403 {p : Program} {l : Launch} {e : Env} {s : State} {m : MethodId} {args : Array Value} {below : List Frame} {meth : Method} {c : Code} {s₁ : State} {Q : State → Prop} {D : zk_D} {base : Nat} {Hb : Heap} (B : BodyLoose p l yJ1_canEncode_9a6ad (headSpec (Jvm.Cond.code yJ1_canEncode_9a6ad prog_20_method_4_code 1 (some .boolean) :: zg_tb) qR403) prog_20_method_4_code 1 (some .boolean) e s m args below meth c s₁) (hml : c.maxLocals = 1) (hK : zg_K D base Hb s) : zk_ok p l e (headSpec (Jvm.Cond.code yJ1_canEncode_9a6ad prog_20_method_4_code 1 (some .boolean) :: zg_tb) qR403).room s m args below meth c Q qK D base Hb 1 prog_20_method_4_code qP403 qC403.2.2.2.2 := by
  have S : CallFix p m c prog_20_method_4_code 1 s args (Jvm.Cond.code yJ1_canEncode_9a6ad prog_20_method_4_code 1 (some .boolean) :: zg_tb) RJ1 := ⟨B.exec, B.bytes, hml, findClass_of_methodNamed B.named, atoms_spec (ws := (Jvm.Cond.code yJ1_canEncode_9a6ad prog_20_method_4_code 1 (some .boolean) :: zg_tb)) B.pre⟩
  exact ⟨fun _ h => absurd h List.not_mem_nil,
    fun _ h => absurd h List.not_mem_nil,
    fun _ h => absurd h List.not_mem_nil,
    fun _ h => absurd h List.not_mem_nil,
    fun h => absurd rfl h,
    fun _ h => absurd h List.not_mem_nil,
    fun _ h => absurd h List.not_mem_nil⟩
set_option maxRecDepth 100000 in
theorem qm403 {l : Launch} {D : zk_D} {base : Nat} {Hb : Heap} : zk_Met l qK D base Hb (zg_K D base Hb) yJ1_canEncode_9a6ad (Jvm.Cond.code yJ1_canEncode_9a6ad prog_20_method_4_code 1 (some .boolean) :: zg_tb) qR403 qC403 := zk_met (ws' := zg_tb) (P := qP403) (AT := zg_AT) zpn_J1 rfl rfl rfl qk403 (fun s hK => zg_wd hK) (fun p e s m args below meth c s₁ Q B hml hK => qo403 B hml hK) (fun p e s m args below meth c s₁ v G0 H0 B hml hK ha hp hF q hq => absurd hq List.not_mem_nil)
set_option maxRecDepth 100000 in
def qR404 : Room := { frames := 1, cells := 0, slots := 0, locals := 20 }
set_option maxHeartbeats 4000000 in
set_option maxRecDepth 100000 in
theorem qo404 {p : Program} {l : Launch} {e : Env} {s : State} {m : MethodId} {args : Array Value} {below : List Frame} {meth : Method} {c : Code} {s₁ : State} {Q : State → Prop} {D : zk_D} {base : Nat} {Hb : Heap} (B : BodyLoose p l yJ9_max_7cf53 (headSpec (Jvm.Cond.code yJ9_max_7cf53 prog_18_method_65_code 2 (some .int) :: zg_tb) qR404) prog_18_method_65_code 2 (some .int) e s m args below meth c s₁) (hml : c.maxLocals = 2) (hK : zg_K D base Hb s) : zk_ok p l e (headSpec (Jvm.Cond.code yJ9_max_7cf53 prog_18_method_65_code 2 (some .int) :: zg_tb) qR404).room s m args below meth c Q qK D base Hb 2 prog_18_method_65_code qP404 qC404.2.2.2.2 := by
  have S : CallFix p m c prog_18_method_65_code 2 s args (Jvm.Cond.code yJ9_max_7cf53 prog_18_method_65_code 2 (some .int) :: zg_tb) RJ9 := ⟨B.exec, B.bytes, hml, findClass_of_methodNamed B.named, atoms_spec (ws := (Jvm.Cond.code yJ9_max_7cf53 prog_18_method_65_code 2 (some .int) :: zg_tb)) B.pre⟩
  exact ⟨fun _ h => absurd h List.not_mem_nil,
    fun _ h => absurd h List.not_mem_nil,
    fun _ h => absurd h List.not_mem_nil,
    fun _ h => absurd h List.not_mem_nil,
    fun h => absurd rfl h,
    fun _ h => absurd h List.not_mem_nil,
    fun _ h => absurd h List.not_mem_nil⟩
set_option maxRecDepth 100000 in
theorem qm404 {l : Launch} {D : zk_D} {base : Nat} {Hb : Heap} : zk_Met l qK D base Hb (zg_K D base Hb) yJ9_max_7cf53 (Jvm.Cond.code yJ9_max_7cf53 prog_18_method_65_code 2 (some .int) :: zg_tb) qR404 qC404 := zk_metF (ws' := zg_tb) (P := qP404) (AT := zg_AT) zpf_yJ9_max_7cf53 rfl rfl rfl qk404 (fun s hK => zg_wd hK) (fun p e s m args below meth c s₁ Q B hml hK => qo404 B hml hK) (fun p e s m args below meth c s₁ v G0 H0 B hml hK ha hp hF q hq => absurd hq List.not_mem_nil)
set_option maxRecDepth 100000 in
def qR405 : Room := { frames := 1, cells := 0, slots := 0, locals := 20 }
set_option maxHeartbeats 4000000 in
set_option maxRecDepth 100000 in
theorem qo405 {p : Program} {l : Launch} {e : Env} {s : State} {m : MethodId} {args : Array Value} {below : List Frame} {meth : Method} {c : Code} {s₁ : State} {Q : State → Prop} {D : zk_D} {base : Nat} {Hb : Heap} (B : BodyLoose p l yJ9_min_7cf53 (headSpec (Jvm.Cond.code yJ9_min_7cf53 prog_18_method_69_code 2 (some .int) :: zg_tb) qR405) prog_18_method_69_code 2 (some .int) e s m args below meth c s₁) (hml : c.maxLocals = 2) (hK : zg_K D base Hb s) : zk_ok p l e (headSpec (Jvm.Cond.code yJ9_min_7cf53 prog_18_method_69_code 2 (some .int) :: zg_tb) qR405).room s m args below meth c Q qK D base Hb 2 prog_18_method_69_code qP405 qC405.2.2.2.2 := by
  have S : CallFix p m c prog_18_method_69_code 2 s args (Jvm.Cond.code yJ9_min_7cf53 prog_18_method_69_code 2 (some .int) :: zg_tb) RJ9 := ⟨B.exec, B.bytes, hml, findClass_of_methodNamed B.named, atoms_spec (ws := (Jvm.Cond.code yJ9_min_7cf53 prog_18_method_69_code 2 (some .int) :: zg_tb)) B.pre⟩
  exact ⟨fun _ h => absurd h List.not_mem_nil,
    fun _ h => absurd h List.not_mem_nil,
    fun _ h => absurd h List.not_mem_nil,
    fun _ h => absurd h List.not_mem_nil,
    fun h => absurd rfl h,
    fun _ h => absurd h List.not_mem_nil,
    fun _ h => absurd h List.not_mem_nil⟩
set_option maxRecDepth 100000 in
theorem qm405 {l : Launch} {D : zk_D} {base : Nat} {Hb : Heap} : zk_Met l qK D base Hb (zg_K D base Hb) yJ9_min_7cf53 (Jvm.Cond.code yJ9_min_7cf53 prog_18_method_69_code 2 (some .int) :: zg_tb) qR405 qC405 := zk_metF (ws' := zg_tb) (P := qP405) (AT := zg_AT) zpf_yJ9_min_7cf53 rfl rfl rfl qk405 (fun s hK => zg_wd hK) (fun p e s m args below meth c s₁ Q B hml hK => qo405 B hml hK) (fun p e s m args below meth c s₁ v G0 H0 B hml hK ha hp hF q hq => absurd hq List.not_mem_nil)
set_option maxRecDepth 100000 in
def qR406 : Room := { frames := 1, cells := 0, slots := 0, locals := 20 }
set_option maxHeartbeats 4000000 in
set_option maxRecDepth 100000 in
theorem qo406 {p : Program} {l : Launch} {e : Env} {s : State} {m : MethodId} {args : Array Value} {below : List Frame} {meth : Method} {c : Code} {s₁ : State} {Q : State → Prop} {D : zk_D} {base : Nat} {Hb : Heap} (B : BodyLoose p l yJ1_indexOfChar_4cfef (headSpec (Jvm.Cond.code yJ1_indexOfChar_4cfef prog_20_method_23_code 6 (some .int) :: zg_tb) qR406) prog_20_method_23_code 6 (some .int) e s m args below meth c s₁) (hml : c.maxLocals = 6) (hK : zg_K D base Hb s) : zk_ok p l e (headSpec (Jvm.Cond.code yJ1_indexOfChar_4cfef prog_20_method_23_code 6 (some .int) :: zg_tb) qR406).room s m args below meth c Q qK D base Hb 6 prog_20_method_23_code qP406 qC406.2.2.2.2 := by
  have S : CallFix p m c prog_20_method_23_code 6 s args (Jvm.Cond.code yJ1_indexOfChar_4cfef prog_20_method_23_code 6 (some .int) :: zg_tb) RJ1 := ⟨B.exec, B.bytes, hml, findClass_of_methodNamed B.named, atoms_spec (ws := (Jvm.Cond.code yJ1_indexOfChar_4cfef prog_20_method_23_code 6 (some .int) :: zg_tb)) B.pre⟩
  exact ⟨fun _ h => absurd h List.not_mem_nil,
    fun _ h => absurd h List.not_mem_nil,
    fun _ h => absurd h List.not_mem_nil,
    fun _ h => absurd h List.not_mem_nil,
    fun h => absurd rfl h,
    fun _ h => absurd h List.not_mem_nil,
    fun _ h => absurd h List.not_mem_nil⟩
set_option maxRecDepth 100000 in
theorem qm406 {l : Launch} {D : zk_D} {base : Nat} {Hb : Heap} : zk_Met l qK D base Hb (zg_K D base Hb) yJ1_indexOfChar_4cfef (Jvm.Cond.code yJ1_indexOfChar_4cfef prog_20_method_23_code 6 (some .int) :: zg_tb) qR406 qC406 := zk_met (ws' := zg_tb) (P := qP406) (AT := zg_AT) zpn_J1 rfl rfl rfl qk406 (fun s hK => zg_wd hK) (fun p e s m args below meth c s₁ Q B hml hK => qo406 B hml hK) (fun p e s m args below meth c s₁ v G0 H0 B hml hK ha hp hF q hq => absurd hq List.not_mem_nil)
set_option maxRecDepth 100000 in
def qR407 : Room := { frames := 2, cells := 0, slots := 0, locals := 45 }
set_option maxHeartbeats 4000000 in
set_option maxRecDepth 100000 in
theorem qo407 {p : Program} {l : Launch} {e : Env} {s : State} {m : MethodId} {args : Array Value} {below : List Frame} {meth : Method} {c : Code} {s₁ : State} {Q : State → Prop} {D : zk_D} {base : Nat} {Hb : Heap} (B : BodyLoose p l yJ1_indexOf_4cfef (headSpec (Jvm.Cond.code yJ1_indexOf_4cfef prog_20_method_22_code 4 (some .int) :: zg_tb) qR407) prog_20_method_22_code 4 (some .int) e s m args below meth c s₁) (hml : c.maxLocals = 4) (hK : zg_K D base Hb s) : zk_ok p l e (headSpec (Jvm.Cond.code yJ1_indexOf_4cfef prog_20_method_22_code 4 (some .int) :: zg_tb) qR407).room s m args below meth c Q qK D base Hb 4 prog_20_method_22_code qP407 qC407.2.2.2.2 := by
  have S : CallFix p m c prog_20_method_22_code 4 s args (Jvm.Cond.code yJ1_indexOf_4cfef prog_20_method_22_code 4 (some .int) :: zg_tb) RJ1 := ⟨B.exec, B.bytes, hml, findClass_of_methodNamed B.named, atoms_spec (ws := (Jvm.Cond.code yJ1_indexOf_4cfef prog_20_method_22_code 4 (some .int) :: zg_tb)) B.pre⟩
  exact ⟨fun _ h => absurd h List.not_mem_nil,
    fun _ h => absurd h List.not_mem_nil,
    fun _ h => absurd h List.not_mem_nil,
    fun _ h => absurd h List.not_mem_nil,
    fun h => absurd rfl h,
    fun _ h => absurd h List.not_mem_nil,
    List.forall_mem_cons.mpr ⟨zg_callS (fun w h => List.mem_cons_of_mem _ h) zg_tb_all S hK zg_Km qm403 zw2_204 zy_yJ1_canEncode_9a6ad_S (by decide +kernel) ⟨rfl, rfl⟩ (zk_dg_ok qdo_20_22 (by decide +kernel)), List.forall_mem_cons.mpr ⟨zg_callS (fun w h => List.mem_cons_of_mem _ h) zg_tb_all S hK zg_Km qm404 zw2_207 zy_yJ9_max_7cf53_S (by decide +kernel) ⟨rfl, rfl⟩ (zk_dg_ok qdo_20_22 (by decide +kernel)), List.forall_mem_cons.mpr ⟨zg_callS (fun w h => List.mem_cons_of_mem _ h) zg_tb_all S hK zg_Km qm405 zw2_210 zy_yJ9_min_7cf53_S (by decide +kernel) ⟨rfl, rfl⟩ (zk_dg_ok qdo_20_22 (by decide +kernel)), List.forall_mem_cons.mpr ⟨zg_callS (fun w h => List.mem_cons_of_mem _ h) zg_tb_all S hK zg_Km qm406 zw2_213 zy_yJ1_indexOfChar_4cfef_S (by decide +kernel) ⟨rfl, rfl⟩ (zk_dg_ok qdo_20_22 (by decide +kernel)), fun _ h => absurd h List.not_mem_nil⟩⟩⟩⟩⟩
set_option maxRecDepth 100000 in
theorem qm407 {l : Launch} {D : zk_D} {base : Nat} {Hb : Heap} : zk_Met l qK D base Hb (zg_K D base Hb) yJ1_indexOf_4cfef (Jvm.Cond.code yJ1_indexOf_4cfef prog_20_method_22_code 4 (some .int) :: zg_tb) qR407 qC407 := zk_met (ws' := zg_tb) (P := qP407) (AT := zg_AT) zpn_J1 rfl rfl rfl qk407 (fun s hK => zg_wd hK) (fun p e s m args below meth c s₁ Q B hml hK => qo407 B hml hK) (fun p e s m args below meth c s₁ v G0 H0 B hml hK ha hp hF q hq => absurd hq List.not_mem_nil)
set_option maxRecDepth 100000 in
def qR408 : Room := { frames := 3, cells := 0, slots := 0, locals := 68 }
set_option maxHeartbeats 4000000 in
set_option maxRecDepth 100000 in
theorem qo408 {p : Program} {l : Launch} {e : Env} {s : State} {m : MethodId} {args : Array Value} {below : List Frame} {meth : Method} {c : Code} {s₁ : State} {Q : State → Prop} {D : zk_D} {base : Nat} {Hb : Heap} (B : BodyLoose p l yJ0_indexOf_7cf53 (headSpec (Jvm.Cond.code yJ0_indexOf_7cf53 prog_19_method_80_code 3 (some .int) :: zg_tb) qR408) prog_19_method_80_code 3 (some .int) e s m args below meth c s₁) (hml : c.maxLocals = 3) (hK : zg_K D base Hb s) : zk_ok p l e (headSpec (Jvm.Cond.code yJ0_indexOf_7cf53 prog_19_method_80_code 3 (some .int) :: zg_tb) qR408).room s m args below meth c Q qK D base Hb 3 prog_19_method_80_code qP408 qC408.2.2.2.2 := by
  have S : CallFix p m c prog_19_method_80_code 3 s args (Jvm.Cond.code yJ0_indexOf_7cf53 prog_19_method_80_code 3 (some .int) :: zg_tb) RJ0 := ⟨B.exec, B.bytes, hml, findClass_of_methodNamed B.named, atoms_spec (ws := (Jvm.Cond.code yJ0_indexOf_7cf53 prog_19_method_80_code 3 (some .int) :: zg_tb)) B.pre⟩
  exact ⟨List.forall_mem_cons.mpr ⟨⟨zg_gokS S (hK.2.2.2.2.2.2.2.2.1 _ (List.mem_of_getElem? (i := 0) rfl)) (List.mem_cons_of_mem _ zw8_57), zg_pok4⟩, fun _ h => absurd h List.not_mem_nil⟩,
    fun _ h => absurd h List.not_mem_nil,
    fun _ h => absurd h List.not_mem_nil,
    fun _ h => absurd h List.not_mem_nil,
    fun h => absurd rfl h,
    fun _ h => absurd h List.not_mem_nil,
    List.forall_mem_cons.mpr ⟨zg_callV (fun w h => List.mem_cons_of_mem _ h) zg_tb_all S hK zg_Km qm400 zw2_196 zy_yJ0_isLatin1_aae02_V (ci := 13) (by decide +kernel) hK.2.2.2.2.2.2.2.1 ⟨rfl, rfl⟩ (zk_dg_ok qdo_19_80 (by decide +kernel)), List.forall_mem_cons.mpr ⟨zg_callV (fun w h => List.mem_cons_of_mem _ h) zg_tb_all S hK zg_Km qm402 zw2_200 zy_yJ0_length_8abf5_V (ci := 13) (by decide +kernel) hK.2.2.2.2.2.2.2.1 ⟨rfl, rfl⟩ (zk_dg_ok qdo_19_80 (by decide +kernel)), List.forall_mem_cons.mpr ⟨zg_callS (fun w h => List.mem_cons_of_mem _ h) zg_tb_all S hK zg_Km qm407 zw2_201 zy_yJ1_indexOf_4cfef_S (by decide +kernel) ⟨rfl, rfl⟩ (zk_dg_ok qdo_19_80 (by decide +kernel)), fun _ h => absurd h List.not_mem_nil⟩⟩⟩⟩
set_option maxRecDepth 100000 in
theorem qm408 {l : Launch} {D : zk_D} {base : Nat} {Hb : Heap} : zk_Met l qK D base Hb (zg_K D base Hb) yJ0_indexOf_7cf53 (Jvm.Cond.code yJ0_indexOf_7cf53 prog_19_method_80_code 3 (some .int) :: zg_tb) qR408 qC408 := zk_met (ws' := zg_tb) (P := qP408) (AT := zg_AT) zpn_J0 rfl rfl rfl qk408 (fun s hK => zg_wd hK) (fun p e s m args below meth c s₁ Q B hml hK => qo408 B hml hK) (fun p e s m args below meth c s₁ v G0 H0 B hml hK ha hp hF q hq => absurd hq List.not_mem_nil)
set_option maxRecDepth 100000 in
def qR409 : Room := { frames := 4, cells := 0, slots := 0, locals := 90 }
set_option maxHeartbeats 4000000 in
set_option maxRecDepth 100000 in
theorem qo409 {p : Program} {l : Launch} {e : Env} {s : State} {m : MethodId} {args : Array Value} {below : List Frame} {meth : Method} {c : Code} {s₁ : State} {Q : State → Prop} {D : zk_D} {base : Nat} {Hb : Heap} (B : BodyLoose p l yJ0_indexOf_0f7a4 (headSpec (Jvm.Cond.code yJ0_indexOf_0f7a4 prog_19_method_79_code 2 (some .int) :: zg_tb) qR409) prog_19_method_79_code 2 (some .int) e s m args below meth c s₁) (hml : c.maxLocals = 2) (hK : zg_K D base Hb s) : zk_ok p l e (headSpec (Jvm.Cond.code yJ0_indexOf_0f7a4 prog_19_method_79_code 2 (some .int) :: zg_tb) qR409).room s m args below meth c Q qK D base Hb 2 prog_19_method_79_code qP409 qC409.2.2.2.2 := by
  have S : CallFix p m c prog_19_method_79_code 2 s args (Jvm.Cond.code yJ0_indexOf_0f7a4 prog_19_method_79_code 2 (some .int) :: zg_tb) RJ0 := ⟨B.exec, B.bytes, hml, findClass_of_methodNamed B.named, atoms_spec (ws := (Jvm.Cond.code yJ0_indexOf_0f7a4 prog_19_method_79_code 2 (some .int) :: zg_tb)) B.pre⟩
  exact ⟨fun _ h => absurd h List.not_mem_nil,
    fun _ h => absurd h List.not_mem_nil,
    fun _ h => absurd h List.not_mem_nil,
    fun _ h => absurd h List.not_mem_nil,
    fun h => absurd rfl h,
    fun _ h => absurd h List.not_mem_nil,
    List.forall_mem_cons.mpr ⟨zg_callV (fun w h => List.mem_cons_of_mem _ h) zg_tb_all S hK zg_Km qm408 zw2_192 zy_yJ0_indexOf_7cf53_V (ci := 13) (by decide +kernel) hK.2.2.2.2.2.2.2.1 ⟨rfl, rfl⟩ (zk_dg_ok qdo_19_79 (by decide +kernel)), fun _ h => absurd h List.not_mem_nil⟩⟩
set_option maxRecDepth 100000 in
theorem qm409 {l : Launch} {D : zk_D} {base : Nat} {Hb : Heap} : zk_Met l qK D base Hb (zg_K D base Hb) yJ0_indexOf_0f7a4 (Jvm.Cond.code yJ0_indexOf_0f7a4 prog_19_method_79_code 2 (some .int) :: zg_tb) qR409 qC409 := zk_met (ws' := zg_tb) (P := qP409) (AT := zg_AT) zpn_J0 rfl rfl rfl qk409 (fun s hK => zg_wd hK) (fun p e s m args below meth c s₁ Q B hml hK => qo409 B hml hK) (fun p e s m args below meth c s₁ v G0 H0 B hml hK ha hp hF q hq => absurd hq List.not_mem_nil)
set_option maxRecDepth 100000 in
def qR410 : Room := { frames := 5, cells := 0, slots := 0, locals := 111 }
set_option maxHeartbeats 4000000 in
set_option maxRecDepth 100000 in
theorem qo410 {p : Program} {l : Launch} {e : Env} {s : State} {m : MethodId} {args : Array Value} {below : List Frame} {meth : Method} {c : Code} {s₁ : State} {Q : State → Prop} {D : zk_D} {base : Nat} {Hb : Heap} (B : BodyLoose p l yX0_set (headSpec (Jvm.Cond.code yX0_set prog_2_method_3_code 4 none :: zg_tb) qR410) prog_2_method_3_code 4 none e s m args below meth c s₁) (hml : c.maxLocals = 4) (hK : zg_K D base Hb s) : zk_ok p l e (headSpec (Jvm.Cond.code yX0_set prog_2_method_3_code 4 none :: zg_tb) qR410).room s m args below meth c Q qK D base Hb 4 prog_2_method_3_code qP410 qC410.2.2.2.2 := by
  have S : CallFix p m c prog_2_method_3_code 4 s args (Jvm.Cond.code yX0_set prog_2_method_3_code 4 none :: zg_tb) RX0 := ⟨B.exec, B.bytes, hml, findClass_of_methodNamed B.named, atoms_spec (ws := (Jvm.Cond.code yX0_set prog_2_method_3_code 4 none :: zg_tb)) B.pre⟩
  exact ⟨List.forall_mem_cons.mpr ⟨zg_gp4 S (hK.2.1 0 _ rfl) (fun w h => (List.mem_cons_of_mem _ (zc0 w h))) rfl zt0_0 (List.mem_cons_of_mem _ zw1_146), fun _ h => absurd h List.not_mem_nil⟩,
    fun _ h => absurd h List.not_mem_nil,
    fun _ h => absurd h List.not_mem_nil,
    fun _ h => absurd h List.not_mem_nil,
    fun h => absurd rfl h,
    List.forall_mem_cons.mpr ⟨zg_kokS (k := 24) (tx := "wlsknauhrmyo") S (zg_sR0 hK) (by decide +kernel) (by decide) (zk_dg_ok qdo_2_3 (by decide +kernel)), fun _ h => absurd h List.not_mem_nil⟩,
    List.forall_mem_cons.mpr ⟨zg_callV (fun w h => List.mem_cons_of_mem _ h) zg_tb_all S hK zg_Km qm409 zw3_161 zy_yJ0_indexOf_0f7a4_V (ci := 13) (by decide +kernel) hK.2.2.2.2.2.2.2.1 ⟨rfl, rfl⟩ (zk_dg_ok qdo_2_3 (by decide +kernel)), fun _ h => absurd h List.not_mem_nil⟩⟩
set_option maxRecDepth 100000 in
theorem qm410 {l : Launch} {D : zk_D} {base : Nat} {Hb : Heap} : zk_Met l qK D base Hb (zg_K D base Hb) yX0_set (Jvm.Cond.code yX0_set prog_2_method_3_code 4 none :: zg_tb) qR410 qC410 := zk_met (ws' := zg_tb) (P := qP410) (AT := zg_AT) zpn_X0 rfl rfl rfl qk410 (fun s hK => zg_wd hK) (fun p e s m args below meth c s₁ Q B hml hK => qo410 B hml hK) (fun p e s m args below meth c s₁ v G0 H0 B hml hK ha hp hF q hq => absurd hq List.not_mem_nil)
set_option maxRecDepth 100000 in
def qR411 : Room := { frames := 1, cells := 0, slots := 0, locals := 20 }
set_option maxHeartbeats 4000000 in
set_option maxRecDepth 100000 in
theorem qo411 {p : Program} {l : Launch} {e : Env} {s : State} {m : MethodId} {args : Array Value} {below : List Frame} {meth : Method} {c : Code} {s₁ : State} {Q : State → Prop} {D : zk_D} {base : Nat} {Hb : Heap} (B : BodyLoose p l yX0_pop (headSpec (Jvm.Cond.code yX0_pop prog_2_method_9_code 1 (some .int) :: zg_tb) qR411) prog_2_method_9_code 1 (some .int) e s m args below meth c s₁) (hml : c.maxLocals = 1) (hK : zg_K D base Hb s) : zk_ok p l e (headSpec (Jvm.Cond.code yX0_pop prog_2_method_9_code 1 (some .int) :: zg_tb) qR411).room s m args below meth c Q qK D base Hb 1 prog_2_method_9_code qP411 qC411.2.2.2.2 := by
  have S : CallFix p m c prog_2_method_9_code 1 s args (Jvm.Cond.code yX0_pop prog_2_method_9_code 1 (some .int) :: zg_tb) RX0 := ⟨B.exec, B.bytes, hml, findClass_of_methodNamed B.named, atoms_spec (ws := (Jvm.Cond.code yX0_pop prog_2_method_9_code 1 (some .int) :: zg_tb)) B.pre⟩
  exact ⟨List.forall_mem_cons.mpr ⟨zg_gp S (hK.2.1 0 _ rfl) (fun w h => (List.mem_cons_of_mem _ (zc0 w h))) rfl zt0_2 (List.mem_cons_of_mem _ zw1_148) rfl, List.forall_mem_cons.mpr ⟨zg_gp4 S (hK.2.1 0 _ rfl) (fun w h => (List.mem_cons_of_mem _ (zc0 w h))) rfl zt0_1 (List.mem_cons_of_mem _ zw1_147), fun _ h => absurd h List.not_mem_nil⟩⟩,
    fun _ h => absurd h List.not_mem_nil,
    fun _ h => absurd h List.not_mem_nil,
    fun _ h => absurd h List.not_mem_nil,
    fun h => absurd rfl h,
    fun _ h => absurd h List.not_mem_nil,
    fun _ h => absurd h List.not_mem_nil⟩
set_option maxRecDepth 100000 in
theorem qm411 {l : Launch} {D : zk_D} {base : Nat} {Hb : Heap} : zk_Met l qK D base Hb (zg_K D base Hb) yX0_pop (Jvm.Cond.code yX0_pop prog_2_method_9_code 1 (some .int) :: zg_tb) qR411 qC411 := zk_met (ws' := zg_tb) (P := qP411) (AT := zg_AT) zpn_X0 rfl rfl rfl qk411 (fun s hK => zg_wd hK) (fun p e s m args below meth c s₁ Q B hml hK => qo411 B hml hK) (fun p e s m args below meth c s₁ v G0 H0 B hml hK ha hp hF q hq => absurd hq List.not_mem_nil)
set_option maxRecDepth 100000 in
def qR412 : Room := { frames := 1, cells := 0, slots := 0, locals := 20 }
set_option maxHeartbeats 4000000 in
set_option maxRecDepth 100000 in
theorem qo412 {p : Program} {l : Launch} {e : Env} {s : State} {m : MethodId} {args : Array Value} {below : List Frame} {meth : Method} {c : Code} {s₁ : State} {Q : State → Prop} {D : zk_D} {base : Nat} {Hb : Heap} (B : BodyLoose p l yX0_push (headSpec (Jvm.Cond.code yX0_push prog_2_method_8_code 2 none :: zg_tb) qR412) prog_2_method_8_code 2 none e s m args below meth c s₁) (hml : c.maxLocals = 2) (hK : zg_K D base Hb s) : zk_ok p l e (headSpec (Jvm.Cond.code yX0_push prog_2_method_8_code 2 none :: zg_tb) qR412).room s m args below meth c Q qK D base Hb 2 prog_2_method_8_code qP412 qC412.2.2.2.2 := by
  have S : CallFix p m c prog_2_method_8_code 2 s args (Jvm.Cond.code yX0_push prog_2_method_8_code 2 none :: zg_tb) RX0 := ⟨B.exec, B.bytes, hml, findClass_of_methodNamed B.named, atoms_spec (ws := (Jvm.Cond.code yX0_push prog_2_method_8_code 2 none :: zg_tb)) B.pre⟩
  exact ⟨List.forall_mem_cons.mpr ⟨zg_gp S (hK.2.1 0 _ rfl) (fun w h => (List.mem_cons_of_mem _ (zc0 w h))) rfl zt0_2 (List.mem_cons_of_mem _ zw1_148) rfl, List.forall_mem_cons.mpr ⟨zg_gp4 S (hK.2.1 0 _ rfl) (fun w h => (List.mem_cons_of_mem _ (zc0 w h))) rfl zt0_1 (List.mem_cons_of_mem _ zw1_147), fun _ h => absurd h List.not_mem_nil⟩⟩,
    fun _ h => absurd h List.not_mem_nil,
    fun _ h => absurd h List.not_mem_nil,
    fun _ h => absurd h List.not_mem_nil,
    fun h => absurd rfl h,
    fun _ h => absurd h List.not_mem_nil,
    fun _ h => absurd h List.not_mem_nil⟩
set_option maxRecDepth 100000 in
theorem qm412 {l : Launch} {D : zk_D} {base : Nat} {Hb : Heap} : zk_Met l qK D base Hb (zg_K D base Hb) yX0_push (Jvm.Cond.code yX0_push prog_2_method_8_code 2 none :: zg_tb) qR412 qC412 := zk_met (ws' := zg_tb) (P := qP412) (AT := zg_AT) zpn_X0 rfl rfl rfl qk412 (fun s hK => zg_wd hK) (fun p e s m args below meth c s₁ Q B hml hK => qo412 B hml hK) (fun p e s m args below meth c s₁ v G0 H0 B hml hK ha hp hF q hq => absurd hq List.not_mem_nil)
set_option maxRecDepth 100000 in
def qR413 : Room := { frames := 1, cells := 0, slots := 0, locals := 20 }
set_option maxHeartbeats 4000000 in
set_option maxRecDepth 100000 in
theorem qo413 {p : Program} {l : Launch} {e : Env} {s : State} {m : MethodId} {args : Array Value} {below : List Frame} {meth : Method} {c : Code} {s₁ : State} {Q : State → Prop} {D : zk_D} {base : Nat} {Hb : Heap} (B : BodyLoose p l yX0_joined (headSpec (Jvm.Cond.code yX0_joined prog_2_method_6_code 5 (some .long) :: zg_tb) qR413) prog_2_method_6_code 5 (some .long) e s m args below meth c s₁) (hml : c.maxLocals = 5) (hK : zg_K D base Hb s) : zk_ok p l e (headSpec (Jvm.Cond.code yX0_joined prog_2_method_6_code 5 (some .long) :: zg_tb) qR413).room s m args below meth c Q qK D base Hb 5 prog_2_method_6_code qP413 qC413.2.2.2.2 := by
  have S : CallFix p m c prog_2_method_6_code 5 s args (Jvm.Cond.code yX0_joined prog_2_method_6_code 5 (some .long) :: zg_tb) RX0 := ⟨B.exec, B.bytes, hml, findClass_of_methodNamed B.named, atoms_spec (ws := (Jvm.Cond.code yX0_joined prog_2_method_6_code 5 (some .long) :: zg_tb)) B.pre⟩
  exact ⟨fun _ h => absurd h List.not_mem_nil,
    fun _ h => absurd h List.not_mem_nil,
    fun _ h => absurd h List.not_mem_nil,
    fun _ h => absurd h List.not_mem_nil,
    fun h => absurd rfl h,
    fun _ h => absurd h List.not_mem_nil,
    fun _ h => absurd h List.not_mem_nil⟩
set_option maxRecDepth 100000 in
theorem qm413 {l : Launch} {D : zk_D} {base : Nat} {Hb : Heap} : zk_Met l qK D base Hb (zg_K D base Hb) yX0_joined (Jvm.Cond.code yX0_joined prog_2_method_6_code 5 (some .long) :: zg_tb) qR413 qC413 := zk_met (ws' := zg_tb) (P := qP413) (AT := zg_AT) zpn_X0 rfl rfl rfl qk413 (fun s hK => zg_wd hK) (fun p e s m args below meth c s₁ Q B hml hK => qo413 B hml hK) (fun p e s m args below meth c s₁ v G0 H0 B hml hK ha hp hF q hq => absurd hq List.not_mem_nil)
set_option maxRecDepth 100000 in
def qR414 : Room := { frames := 1, cells := 0, slots := 0, locals := 20 }
set_option maxHeartbeats 4000000 in
set_option maxRecDepth 100000 in
theorem qo414 {p : Program} {l : Launch} {e : Env} {s : State} {m : MethodId} {args : Array Value} {below : List Frame} {meth : Method} {c : Code} {s₁ : State} {Q : State → Prop} {D : zk_D} {base : Nat} {Hb : Heap} (B : BodyLoose p l yJ9_min_f86c9 (headSpec (Jvm.Cond.code yJ9_min_f86c9 prog_18_method_70_code 4 (some .long) :: zg_tb) qR414) prog_18_method_70_code 4 (some .long) e s m args below meth c s₁) (hml : c.maxLocals = 4) (hK : zg_K D base Hb s) : zk_ok p l e (headSpec (Jvm.Cond.code yJ9_min_f86c9 prog_18_method_70_code 4 (some .long) :: zg_tb) qR414).room s m args below meth c Q qK D base Hb 4 prog_18_method_70_code qP414 qC414.2.2.2.2 := by
  have S : CallFix p m c prog_18_method_70_code 4 s args (Jvm.Cond.code yJ9_min_f86c9 prog_18_method_70_code 4 (some .long) :: zg_tb) RJ9 := ⟨B.exec, B.bytes, hml, findClass_of_methodNamed B.named, atoms_spec (ws := (Jvm.Cond.code yJ9_min_f86c9 prog_18_method_70_code 4 (some .long) :: zg_tb)) B.pre⟩
  exact ⟨fun _ h => absurd h List.not_mem_nil,
    fun _ h => absurd h List.not_mem_nil,
    fun _ h => absurd h List.not_mem_nil,
    fun _ h => absurd h List.not_mem_nil,
    fun h => absurd rfl h,
    fun _ h => absurd h List.not_mem_nil,
    fun _ h => absurd h List.not_mem_nil⟩
set_option maxRecDepth 100000 in
theorem zpf_yJ9_min_f86c9 : plainFor yJ9_min_f86c9 = true := by decide +kernel
set_option maxRecDepth 100000 in
theorem qm414 {l : Launch} {D : zk_D} {base : Nat} {Hb : Heap} : zk_Met l qK D base Hb (zg_K D base Hb) yJ9_min_f86c9 (Jvm.Cond.code yJ9_min_f86c9 prog_18_method_70_code 4 (some .long) :: zg_tb) qR414 qC414 := zk_metF (ws' := zg_tb) (P := qP414) (AT := zg_AT) zpf_yJ9_min_f86c9 rfl rfl rfl qk414 (fun s hK => zg_wd hK) (fun p e s m args below meth c s₁ Q B hml hK => qo414 B hml hK) (fun p e s m args below meth c s₁ v G0 H0 B hml hK ha hp hF q hq => absurd hq List.not_mem_nil)
set_option maxRecDepth 100000 in
def qR415 : Room := { frames := 1, cells := 0, slots := 0, locals := 20 }
set_option maxHeartbeats 4000000 in
set_option maxRecDepth 100000 in
theorem qo415 {p : Program} {l : Launch} {e : Env} {s : State} {m : MethodId} {args : Array Value} {below : List Frame} {meth : Method} {c : Code} {s₁ : State} {Q : State → Prop} {D : zk_D} {base : Nat} {Hb : Heap} (B : BodyLoose p l yJ9_max_f86c9 (headSpec (Jvm.Cond.code yJ9_max_f86c9 prog_18_method_66_code 4 (some .long) :: zg_tb) qR415) prog_18_method_66_code 4 (some .long) e s m args below meth c s₁) (hml : c.maxLocals = 4) (hK : zg_K D base Hb s) : zk_ok p l e (headSpec (Jvm.Cond.code yJ9_max_f86c9 prog_18_method_66_code 4 (some .long) :: zg_tb) qR415).room s m args below meth c Q qK D base Hb 4 prog_18_method_66_code qP415 qC415.2.2.2.2 := by
  have S : CallFix p m c prog_18_method_66_code 4 s args (Jvm.Cond.code yJ9_max_f86c9 prog_18_method_66_code 4 (some .long) :: zg_tb) RJ9 := ⟨B.exec, B.bytes, hml, findClass_of_methodNamed B.named, atoms_spec (ws := (Jvm.Cond.code yJ9_max_f86c9 prog_18_method_66_code 4 (some .long) :: zg_tb)) B.pre⟩
  exact ⟨fun _ h => absurd h List.not_mem_nil,
    fun _ h => absurd h List.not_mem_nil,
    fun _ h => absurd h List.not_mem_nil,
    fun _ h => absurd h List.not_mem_nil,
    fun h => absurd rfl h,
    fun _ h => absurd h List.not_mem_nil,
    fun _ h => absurd h List.not_mem_nil⟩
set_option maxRecDepth 100000 in
theorem zpf_yJ9_max_f86c9 : plainFor yJ9_max_f86c9 = true := by decide +kernel
set_option maxRecDepth 100000 in
theorem qm415 {l : Launch} {D : zk_D} {base : Nat} {Hb : Heap} : zk_Met l qK D base Hb (zg_K D base Hb) yJ9_max_f86c9 (Jvm.Cond.code yJ9_max_f86c9 prog_18_method_66_code 4 (some .long) :: zg_tb) qR415 qC415 := zk_metF (ws' := zg_tb) (P := qP415) (AT := zg_AT) zpf_yJ9_max_f86c9 rfl rfl rfl qk415 (fun s hK => zg_wd hK) (fun p e s m args below meth c s₁ Q B hml hK => qo415 B hml hK) (fun p e s m args below meth c s₁ v G0 H0 B hml hK ha hp hF q hq => absurd hq List.not_mem_nil)
set_option maxRecDepth 100000 in
def qR416 : Room := { frames := 2, cells := 0, slots := 0, locals := 43 }
set_option maxHeartbeats 4000000 in
set_option maxRecDepth 100000 in
theorem qo416 {p : Program} {l : Launch} {e : Env} {s : State} {m : MethodId} {args : Array Value} {below : List Frame} {meth : Method} {c : Code} {s₁ : State} {Q : State → Prop} {D : zk_D} {base : Nat} {Hb : Heap} (B : BodyLoose p l yX0_bounded (headSpec (Jvm.Cond.code yX0_bounded prog_2_method_7_code 2 (some .int) :: zg_tb) qR416) prog_2_method_7_code 2 (some .int) e s m args below meth c s₁) (hml : c.maxLocals = 2) (hK : zg_K D base Hb s) : zk_ok p l e (headSpec (Jvm.Cond.code yX0_bounded prog_2_method_7_code 2 (some .int) :: zg_tb) qR416).room s m args below meth c Q qK D base Hb 2 prog_2_method_7_code qP416 qC416.2.2.2.2 := by
  have S : CallFix p m c prog_2_method_7_code 2 s args (Jvm.Cond.code yX0_bounded prog_2_method_7_code 2 (some .int) :: zg_tb) RX0 := ⟨B.exec, B.bytes, hml, findClass_of_methodNamed B.named, atoms_spec (ws := (Jvm.Cond.code yX0_bounded prog_2_method_7_code 2 (some .int) :: zg_tb)) B.pre⟩
  exact ⟨fun _ h => absurd h List.not_mem_nil,
    fun _ h => absurd h List.not_mem_nil,
    fun _ h => absurd h List.not_mem_nil,
    fun _ h => absurd h List.not_mem_nil,
    fun h => absurd rfl h,
    List.forall_mem_cons.mpr ⟨zg_kokL S (List.mem_cons_of_mem _ zw3_184) (by decide +kernel) (zk_dg_ok qdo_2_7 (by decide +kernel)), List.forall_mem_cons.mpr ⟨zg_kokL S (List.mem_cons_of_mem _ zw3_185) (by decide +kernel) (zk_dg_ok qdo_2_7 (by decide +kernel)), fun _ h => absurd h List.not_mem_nil⟩⟩,
    List.forall_mem_cons.mpr ⟨zg_callS (fun w h => List.mem_cons_of_mem _ h) zg_tb_all S hK zg_Km qm414 zw3_186 zy_yJ9_min_f86c9_S (by decide +kernel) ⟨rfl, rfl⟩ (zk_dg_ok qdo_2_7 (by decide +kernel)), List.forall_mem_cons.mpr ⟨zg_callS (fun w h => List.mem_cons_of_mem _ h) zg_tb_all S hK zg_Km qm415 zw3_189 zy_yJ9_max_f86c9_S (by decide +kernel) ⟨rfl, rfl⟩ (zk_dg_ok qdo_2_7 (by decide +kernel)), fun _ h => absurd h List.not_mem_nil⟩⟩⟩
set_option maxRecDepth 100000 in
theorem qm416 {l : Launch} {D : zk_D} {base : Nat} {Hb : Heap} : zk_Met l qK D base Hb (zg_K D base Hb) yX0_bounded (Jvm.Cond.code yX0_bounded prog_2_method_7_code 2 (some .int) :: zg_tb) qR416 qC416 := zk_met (ws' := zg_tb) (P := qP416) (AT := zg_AT) zpn_X0 rfl rfl rfl qk416 (fun s hK => zg_wd hK) (fun p e s m args below meth c s₁ Q B hml hK => qo416 B hml hK) (fun p e s m args below meth c s₁ v G0 H0 B hml hK ha hp hF q hq => absurd hq List.not_mem_nil)
set_option maxRecDepth 100000 in
def qR417 : Room := { frames := 3, cells := 0, slots := 0, locals := 64 }
set_option maxHeartbeats 4000000 in
set_option maxRecDepth 100000 in
theorem qo417 {p : Program} {l : Launch} {e : Env} {s : State} {m : MethodId} {args : Array Value} {below : List Frame} {meth : Method} {c : Code} {s₁ : State} {Q : State → Prop} {D : zk_D} {base : Nat} {Hb : Heap} (B : BodyLoose p l yX0_act (headSpec (Jvm.Cond.code yX0_act prog_2_method_5_code 6 none :: zg_tb) qR417) prog_2_method_5_code 6 none e s m args below meth c s₁) (hml : c.maxLocals = 6) (hK : zg_K D base Hb s) : zk_ok p l e (headSpec (Jvm.Cond.code yX0_act prog_2_method_5_code 6 none :: zg_tb) qR417).room s m args below meth c Q qK D base Hb 6 prog_2_method_5_code qP417 qC417.2.2.2.2 := by
  have S : CallFix p m c prog_2_method_5_code 6 s args (Jvm.Cond.code yX0_act prog_2_method_5_code 6 none :: zg_tb) RX0 := ⟨B.exec, B.bytes, hml, findClass_of_methodNamed B.named, atoms_spec (ws := (Jvm.Cond.code yX0_act prog_2_method_5_code 6 none :: zg_tb)) B.pre⟩
  exact ⟨List.forall_mem_cons.mpr ⟨zg_gp S (hK.2.1 0 _ rfl) (fun w h => (List.mem_cons_of_mem _ (zc0 w h))) rfl zt0_4 (List.mem_cons_of_mem _ zw1_150) rfl, List.forall_mem_cons.mpr ⟨zg_gp S (hK.2.1 0 _ rfl) (fun w h => (List.mem_cons_of_mem _ (zc0 w h))) rfl zt0_5 (List.mem_cons_of_mem _ zw1_151) rfl, List.forall_mem_cons.mpr ⟨zg_gp S (hK.2.1 0 _ rfl) (fun w h => (List.mem_cons_of_mem _ (zc0 w h))) rfl zt0_3 (List.mem_cons_of_mem _ zw1_149) rfl, List.forall_mem_cons.mpr ⟨zg_gp S (hK.2.1 0 _ rfl) (fun w h => (List.mem_cons_of_mem _ (zc0 w h))) rfl zt0_6 (List.mem_cons_of_mem _ zw1_153) rfl, fun _ h => absurd h List.not_mem_nil⟩⟩⟩⟩,
    fun _ h => absurd h List.not_mem_nil,
    fun _ h => absurd h List.not_mem_nil,
    fun _ h => absurd h List.not_mem_nil,
    fun h => absurd rfl h,
    fun _ h => absurd h List.not_mem_nil,
    List.forall_mem_cons.mpr ⟨zg_callV (fun w h => List.mem_cons_of_mem _ h) zg_tb_all S hK zg_Km qm411 zw3_170 zy_yX0_pop_V (ci := 0) (by decide +kernel) (hK.2.1 0 _ rfl).2.1 ⟨rfl, rfl⟩ (zk_dg_ok qdo_2_5 (by decide +kernel)), List.forall_mem_cons.mpr ⟨zg_callV (fun w h => List.mem_cons_of_mem _ h) zg_tb_all S hK zg_Km qm411 zw3_170 zy_yX0_pop_V (ci := 0) (by decide +kernel) (hK.2.1 0 _ rfl).2.1 ⟨rfl, rfl⟩ (zk_dg_ok qdo_2_5 (by decide +kernel)), List.forall_mem_cons.mpr ⟨zg_callV (fun w h => List.mem_cons_of_mem _ h) zg_tb_all S hK zg_Km qm411 zw3_170 zy_yX0_pop_V (ci := 0) (by decide +kernel) (hK.2.1 0 _ rfl).2.1 ⟨rfl, rfl⟩ (zk_dg_ok qdo_2_5 (by decide +kernel)), List.forall_mem_cons.mpr ⟨zg_callV (fun w h => List.mem_cons_of_mem _ h) zg_tb_all S hK zg_Km qm412 zw3_174 zy_yX0_push_V (ci := 0) (by decide +kernel) (hK.2.1 0 _ rfl).2.1 ⟨rfl, rfl⟩ (zk_dg_ok qdo_2_5 (by decide +kernel)), List.forall_mem_cons.mpr ⟨zg_callV (fun w h => List.mem_cons_of_mem _ h) zg_tb_all S hK zg_Km qm411 zw3_170 zy_yX0_pop_V (ci := 0) (by decide +kernel) (hK.2.1 0 _ rfl).2.1 ⟨rfl, rfl⟩ (zk_dg_ok qdo_2_5 (by decide +kernel)), List.forall_mem_cons.mpr ⟨zg_callV (fun w h => List.mem_cons_of_mem _ h) zg_tb_all S hK zg_Km qm411 zw3_170 zy_yX0_pop_V (ci := 0) (by decide +kernel) (hK.2.1 0 _ rfl).2.1 ⟨rfl, rfl⟩ (zk_dg_ok qdo_2_5 (by decide +kernel)), List.forall_mem_cons.mpr ⟨zg_callS (fun w h => List.mem_cons_of_mem _ h) zg_tb_all S hK zg_Km qm413 zw3_178 zy_yX0_joined_S (by decide +kernel) ⟨rfl, rfl⟩ (zk_dg_ok qdo_2_5 (by decide +kernel)), List.forall_mem_cons.mpr ⟨zg_callS (fun w h => List.mem_cons_of_mem _ h) zg_tb_all S hK zg_Km qm416 zw3_181 zy_yX0_bounded_S (by decide +kernel) ⟨rfl, rfl⟩ (zk_dg_ok qdo_2_5 (by decide +kernel)), List.forall_mem_cons.mpr ⟨zg_callV (fun w h => List.mem_cons_of_mem _ h) zg_tb_all S hK zg_Km qm412 zw3_174 zy_yX0_push_V (ci := 0) (by decide +kernel) (hK.2.1 0 _ rfl).2.1 ⟨rfl, rfl⟩ (zk_dg_ok qdo_2_5 (by decide +kernel)), fun _ h => absurd h List.not_mem_nil⟩⟩⟩⟩⟩⟩⟩⟩⟩⟩
set_option maxRecDepth 100000 in
theorem qm417 {l : Launch} {D : zk_D} {base : Nat} {Hb : Heap} : zk_Met l qK D base Hb (zg_K D base Hb) yX0_act (Jvm.Cond.code yX0_act prog_2_method_5_code 6 none :: zg_tb) qR417 qC417 := zk_met (ws' := zg_tb) (P := qP417) (AT := zg_AT) zpn_X0 rfl rfl rfl qk417 (fun s hK => zg_wd hK) (fun p e s m args below meth c s₁ Q B hml hK => qo417 B hml hK) (fun p e s m args below meth c s₁ v G0 H0 B hml hK ha hp hF q hq => absurd hq List.not_mem_nil)
set_option maxRecDepth 100000 in
def qR418 : Room := { frames := 4, cells := 0, slots := 0, locals := 89 }
set_option maxHeartbeats 4000000 in
set_option maxRecDepth 100000 in
theorem qo418 {p : Program} {l : Launch} {e : Env} {s : State} {m : MethodId} {args : Array Value} {below : List Frame} {meth : Method} {c : Code} {s₁ : State} {Q : State → Prop} {D : zk_D} {base : Nat} {Hb : Heap} (B : BodyLoose p l yX0_worthOf (headSpec (Jvm.Cond.code yX0_worthOf prog_2_method_4_code 5 (some .int) :: zg_tb) qR418) prog_2_method_4_code 5 (some .int) e s m args below meth c s₁) (hml : c.maxLocals = 5) (hK : zg_K D base Hb s) : zk_ok p l e (headSpec (Jvm.Cond.code yX0_worthOf prog_2_method_4_code 5 (some .int) :: zg_tb) qR418).room s m args below meth c Q qK D base Hb 5 prog_2_method_4_code qP418 qC418.2.2.2.2 := by
  have S : CallFix p m c prog_2_method_4_code 5 s args (Jvm.Cond.code yX0_worthOf prog_2_method_4_code 5 (some .int) :: zg_tb) RX0 := ⟨B.exec, B.bytes, hml, findClass_of_methodNamed B.named, atoms_spec (ws := (Jvm.Cond.code yX0_worthOf prog_2_method_4_code 5 (some .int) :: zg_tb)) B.pre⟩
  exact ⟨List.forall_mem_cons.mpr ⟨zg_gp S (hK.2.1 0 _ rfl) (fun w h => (List.mem_cons_of_mem _ (zc0 w h))) rfl zt0_2 (List.mem_cons_of_mem _ zw1_148) rfl, List.forall_mem_cons.mpr ⟨zg_gp S (hK.2.1 0 _ rfl) (fun w h => (List.mem_cons_of_mem _ (zc0 w h))) rfl zt0_3 (List.mem_cons_of_mem _ zw1_149) rfl, List.forall_mem_cons.mpr ⟨zg_gp S (hK.2.1 0 _ rfl) (fun w h => (List.mem_cons_of_mem _ (zc0 w h))) rfl zt0_4 (List.mem_cons_of_mem _ zw1_150) rfl, List.forall_mem_cons.mpr ⟨zg_gp S (hK.2.1 0 _ rfl) (fun w h => (List.mem_cons_of_mem _ (zc0 w h))) rfl zt0_5 (List.mem_cons_of_mem _ zw1_151) rfl, List.forall_mem_cons.mpr ⟨zg_gp S (hK.2.1 0 _ rfl) (fun w h => (List.mem_cons_of_mem _ (zc0 w h))) rfl zt0_6 (List.mem_cons_of_mem _ zw1_153) rfl, List.forall_mem_cons.mpr ⟨zg_gp4 S (hK.2.1 0 _ rfl) (fun w h => (List.mem_cons_of_mem _ (zc0 w h))) rfl zt0_0 (List.mem_cons_of_mem _ zw1_146), fun _ h => absurd h List.not_mem_nil⟩⟩⟩⟩⟩⟩,
    fun _ h => absurd h List.not_mem_nil,
    fun _ h => absurd h List.not_mem_nil,
    fun _ h => absurd h List.not_mem_nil,
    fun h => absurd rfl h,
    fun _ h => absurd h List.not_mem_nil,
    List.forall_mem_cons.mpr ⟨zg_callV (fun w h => List.mem_cons_of_mem _ h) zg_tb_all S hK zg_Km qm417 zw3_166 zy_yX0_act_V (ci := 0) (by decide +kernel) (hK.2.1 0 _ rfl).2.1 ⟨rfl, rfl⟩ (zk_dg_ok qdo_2_4 (by decide +kernel)), List.forall_mem_cons.mpr ⟨zg_callV (fun w h => List.mem_cons_of_mem _ h) zg_tb_all S hK zg_Km qm412 zw3_174 zy_yX0_push_V (ci := 0) (by decide +kernel) (hK.2.1 0 _ rfl).2.1 ⟨rfl, rfl⟩ (zk_dg_ok qdo_2_4 (by decide +kernel)), List.forall_mem_cons.mpr ⟨zg_callV (fun w h => List.mem_cons_of_mem _ h) zg_tb_all S hK zg_Km qm412 zw3_174 zy_yX0_push_V (ci := 0) (by decide +kernel) (hK.2.1 0 _ rfl).2.1 ⟨rfl, rfl⟩ (zk_dg_ok qdo_2_4 (by decide +kernel)), fun _ h => absurd h List.not_mem_nil⟩⟩⟩⟩
set_option maxRecDepth 100000 in
theorem qm418 {l : Launch} {D : zk_D} {base : Nat} {Hb : Heap} : zk_Met l qK D base Hb (zg_K D base Hb) yX0_worthOf (Jvm.Cond.code yX0_worthOf prog_2_method_4_code 5 (some .int) :: zg_tb) qR418 qC418 := zk_met (ws' := zg_tb) (P := qP418) (AT := zg_AT) zpn_X0 rfl rfl rfl qk418 (fun s hK => zg_wd hK) (fun p e s m args below meth c s₁ Q B hml hK => qo418 B hml hK) (fun p e s m args below meth c s₁ v G0 H0 B hml hK ha hp hF q hq => absurd hq List.not_mem_nil)
set_option maxRecDepth 100000 in
def qR419 : Room := { frames := 6, cells := 0, slots := 0, locals := 134 }
set_option maxHeartbeats 4000000 in
set_option maxRecDepth 100000 in
theorem qo419 {p : Program} {l : Launch} {e : Env} {s : State} {m : MethodId} {args : Array Value} {below : List Frame} {meth : Method} {c : Code} {s₁ : State} {Q : State → Prop} {D : zk_D} {base : Nat} {Hb : Heap} (B : BodyLoose p l yX11_barred (headSpec (Jvm.Cond.code yX11_barred prog_1_method_52_code 11 (some .boolean) :: zg_tb) qR419) prog_1_method_52_code 11 (some .boolean) e s m args below meth c s₁) (hml : c.maxLocals = 11) (hK : zg_K D base Hb s) : zk_ok p l e (headSpec (Jvm.Cond.code yX11_barred prog_1_method_52_code 11 (some .boolean) :: zg_tb) qR419).room s m args below meth c Q qK D base Hb 11 prog_1_method_52_code qP419 qC419.2.2.2.2 := by
  have S : CallFix p m c prog_1_method_52_code 11 s args (Jvm.Cond.code yX11_barred prog_1_method_52_code 11 (some .boolean) :: zg_tb) RX11 := ⟨B.exec, B.bytes, hml, findClass_of_methodNamed B.named, atoms_spec (ws := (Jvm.Cond.code yX11_barred prog_1_method_52_code 11 (some .boolean) :: zg_tb)) B.pre⟩
  exact ⟨List.forall_mem_cons.mpr ⟨zg_gp4 S (hK.2.1 11 _ rfl) (fun w h => (List.mem_cons_of_mem _ (zc11 w h))) rfl zt11_5 (List.mem_cons_of_mem _ zw2_58), List.forall_mem_cons.mpr ⟨zg_gp S (hK.2.1 11 _ rfl) (fun w h => (List.mem_cons_of_mem _ (zc11 w h))) rfl zt11_15 (List.mem_cons_of_mem _ zw2_68) rfl, List.forall_mem_cons.mpr ⟨zg_gp4 S (hK.2.1 11 _ rfl) (fun w h => (List.mem_cons_of_mem _ (zc11 w h))) rfl zt11_7 (List.mem_cons_of_mem _ zw2_60), List.forall_mem_cons.mpr ⟨zg_gp4 S (hK.2.1 1 _ rfl) (fun w h => (List.mem_cons_of_mem _ (zc1 w h))) rfl zt1_4 (List.mem_cons_of_mem _ zw3_222), List.forall_mem_cons.mpr ⟨zg_gp4 S (hK.2.1 11 _ rfl) (fun w h => (List.mem_cons_of_mem _ (zc11 w h))) rfl zt11_0 (List.mem_cons_of_mem _ zw2_53), List.forall_mem_cons.mpr ⟨zg_gp4 S (hK.2.1 4 _ rfl) (fun w h => (List.mem_cons_of_mem _ (zc4 w h))) rfl zt4_2 (List.mem_cons_of_mem _ zw1_41), List.forall_mem_cons.mpr ⟨zg_gp4 S (hK.2.1 1 _ rfl) (fun w h => (List.mem_cons_of_mem _ (zc1 w h))) rfl zt1_0 (List.mem_cons_of_mem _ zw3_214), List.forall_mem_cons.mpr ⟨zg_gp4 S (hK.2.1 4 _ rfl) (fun w h => (List.mem_cons_of_mem _ (zc4 w h))) rfl zt4_3 (List.mem_cons_of_mem _ zw1_43), List.forall_mem_cons.mpr ⟨zg_gp4 S (hK.2.1 1 _ rfl) (fun w h => (List.mem_cons_of_mem _ (zc1 w h))) rfl zt1_1 (List.mem_cons_of_mem _ zw3_216), List.forall_mem_cons.mpr ⟨zg_gp4 S (hK.2.1 11 _ rfl) (fun w h => (List.mem_cons_of_mem _ (zc11 w h))) rfl zt11_8 (List.mem_cons_of_mem _ zw2_61), List.forall_mem_cons.mpr ⟨zg_gp4 S (hK.2.1 3 _ rfl) (fun w h => (List.mem_cons_of_mem _ (zc3 w h))) rfl zt3_3 (List.mem_cons_of_mem _ zw2_12), List.forall_mem_cons.mpr ⟨zg_gp4 S (hK.2.1 11 _ rfl) (fun w h => (List.mem_cons_of_mem _ (zc11 w h))) rfl zt11_4 (List.mem_cons_of_mem _ zw2_57), fun _ h => absurd h List.not_mem_nil⟩⟩⟩⟩⟩⟩⟩⟩⟩⟩⟩⟩,
    fun _ h => absurd h List.not_mem_nil,
    fun _ h => absurd h List.not_mem_nil,
    fun _ h => absurd h List.not_mem_nil,
    fun h => absurd rfl h,
    fun _ h => absurd h List.not_mem_nil,
    List.forall_mem_cons.mpr ⟨zg_callV (fun w h => List.mem_cons_of_mem _ h) zg_tb_all S hK zg_Km qm378 zw3_112 zy_yX5_inForce_V (ci := 5) (by decide +kernel) (hK.2.1 5 _ rfl).2.1 ⟨rfl, rfl⟩ (zk_dg_ok qdo_1_52 (by decide +kernel)), List.forall_mem_cons.mpr ⟨zg_callV (fun w h => List.mem_cons_of_mem _ h) zg_tb_all S hK zg_Km qm395 zw3_143 zy_yX5_codeOf_V (ci := 5) (by decide +kernel) (hK.2.1 5 _ rfl).2.1 ⟨rfl, rfl⟩ (zk_dg_ok qdo_1_52 (by decide +kernel)), List.forall_mem_cons.mpr ⟨zg_callS (fun w h => List.mem_cons_of_mem _ h) zg_tb_all S hK zg_Km qm396 zw3_147 zy_yJ9_min_7cf53_S (by decide +kernel) ⟨rfl, rfl⟩ (zk_dg_ok qdo_1_52 (by decide +kernel)), List.forall_mem_cons.mpr ⟨zg_callV (fun w h => List.mem_cons_of_mem _ h) zg_tb_all S hK zg_Km qm397 zw3_148 zy_yX5_lastAsked_V (ci := 5) (by decide +kernel) (hK.2.1 5 _ rfl).2.1 ⟨rfl, rfl⟩ (zk_dg_ok qdo_1_52 (by decide +kernel)), List.forall_mem_cons.mpr ⟨zg_callV (fun w h => List.mem_cons_of_mem _ h) zg_tb_all S hK zg_Km qm399 zw3_152 zy_yX0_clear_V (ci := 0) (by decide +kernel) (hK.2.1 0 _ rfl).2.1 ⟨rfl, rfl⟩ (zk_dg_ok qdo_1_52 (by decide +kernel)), List.forall_mem_cons.mpr ⟨zg_callV (fun w h => List.mem_cons_of_mem _ h) zg_tb_all S hK zg_Km qm410 zw3_157 zy_yX0_set_V (ci := 0) (by decide +kernel) (hK.2.1 0 _ rfl).2.1 ⟨rfl, rfl⟩ (zk_dg_ok qdo_1_52 (by decide +kernel)), List.forall_mem_cons.mpr ⟨zg_callV (fun w h => List.mem_cons_of_mem _ h) zg_tb_all S hK zg_Km qm410 zw3_157 zy_yX0_set_V (ci := 0) (by decide +kernel) (hK.2.1 0 _ rfl).2.1 ⟨rfl, rfl⟩ (zk_dg_ok qdo_1_52 (by decide +kernel)), List.forall_mem_cons.mpr ⟨zg_callV (fun w h => List.mem_cons_of_mem _ h) zg_tb_all S hK zg_Km qm410 zw3_157 zy_yX0_set_V (ci := 0) (by decide +kernel) (hK.2.1 0 _ rfl).2.1 ⟨rfl, rfl⟩ (zk_dg_ok qdo_1_52 (by decide +kernel)), List.forall_mem_cons.mpr ⟨zg_callV (fun w h => List.mem_cons_of_mem _ h) zg_tb_all S hK zg_Km qm410 zw3_157 zy_yX0_set_V (ci := 0) (by decide +kernel) (hK.2.1 0 _ rfl).2.1 ⟨rfl, rfl⟩ (zk_dg_ok qdo_1_52 (by decide +kernel)), List.forall_mem_cons.mpr ⟨zg_callV (fun w h => List.mem_cons_of_mem _ h) zg_tb_all S hK zg_Km qm410 zw3_157 zy_yX0_set_V (ci := 0) (by decide +kernel) (hK.2.1 0 _ rfl).2.1 ⟨rfl, rfl⟩ (zk_dg_ok qdo_1_52 (by decide +kernel)), List.forall_mem_cons.mpr ⟨zg_callV (fun w h => List.mem_cons_of_mem _ h) zg_tb_all S hK zg_Km qm418 zw3_162 zy_yX0_worthOf_V (ci := 0) (by decide +kernel) (hK.2.1 0 _ rfl).2.1 ⟨rfl, rfl⟩ (zk_dg_ok qdo_1_52 (by decide +kernel)), fun _ h => absurd h List.not_mem_nil⟩⟩⟩⟩⟩⟩⟩⟩⟩⟩⟩⟩
set_option maxRecDepth 100000 in
theorem qm419 {l : Launch} {D : zk_D} {base : Nat} {Hb : Heap} : zk_Met l qK D base Hb (zg_K D base Hb) yX11_barred (Jvm.Cond.code yX11_barred prog_1_method_52_code 11 (some .boolean) :: zg_tb) qR419 qC419 := zk_met (ws' := zg_tb) (P := qP419) (AT := zg_AT) zpn_X11 rfl rfl rfl qk419 (fun s hK => zg_wd hK) (fun p e s m args below meth c s₁ Q B hml hK => qo419 B hml hK) (fun p e s m args below meth c s₁ v G0 H0 B hml hK ha hp hF q hq => absurd hq List.not_mem_nil)
set_option maxRecDepth 100000 in
def qR420 : Room := { frames := 7, cells := 0, slots := 0, locals := 164 }
set_option maxHeartbeats 4000000 in
set_option maxRecDepth 100000 in
theorem qo420 {p : Program} {l : Launch} {e : Env} {s : State} {m : MethodId} {args : Array Value} {below : List Frame} {meth : Method} {c : Code} {s₁ : State} {Q : State → Prop} {D : zk_D} {base : Nat} {Hb : Heap} (B : BodyLoose p l yX11_bars (headSpec (Jvm.Cond.code yX11_bars prog_1_method_13_code 5 (some .int) :: zg_tb) qR420) prog_1_method_13_code 5 (some .int) e s m args below meth c s₁) (hml : c.maxLocals = 5) (hK : zg_K D base Hb s) : zk_ok p l e (headSpec (Jvm.Cond.code yX11_bars prog_1_method_13_code 5 (some .int) :: zg_tb) qR420).room s m args below meth c Q qK D base Hb 5 prog_1_method_13_code qP420 qC420.2.2.2.2 := by
  have S : CallFix p m c prog_1_method_13_code 5 s args (Jvm.Cond.code yX11_bars prog_1_method_13_code 5 (some .int) :: zg_tb) RX11 := ⟨B.exec, B.bytes, hml, findClass_of_methodNamed B.named, atoms_spec (ws := (Jvm.Cond.code yX11_bars prog_1_method_13_code 5 (some .int) :: zg_tb)) B.pre⟩
  exact ⟨List.forall_mem_cons.mpr ⟨zg_gp4 S (hK.2.1 11 _ rfl) (fun w h => (List.mem_cons_of_mem _ (zc11 w h))) rfl zt11_0 (List.mem_cons_of_mem _ zw2_53), List.forall_mem_cons.mpr ⟨zg_gp4 S (hK.2.1 11 _ rfl) (fun w h => (List.mem_cons_of_mem _ (zc11 w h))) rfl zt11_8 (List.mem_cons_of_mem _ zw2_61), fun _ h => absurd h List.not_mem_nil⟩⟩,
    fun _ h => absurd h List.not_mem_nil,
    fun _ h => absurd h List.not_mem_nil,
    fun _ h => absurd h List.not_mem_nil,
    fun h => absurd rfl h,
    fun _ h => absurd h List.not_mem_nil,
    List.forall_mem_cons.mpr ⟨zg_callV (fun w h => List.mem_cons_of_mem _ h) zg_tb_all S hK zg_Km qm367 zw3_73 zy_yX11_hasList_V (ci := 11) (by decide +kernel) (hK.2.1 11 _ rfl).2.1 ⟨rfl, rfl⟩ (zk_dg_ok qdo_1_13 (by decide +kernel)), List.forall_mem_cons.mpr ⟨zg_callV (fun w h => List.mem_cons_of_mem _ h) zg_tb_all S hK zg_Km qm16 zw2_117 zy_yX4_hasHouse_V (ci := 4) (by decide +kernel) (hK.2.1 4 _ rfl).2.1 ⟨rfl, rfl⟩ (zk_dg_ok qdo_1_13 (by decide +kernel)), List.forall_mem_cons.mpr ⟨zg_callV (fun w h => List.mem_cons_of_mem _ h) zg_tb_all S hK zg_Km qm377 zw3_108 zy_yX11_isPast_V (ci := 11) (by decide +kernel) (hK.2.1 11 _ rfl).2.1 ⟨rfl, rfl⟩ (zk_dg_ok qdo_1_13 (by decide +kernel)), List.forall_mem_cons.mpr ⟨zg_callV (fun w h => List.mem_cons_of_mem _ h) zg_tb_all S hK zg_Km qm377 zw3_108 zy_yX11_isPast_V (ci := 11) (by decide +kernel) (hK.2.1 11 _ rfl).2.1 ⟨rfl, rfl⟩ (zk_dg_ok qdo_1_13 (by decide +kernel)), List.forall_mem_cons.mpr ⟨zg_callV (fun w h => List.mem_cons_of_mem _ h) zg_tb_all S hK zg_Km qm394 zw3_132 zy_yX3_know_V (ci := 3) (by decide +kernel) (hK.2.1 3 _ rfl).2.1 ⟨rfl, rfl⟩ (zk_dg_ok qdo_1_13 (by decide +kernel)), List.forall_mem_cons.mpr ⟨zg_callV (fun w h => List.mem_cons_of_mem _ h) zg_tb_all S hK zg_Km qm419 zw3_139 zy_yX11_barred_V (ci := 11) (by decide +kernel) (hK.2.1 11 _ rfl).2.1 ⟨rfl, rfl⟩ (zk_dg_ok qdo_1_13 (by decide +kernel)), fun _ h => absurd h List.not_mem_nil⟩⟩⟩⟩⟩⟩⟩
set_option maxRecDepth 100000 in
theorem qm420 {l : Launch} {D : zk_D} {base : Nat} {Hb : Heap} : zk_Met l qK D base Hb (zg_K D base Hb) yX11_bars (Jvm.Cond.code yX11_bars prog_1_method_13_code 5 (some .int) :: zg_tb) qR420 qC420 := zk_met (ws' := zg_tb) (P := qP420) (AT := zg_AT) zpn_X11 rfl rfl rfl qk420 (fun s hK => zg_wd hK) (fun p e s m args below meth c s₁ Q B hml hK => qo420 B hml hK) (fun p e s m args below meth c s₁ v G0 H0 B hml hK ha hp hF q hq => absurd hq List.not_mem_nil)
set_option maxRecDepth 100000 in
def qR421 : Room := { frames := 1, cells := 0, slots := 0, locals := 20 }
set_option maxHeartbeats 4000000 in
set_option maxRecDepth 100000 in
theorem qo421 {p : Program} {l : Launch} {e : Env} {s : State} {m : MethodId} {args : Array Value} {below : List Frame} {meth : Method} {c : Code} {s₁ : State} {Q : State → Prop} {D : zk_D} {base : Nat} {Hb : Heap} (B : BodyLoose p l yX12_in (headSpec (Jvm.Cond.code yX12_in prog_14_method_1_code 3 (some .boolean) :: zg_tb) qR421) prog_14_method_1_code 3 (some .boolean) e s m args below meth c s₁) (hml : c.maxLocals = 3) (hK : zg_K D base Hb s) : zk_ok p l e (headSpec (Jvm.Cond.code yX12_in prog_14_method_1_code 3 (some .boolean) :: zg_tb) qR421).room s m args below meth c Q qK D base Hb 3 prog_14_method_1_code qP421 qC421.2.2.2.2 := by
  have S : CallFix p m c prog_14_method_1_code 3 s args (Jvm.Cond.code yX12_in prog_14_method_1_code 3 (some .boolean) :: zg_tb) RX12 := ⟨B.exec, B.bytes, hml, findClass_of_methodNamed B.named, atoms_spec (ws := (Jvm.Cond.code yX12_in prog_14_method_1_code 3 (some .boolean) :: zg_tb)) B.pre⟩
  exact ⟨fun _ h => absurd h List.not_mem_nil,
    fun _ h => absurd h List.not_mem_nil,
    fun _ h => absurd h List.not_mem_nil,
    fun _ h => absurd h List.not_mem_nil,
    fun h => absurd rfl h,
    fun _ h => absurd h List.not_mem_nil,
    fun _ h => absurd h List.not_mem_nil⟩
set_option maxRecDepth 100000 in
theorem qm421 {l : Launch} {D : zk_D} {base : Nat} {Hb : Heap} : zk_Met l qK D base Hb (zg_K D base Hb) yX12_in (Jvm.Cond.code yX12_in prog_14_method_1_code 3 (some .boolean) :: zg_tb) qR421 qC421 := zk_met (ws' := zg_tb) (P := qP421) (AT := zg_AT) zpn_X12 rfl rfl rfl qk421 (fun s hK => zg_wd hK) (fun p e s m args below meth c s₁ Q B hml hK => qo421 B hml hK) (fun p e s m args below meth c s₁ v G0 H0 B hml hK ha hp hF q hq => absurd hq List.not_mem_nil)
set_option maxRecDepth 100000 in
def qR422 : Room := { frames := 1, cells := 0, slots := 0, locals := 20 }
set_option maxHeartbeats 4000000 in
set_option maxRecDepth 100000 in
theorem qo422 {p : Program} {l : Launch} {e : Env} {s : State} {m : MethodId} {args : Array Value} {below : List Frame} {meth : Method} {c : Code} {s₁ : State} {Q : State → Prop} {D : zk_D} {base : Nat} {Hb : Heap} (B : BodyLoose p l yX12_gather (headSpec (Jvm.Cond.code yX12_gather prog_14_method_63_code 3 none :: zg_tb) qR422) prog_14_method_63_code 3 none e s m args below meth c s₁) (hml : c.maxLocals = 3) (hK : zg_K D base Hb s) : zk_ok p l e (headSpec (Jvm.Cond.code yX12_gather prog_14_method_63_code 3 none :: zg_tb) qR422).room s m args below meth c Q qK D base Hb 3 prog_14_method_63_code qP422 qC422.2.2.2.2 := by
  have S : CallFix p m c prog_14_method_63_code 3 s args (Jvm.Cond.code yX12_gather prog_14_method_63_code 3 none :: zg_tb) RX12 := ⟨B.exec, B.bytes, hml, findClass_of_methodNamed B.named, atoms_spec (ws := (Jvm.Cond.code yX12_gather prog_14_method_63_code 3 none :: zg_tb)) B.pre⟩
  exact ⟨List.forall_mem_cons.mpr ⟨zg_gp S (hK.2.1 12 _ rfl) (fun w h => (List.mem_cons_of_mem _ (zc12 w h))) rfl zt12_44 (List.mem_cons_of_mem _ zw5_203) rfl, List.forall_mem_cons.mpr ⟨zg_gp4 S (hK.2.1 12 _ rfl) (fun w h => (List.mem_cons_of_mem _ (zc12 w h))) rfl zt12_48 (List.mem_cons_of_mem _ zw5_207), List.forall_mem_cons.mpr ⟨zg_gp S (hK.2.1 12 _ rfl) (fun w h => (List.mem_cons_of_mem _ (zc12 w h))) rfl zt12_49 (List.mem_cons_of_mem _ zw5_208) rfl, List.forall_mem_cons.mpr ⟨zg_gp4 S (hK.2.1 12 _ rfl) (fun w h => (List.mem_cons_of_mem _ (zc12 w h))) rfl zt12_47 (List.mem_cons_of_mem _ zw5_206), List.forall_mem_cons.mpr ⟨zg_gp4 S (hK.2.1 12 _ rfl) (fun w h => (List.mem_cons_of_mem _ (zc12 w h))) rfl zt12_45 (List.mem_cons_of_mem _ zw5_204), List.forall_mem_cons.mpr ⟨zg_gp4 S (hK.2.1 12 _ rfl) (fun w h => (List.mem_cons_of_mem _ (zc12 w h))) rfl zt12_46 (List.mem_cons_of_mem _ zw5_205), fun _ h => absurd h List.not_mem_nil⟩⟩⟩⟩⟩⟩,
    fun _ h => absurd h List.not_mem_nil,
    fun _ h => absurd h List.not_mem_nil,
    fun _ h => absurd h List.not_mem_nil,
    fun h => absurd rfl h,
    fun _ h => absurd h List.not_mem_nil,
    fun _ h => absurd h List.not_mem_nil⟩
set_option maxRecDepth 100000 in
theorem qm422 {l : Launch} {D : zk_D} {base : Nat} {Hb : Heap} : zk_Met l qK D base Hb (zg_K D base Hb) yX12_gather (Jvm.Cond.code yX12_gather prog_14_method_63_code 3 none :: zg_tb) qR422 qC422 := zk_met (ws' := zg_tb) (P := qP422) (AT := zg_AT) zpn_X12 rfl rfl rfl qk422 (fun s hK => zg_wd hK) (fun p e s m args below meth c s₁ Q B hml hK => qo422 B hml hK) (fun p e s m args below meth c s₁ v G0 H0 B hml hK ha hp hF q hq => absurd hq List.not_mem_nil)
set_option maxRecDepth 100000 in
def qR423 : Room := { frames := 1, cells := 0, slots := 0, locals := 20 }
set_option maxHeartbeats 4000000 in
set_option maxRecDepth 100000 in
theorem qo423 {p : Program} {l : Launch} {e : Env} {s : State} {m : MethodId} {args : Array Value} {below : List Frame} {meth : Method} {c : Code} {s₁ : State} {Q : State → Prop} {D : zk_D} {base : Nat} {Hb : Heap} (B : BodyLoose p l yJ9_min_7cf53 (headSpec (Jvm.Cond.code yJ9_min_7cf53 prog_18_method_69_code 2 (some .int) :: zg_tb) qR423) prog_18_method_69_code 2 (some .int) e s m args below meth c s₁) (hml : c.maxLocals = 2) (hK : zg_K D base Hb s) : zk_ok p l e (headSpec (Jvm.Cond.code yJ9_min_7cf53 prog_18_method_69_code 2 (some .int) :: zg_tb) qR423).room s m args below meth c Q qK D base Hb 2 prog_18_method_69_code qP423 qC423.2.2.2.2 := by
  have S : CallFix p m c prog_18_method_69_code 2 s args (Jvm.Cond.code yJ9_min_7cf53 prog_18_method_69_code 2 (some .int) :: zg_tb) RJ9 := ⟨B.exec, B.bytes, hml, findClass_of_methodNamed B.named, atoms_spec (ws := (Jvm.Cond.code yJ9_min_7cf53 prog_18_method_69_code 2 (some .int) :: zg_tb)) B.pre⟩
  exact ⟨fun _ h => absurd h List.not_mem_nil,
    fun _ h => absurd h List.not_mem_nil,
    fun _ h => absurd h List.not_mem_nil,
    fun _ h => absurd h List.not_mem_nil,
    fun h => absurd rfl h,
    fun _ h => absurd h List.not_mem_nil,
    fun _ h => absurd h List.not_mem_nil⟩
set_option maxRecDepth 100000 in
theorem qm423 {l : Launch} {D : zk_D} {base : Nat} {Hb : Heap} : zk_Met l qK D base Hb (zg_K D base Hb) yJ9_min_7cf53 (Jvm.Cond.code yJ9_min_7cf53 prog_18_method_69_code 2 (some .int) :: zg_tb) qR423 qC423 := zk_metF (ws' := zg_tb) (P := qP423) (AT := zg_AT) zpf_yJ9_min_7cf53 rfl rfl rfl qk423 (fun s hK => zg_wd hK) (fun p e s m args below meth c s₁ Q B hml hK => qo423 B hml hK) (fun p e s m args below meth c s₁ v G0 H0 B hml hK ha hp hF q hq => absurd hq List.not_mem_nil)
set_option maxRecDepth 100000 in
def qR424 : Room := { frames := 1, cells := 0, slots := 0, locals := 20 }
set_option maxHeartbeats 4000000 in
set_option maxRecDepth 100000 in
theorem qo424 {p : Program} {l : Launch} {e : Env} {s : State} {m : MethodId} {args : Array Value} {below : List Frame} {meth : Method} {c : Code} {s₁ : State} {Q : State → Prop} {D : zk_D} {base : Nat} {Hb : Heap} (B : BodyLoose p l yX12_clean (headSpec (Jvm.Cond.code yX12_clean prog_14_method_51_code 2 none :: zg_tb) qR424) prog_14_method_51_code 2 none e s m args below meth c s₁) (hml : c.maxLocals = 2) (hK : zg_K D base Hb s) : zk_ok p l e (headSpec (Jvm.Cond.code yX12_clean prog_14_method_51_code 2 none :: zg_tb) qR424).room s m args below meth c Q qK D base Hb 2 prog_14_method_51_code qP424 qC424.2.2.2.2 := by
  have S : CallFix p m c prog_14_method_51_code 2 s args (Jvm.Cond.code yX12_clean prog_14_method_51_code 2 none :: zg_tb) RX12 := ⟨B.exec, B.bytes, hml, findClass_of_methodNamed B.named, atoms_spec (ws := (Jvm.Cond.code yX12_clean prog_14_method_51_code 2 none :: zg_tb)) B.pre⟩
  exact ⟨List.forall_mem_cons.mpr ⟨zg_gp4 S (hK.2.1 12 _ rfl) (fun w h => (List.mem_cons_of_mem _ (zc12 w h))) rfl zt12_27 (List.mem_cons_of_mem _ zw5_186), fun _ h => absurd h List.not_mem_nil⟩,
    fun _ h => absurd h List.not_mem_nil,
    fun _ h => absurd h List.not_mem_nil,
    fun _ h => absurd h List.not_mem_nil,
    fun h => absurd rfl h,
    fun _ h => absurd h List.not_mem_nil,
    fun _ h => absurd h List.not_mem_nil⟩
set_option maxRecDepth 100000 in
theorem qm424 {l : Launch} {D : zk_D} {base : Nat} {Hb : Heap} : zk_Met l qK D base Hb (zg_K D base Hb) yX12_clean (Jvm.Cond.code yX12_clean prog_14_method_51_code 2 none :: zg_tb) qR424 qC424 := zk_met (ws' := zg_tb) (P := qP424) (AT := zg_AT) zpn_X12 rfl rfl rfl qk424 (fun s hK => zg_wd hK) (fun p e s m args below meth c s₁ Q B hml hK => qo424 B hml hK) (fun p e s m args below meth c s₁ v G0 H0 B hml hK ha hp hF q hq => absurd hq List.not_mem_nil)
set_option maxRecDepth 100000 in
def qR425 : Room := { frames := 1, cells := 0, slots := 0, locals := 20 }
set_option maxHeartbeats 4000000 in
set_option maxRecDepth 100000 in
theorem qo425 {p : Program} {l : Launch} {e : Env} {s : State} {m : MethodId} {args : Array Value} {below : List Frame} {meth : Method} {c : Code} {s₁ : State} {Q : State → Prop} {D : zk_D} {base : Nat} {Hb : Heap} (B : BodyLoose p l yJ9_min_f86c9 (headSpec (Jvm.Cond.code yJ9_min_f86c9 prog_18_method_70_code 4 (some .long) :: zg_tb) qR425) prog_18_method_70_code 4 (some .long) e s m args below meth c s₁) (hml : c.maxLocals = 4) (hK : zg_K D base Hb s) : zk_ok p l e (headSpec (Jvm.Cond.code yJ9_min_f86c9 prog_18_method_70_code 4 (some .long) :: zg_tb) qR425).room s m args below meth c Q qK D base Hb 4 prog_18_method_70_code qP425 qC425.2.2.2.2 := by
  have S : CallFix p m c prog_18_method_70_code 4 s args (Jvm.Cond.code yJ9_min_f86c9 prog_18_method_70_code 4 (some .long) :: zg_tb) RJ9 := ⟨B.exec, B.bytes, hml, findClass_of_methodNamed B.named, atoms_spec (ws := (Jvm.Cond.code yJ9_min_f86c9 prog_18_method_70_code 4 (some .long) :: zg_tb)) B.pre⟩
  exact ⟨fun _ h => absurd h List.not_mem_nil,
    fun _ h => absurd h List.not_mem_nil,
    fun _ h => absurd h List.not_mem_nil,
    fun _ h => absurd h List.not_mem_nil,
    fun h => absurd rfl h,
    fun _ h => absurd h List.not_mem_nil,
    fun _ h => absurd h List.not_mem_nil⟩
set_option maxRecDepth 100000 in
theorem qm425 {l : Launch} {D : zk_D} {base : Nat} {Hb : Heap} : zk_Met l qK D base Hb (zg_K D base Hb) yJ9_min_f86c9 (Jvm.Cond.code yJ9_min_f86c9 prog_18_method_70_code 4 (some .long) :: zg_tb) qR425 qC425 := zk_metF (ws' := zg_tb) (P := qP425) (AT := zg_AT) zpf_yJ9_min_f86c9 rfl rfl rfl qk425 (fun s hK => zg_wd hK) (fun p e s m args below meth c s₁ Q B hml hK => qo425 B hml hK) (fun p e s m args below meth c s₁ v G0 H0 B hml hK ha hp hF q hq => absurd hq List.not_mem_nil)
set_option maxRecDepth 100000 in
def qR426 : Room := { frames := 1, cells := 0, slots := 0, locals := 20 }
set_option maxHeartbeats 4000000 in
set_option maxRecDepth 100000 in
theorem qo426 {p : Program} {l : Launch} {e : Env} {s : State} {m : MethodId} {args : Array Value} {below : List Frame} {meth : Method} {c : Code} {s₁ : State} {Q : State → Prop} {D : zk_D} {base : Nat} {Hb : Heap} (B : BodyLoose p l yJ9_max_f86c9 (headSpec (Jvm.Cond.code yJ9_max_f86c9 prog_18_method_66_code 4 (some .long) :: zg_tb) qR426) prog_18_method_66_code 4 (some .long) e s m args below meth c s₁) (hml : c.maxLocals = 4) (hK : zg_K D base Hb s) : zk_ok p l e (headSpec (Jvm.Cond.code yJ9_max_f86c9 prog_18_method_66_code 4 (some .long) :: zg_tb) qR426).room s m args below meth c Q qK D base Hb 4 prog_18_method_66_code qP426 qC426.2.2.2.2 := by
  have S : CallFix p m c prog_18_method_66_code 4 s args (Jvm.Cond.code yJ9_max_f86c9 prog_18_method_66_code 4 (some .long) :: zg_tb) RJ9 := ⟨B.exec, B.bytes, hml, findClass_of_methodNamed B.named, atoms_spec (ws := (Jvm.Cond.code yJ9_max_f86c9 prog_18_method_66_code 4 (some .long) :: zg_tb)) B.pre⟩
  exact ⟨fun _ h => absurd h List.not_mem_nil,
    fun _ h => absurd h List.not_mem_nil,
    fun _ h => absurd h List.not_mem_nil,
    fun _ h => absurd h List.not_mem_nil,
    fun h => absurd rfl h,
    fun _ h => absurd h List.not_mem_nil,
    fun _ h => absurd h List.not_mem_nil⟩
set_option maxRecDepth 100000 in
theorem qm426 {l : Launch} {D : zk_D} {base : Nat} {Hb : Heap} : zk_Met l qK D base Hb (zg_K D base Hb) yJ9_max_f86c9 (Jvm.Cond.code yJ9_max_f86c9 prog_18_method_66_code 4 (some .long) :: zg_tb) qR426 qC426 := zk_metF (ws' := zg_tb) (P := qP426) (AT := zg_AT) zpf_yJ9_max_f86c9 rfl rfl rfl qk426 (fun s hK => zg_wd hK) (fun p e s m args below meth c s₁ Q B hml hK => qo426 B hml hK) (fun p e s m args below meth c s₁ v G0 H0 B hml hK ha hp hF q hq => absurd hq List.not_mem_nil)
set_option maxRecDepth 100000 in
def qR427 : Room := { frames := 2, cells := 0, slots := 0, locals := 43 }
set_option maxHeartbeats 4000000 in
set_option maxRecDepth 100000 in
theorem qo427 {p : Program} {l : Launch} {e : Env} {s : State} {m : MethodId} {args : Array Value} {below : List Frame} {meth : Method} {c : Code} {s₁ : State} {Q : State → Prop} {D : zk_D} {base : Nat} {Hb : Heap} (B : BodyLoose p l yX12_bounded (headSpec (Jvm.Cond.code yX12_bounded prog_14_method_47_code 2 (some .int) :: zg_tb) qR427) prog_14_method_47_code 2 (some .int) e s m args below meth c s₁) (hml : c.maxLocals = 2) (hK : zg_K D base Hb s) : zk_ok p l e (headSpec (Jvm.Cond.code yX12_bounded prog_14_method_47_code 2 (some .int) :: zg_tb) qR427).room s m args below meth c Q qK D base Hb 2 prog_14_method_47_code qP427 qC427.2.2.2.2 := by
  have S : CallFix p m c prog_14_method_47_code 2 s args (Jvm.Cond.code yX12_bounded prog_14_method_47_code 2 (some .int) :: zg_tb) RX12 := ⟨B.exec, B.bytes, hml, findClass_of_methodNamed B.named, atoms_spec (ws := (Jvm.Cond.code yX12_bounded prog_14_method_47_code 2 (some .int) :: zg_tb)) B.pre⟩
  exact ⟨fun _ h => absurd h List.not_mem_nil,
    fun _ h => absurd h List.not_mem_nil,
    fun _ h => absurd h List.not_mem_nil,
    fun _ h => absurd h List.not_mem_nil,
    fun h => absurd rfl h,
    List.forall_mem_cons.mpr ⟨zg_kokL S (List.mem_cons_of_mem _ zw7_202) (by decide +kernel) (zk_dg_ok qdo_14_47 (by decide +kernel)), List.forall_mem_cons.mpr ⟨zg_kokL S (List.mem_cons_of_mem _ zw7_203) (by decide +kernel) (zk_dg_ok qdo_14_47 (by decide +kernel)), fun _ h => absurd h List.not_mem_nil⟩⟩,
    List.forall_mem_cons.mpr ⟨zg_callS (fun w h => List.mem_cons_of_mem _ h) zg_tb_all S hK zg_Km qm425 zw7_204 zy_yJ9_min_f86c9_S (by decide +kernel) ⟨rfl, rfl⟩ (zk_dg_ok qdo_14_47 (by decide +kernel)), List.forall_mem_cons.mpr ⟨zg_callS (fun w h => List.mem_cons_of_mem _ h) zg_tb_all S hK zg_Km qm426 zw7_205 zy_yJ9_max_f86c9_S (by decide +kernel) ⟨rfl, rfl⟩ (zk_dg_ok qdo_14_47 (by decide +kernel)), fun _ h => absurd h List.not_mem_nil⟩⟩⟩
set_option maxRecDepth 100000 in
theorem qm427 {l : Launch} {D : zk_D} {base : Nat} {Hb : Heap} : zk_Met l qK D base Hb (zg_K D base Hb) yX12_bounded (Jvm.Cond.code yX12_bounded prog_14_method_47_code 2 (some .int) :: zg_tb) qR427 qC427 := zk_met (ws' := zg_tb) (P := qP427) (AT := zg_AT) zpn_X12 rfl rfl rfl qk427 (fun s hK => zg_wd hK) (fun p e s m args below meth c s₁ Q B hml hK => qo427 B hml hK) (fun p e s m args below meth c s₁ v G0 H0 B hml hK ha hp hF q hq => absurd hq List.not_mem_nil)
set_option maxRecDepth 100000 in
def qR428 : Room := { frames := 3, cells := 0, slots := 0, locals := 64 }
set_option maxHeartbeats 4000000 in
set_option maxRecDepth 100000 in
theorem qo428 {p : Program} {l : Launch} {e : Env} {s : State} {m : MethodId} {args : Array Value} {below : List Frame} {meth : Method} {c : Code} {s₁ : State} {Q : State → Prop} {D : zk_D} {base : Nat} {Hb : Heap} (B : BodyLoose p l yX12_both (headSpec (Jvm.Cond.code yX12_both prog_14_method_48_code 3 (some .int) :: zg_tb) qR428) prog_14_method_48_code 3 (some .int) e s m args below meth c s₁) (hml : c.maxLocals = 3) (hK : zg_K D base Hb s) : zk_ok p l e (headSpec (Jvm.Cond.code yX12_both prog_14_method_48_code 3 (some .int) :: zg_tb) qR428).room s m args below meth c Q qK D base Hb 3 prog_14_method_48_code qP428 qC428.2.2.2.2 := by
  have S : CallFix p m c prog_14_method_48_code 3 s args (Jvm.Cond.code yX12_both prog_14_method_48_code 3 (some .int) :: zg_tb) RX12 := ⟨B.exec, B.bytes, hml, findClass_of_methodNamed B.named, atoms_spec (ws := (Jvm.Cond.code yX12_both prog_14_method_48_code 3 (some .int) :: zg_tb)) B.pre⟩
  exact ⟨fun _ h => absurd h List.not_mem_nil,
    fun _ h => absurd h List.not_mem_nil,
    fun _ h => absurd h List.not_mem_nil,
    fun _ h => absurd h List.not_mem_nil,
    fun h => absurd rfl h,
    fun _ h => absurd h List.not_mem_nil,
    List.forall_mem_cons.mpr ⟨zg_callS (fun w h => List.mem_cons_of_mem _ h) zg_tb_all S hK zg_Km qm427 zw7_199 zy_yX12_bounded_S (by decide +kernel) ⟨rfl, rfl⟩ (zk_dg_ok qdo_14_48 (by decide +kernel)), List.forall_mem_cons.mpr ⟨zg_callS (fun w h => List.mem_cons_of_mem _ h) zg_tb_all S hK zg_Km qm427 zw7_199 zy_yX12_bounded_S (by decide +kernel) ⟨rfl, rfl⟩ (zk_dg_ok qdo_14_48 (by decide +kernel)), List.forall_mem_cons.mpr ⟨zg_callS (fun w h => List.mem_cons_of_mem _ h) zg_tb_all S hK zg_Km qm427 zw7_199 zy_yX12_bounded_S (by decide +kernel) ⟨rfl, rfl⟩ (zk_dg_ok qdo_14_48 (by decide +kernel)), List.forall_mem_cons.mpr ⟨zg_callS (fun w h => List.mem_cons_of_mem _ h) zg_tb_all S hK zg_Km qm427 zw7_199 zy_yX12_bounded_S (by decide +kernel) ⟨rfl, rfl⟩ (zk_dg_ok qdo_14_48 (by decide +kernel)), fun _ h => absurd h List.not_mem_nil⟩⟩⟩⟩⟩
set_option maxRecDepth 100000 in
theorem qm428 {l : Launch} {D : zk_D} {base : Nat} {Hb : Heap} : zk_Met l qK D base Hb (zg_K D base Hb) yX12_both (Jvm.Cond.code yX12_both prog_14_method_48_code 3 (some .int) :: zg_tb) qR428 qC428 := zk_met (ws' := zg_tb) (P := qP428) (AT := zg_AT) zpn_X12 rfl rfl rfl qk428 (fun s hK => zg_wd hK) (fun p e s m args below meth c s₁ Q B hml hK => qo428 B hml hK) (fun p e s m args below meth c s₁ v G0 H0 B hml hK ha hp hF q hq => absurd hq List.not_mem_nil)
end
