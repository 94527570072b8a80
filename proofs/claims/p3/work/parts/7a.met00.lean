/-! CONTRACTS MET: found by wip/an (python). -/
noncomputable section
set_option maxRecDepth 100000 in
theorem zg_sR0 {D : zk_D} {base : Nat} {Hb : Heap} {s : State} (hK : zg_K D base Hb s) : vk_R "UnaskedLetters$Judge" 11 "wlsknauhrmyo" (D.2.2.2.1 24) s := hK.2.2.2.2.2.2.2.2.2.1 ("UnaskedLetters$Judge", 11, "wlsknauhrmyo", 24) (List.mem_of_getElem? (i := 0) rfl)
set_option maxRecDepth 100000 in
theorem zg_sR1 {D : zk_D} {base : Nat} {Hb : Heap} {s : State} (hK : zg_K D base Hb s) : vk_R "UnaskedLetters$RuleReader" 52 "tbdx" (D.2.2.2.1 121) s := hK.2.2.2.2.2.2.2.2.2.1 ("UnaskedLetters$RuleReader", 52, "tbdx", 121) (List.mem_of_getElem? (i := 1) rfl)
set_option maxRecDepth 100000 in
theorem zg_sR2 {D : zk_D} {base : Nat} {Hb : Heap} {s : State} (hK : zg_K D base Hb s) : vk_R "UnaskedLetters$RuleReader" 88 "wlsknauhrmyo" (D.2.2.2.1 24) s := hK.2.2.2.2.2.2.2.2.2.1 ("UnaskedLetters$RuleReader", 88, "wlsknauhrmyo", 24) (List.mem_of_getElem? (i := 2) rfl)
set_option maxRecDepth 100000 in
theorem zg_sR3 {D : zk_D} {base : Nat} {Hb : Heap} {s : State} (hK : zg_K D base Hb s) : vk_R "UnaskedLetters$LetterReader" 53 "0135" (D.2.2.2.1 117) s := hK.2.2.2.2.2.2.2.2.2.1 ("UnaskedLetters$LetterReader", 53, "0135", 117) (List.mem_of_getElem? (i := 3) rfl)
set_option maxRecDepth 100000 in
theorem zg_sR4 {D : zk_D} {base : Nat} {Hb : Heap} {s : State} (hK : zg_K D base Hb s) : vk_R "UnaskedLetters$LetterReader" 60 "oles" (D.2.2.2.1 119) s := hK.2.2.2.2.2.2.2.2.2.1 ("UnaskedLetters$LetterReader", 60, "oles", 119) (List.mem_of_getElem? (i := 4) rfl)
set_option maxRecDepth 100000 in
def qR0 : Room := { frames := 1, cells := 6, slots := 184, locals := 20 }
set_option maxHeartbeats 4000000 in
set_option maxRecDepth 100000 in
theorem qo0 {p : Program} {l : Launch} {e : Env} {s : State} {m : MethodId} {args : Array Value} {below : List Frame} {meth : Method} {c : Code} {s₁ : State} {Q : State → Prop} {D : zk_D} {base : Nat} {Hb : Heap} (B : BodyLoose p l yX4_init (headSpec (Jvm.Cond.code yX4_init prog_6_method_1_code 1 none :: zg_tb) qR0) prog_6_method_1_code 1 none e s m args below meth c s₁) (hml : c.maxLocals = 1) (hK : zg_K D base Hb s) : zk_ok p l e (headSpec (Jvm.Cond.code yX4_init prog_6_method_1_code 1 none :: zg_tb) qR0).room s m args below meth c Q qK D base Hb 1 prog_6_method_1_code qP0 qC0.2.2.2.2 := by
  have S : CallFix p m c prog_6_method_1_code 1 s args (Jvm.Cond.code yX4_init prog_6_method_1_code 1 none :: zg_tb) RX4 := ⟨B.exec, B.bytes, hml, findClass_of_methodNamed B.named, atoms_spec (ws := (Jvm.Cond.code yX4_init prog_6_method_1_code 1 none :: zg_tb)) B.pre⟩
  have hin2 : meth.name = "<init>" := (name_of_methodNamed B.named B.method).1
  exact ⟨List.forall_mem_cons.mpr ⟨zg_gpF S (hK.2.1 4 _ rfl) (fun w h => (List.mem_cons_of_mem _ (zc4 w h))) rfl hin2 zt4_0 (List.mem_cons_of_mem _ zw1_37) rfl, List.forall_mem_cons.mpr ⟨zg_gpF S (hK.2.1 4 _ rfl) (fun w h => (List.mem_cons_of_mem _ (zc4 w h))) rfl hin2 zt4_1 (List.mem_cons_of_mem _ zw1_39) rfl, List.forall_mem_cons.mpr ⟨zg_gpF S (hK.2.1 4 _ rfl) (fun w h => (List.mem_cons_of_mem _ (zc4 w h))) rfl hin2 zt4_2 (List.mem_cons_of_mem _ zw1_40) rfl, List.forall_mem_cons.mpr ⟨zg_gpF S (hK.2.1 4 _ rfl) (fun w h => (List.mem_cons_of_mem _ (zc4 w h))) rfl hin2 zt4_3 (List.mem_cons_of_mem _ zw1_42) rfl, List.forall_mem_cons.mpr ⟨zg_gpF S (hK.2.1 4 _ rfl) (fun w h => (List.mem_cons_of_mem _ (zc4 w h))) rfl hin2 zt4_4 (List.mem_cons_of_mem _ zw1_44) rfl, List.forall_mem_cons.mpr ⟨zg_gpF S (hK.2.1 4 _ rfl) (fun w h => (List.mem_cons_of_mem _ (zc4 w h))) rfl hin2 zt4_5 (List.mem_cons_of_mem _ zw1_46) rfl, fun _ h => absurd h List.not_mem_nil⟩⟩⟩⟩⟩⟩,
    fun _ h => absurd h List.not_mem_nil,
    fun _ h => absurd h List.not_mem_nil,
    List.forall_mem_cons.mpr ⟨zg_nakE (tag := 2) (by decide +kernel) (zg_nak (atype := .boolean) S (hK.2.2.2.1 (2, _) (List.mem_of_getElem? (i := 2) rfl)) (List.mem_cons_of_mem _ zw1_69) (zk_dg_ok qdo_6_1 (by decide +kernel)) rfl rfl), List.forall_mem_cons.mpr ⟨zg_nakE (tag := 0) (by decide +kernel) (zg_nak (atype := .int) S (hK.2.2.2.1 (0, _) (List.mem_of_getElem? (i := 0) rfl)) (List.mem_cons_of_mem _ zw1_70) (zk_dg_ok qdo_6_1 (by decide +kernel)) rfl rfl), List.forall_mem_cons.mpr ⟨zg_nakE (tag := 0) (by decide +kernel) (zg_nak (atype := .int) S (hK.2.2.2.1 (0, _) (List.mem_of_getElem? (i := 0) rfl)) (List.mem_cons_of_mem _ zw1_70) (zk_dg_ok qdo_6_1 (by decide +kernel)) rfl rfl), List.forall_mem_cons.mpr ⟨zg_nakE (tag := 2) (by decide +kernel) (zg_nak (atype := .boolean) S (hK.2.2.2.1 (2, _) (List.mem_of_getElem? (i := 2) rfl)) (List.mem_cons_of_mem _ zw1_69) (zk_dg_ok qdo_6_1 (by decide +kernel)) rfl rfl), List.forall_mem_cons.mpr ⟨zg_nakE (tag := 0) (by decide +kernel) (zg_nak (atype := .int) S (hK.2.2.2.1 (0, _) (List.mem_of_getElem? (i := 0) rfl)) (List.mem_cons_of_mem _ zw1_70) (zk_dg_ok qdo_6_1 (by decide +kernel)) rfl rfl), List.forall_mem_cons.mpr ⟨zg_nakE (tag := 2) (by decide +kernel) (zg_nak (atype := .boolean) S (hK.2.2.2.1 (2, _) (List.mem_of_getElem? (i := 2) rfl)) (List.mem_cons_of_mem _ zw1_69) (zk_dg_ok qdo_6_1 (by decide +kernel)) rfl rfl), fun _ h => absurd h List.not_mem_nil⟩⟩⟩⟩⟩⟩,
    fun _ => Nat.le_of_ble_eq_true rfl,
    fun _ h => absurd h List.not_mem_nil,
    List.forall_mem_cons.mpr ⟨zg_callO S (List.mem_cons_of_mem _ zw1_36) (List.mem_cons_of_mem _ zw1_29) (List.mem_cons_of_mem _ zw1_30) ⟨rfl, rfl⟩ (zk_dg_ok qdo_6_1 (by decide +kernel)), fun _ h => absurd h List.not_mem_nil⟩⟩
set_option maxRecDepth 100000 in
theorem zpn_X4 : plainName RX4 = true := by decide +kernel
set_option maxRecDepth 100000 in
theorem qm0 {l : Launch} {D : zk_D} {base : Nat} {Hb : Heap} : zk_Met l qK D base Hb (zg_K D base Hb) yX4_init (Jvm.Cond.code yX4_init prog_6_method_1_code 1 none :: zg_tb) qR0 qC0 := zk_met (ws' := zg_tb) (P := qP0) (AT := zg_AT) zpn_X4 rfl rfl rfl qk0 (fun s hK => zg_wd hK) (fun p e s m args below meth c s₁ Q B hml hK => qo0 B hml hK) (fun p e s m args below meth c s₁ v G0 H0 B hml hK ha hp hF q hq => absurd hq List.not_mem_nil)
set_option maxRecDepth 100000 in
def qR1 : Room := { frames := 1, cells := 1, slots := 160, locals := 20 }
set_option maxHeartbeats 4000000 in
set_option maxRecDepth 100000 in
theorem qo1 {p : Program} {l : Launch} {e : Env} {s : State} {m : MethodId} {args : Array Value} {below : List Frame} {meth : Method} {c : Code} {s₁ : State} {Q : State → Prop} {D : zk_D} {base : Nat} {Hb : Heap} (B : BodyLoose p l yX8_init (headSpec (Jvm.Cond.code yX8_init prog_10_method_1_code 1 none :: zg_tb) qR1) prog_10_method_1_code 1 none e s m args below meth c s₁) (hml : c.maxLocals = 1) (hK : zg_K D base Hb s) : zk_ok p l e (headSpec (Jvm.Cond.code yX8_init prog_10_method_1_code 1 none :: zg_tb) qR1).room s m args below meth c Q qK D base Hb 1 prog_10_method_1_code qP1 qC1.2.2.2.2 := by
  have S : CallFix p m c prog_10_method_1_code 1 s args (Jvm.Cond.code yX8_init prog_10_method_1_code 1 none :: zg_tb) RX8 := ⟨B.exec, B.bytes, hml, findClass_of_methodNamed B.named, atoms_spec (ws := (Jvm.Cond.code yX8_init prog_10_method_1_code 1 none :: zg_tb)) B.pre⟩
  have hin2 : meth.name = "<init>" := (name_of_methodNamed B.named B.method).1
  exact ⟨List.forall_mem_cons.mpr ⟨zg_gpF S (hK.2.1 8 _ rfl) (fun w h => (List.mem_cons_of_mem _ (zc8 w h))) rfl hin2 zt8_0 (List.mem_cons_of_mem _ zw1_77) rfl, fun _ h => absurd h List.not_mem_nil⟩,
    fun _ h => absurd h List.not_mem_nil,
    fun _ h => absurd h List.not_mem_nil,
    List.forall_mem_cons.mpr ⟨zg_nakE (tag := 3) (by decide +kernel) (zg_nak (atype := .char) S (hK.2.2.2.1 (3, _) (List.mem_of_getElem? (i := 3) rfl)) (List.mem_cons_of_mem _ zw1_87) (zk_dg_ok qdo_10_1 (by decide +kernel)) rfl rfl), fun _ h => absurd h List.not_mem_nil⟩,
    fun _ => Nat.le_of_ble_eq_true rfl,
    fun _ h => absurd h List.not_mem_nil,
    List.forall_mem_cons.mpr ⟨zg_callO S (List.mem_cons_of_mem _ zw1_76) (List.mem_cons_of_mem _ zw1_29) (List.mem_cons_of_mem _ zw1_30) ⟨rfl, rfl⟩ (zk_dg_ok qdo_10_1 (by decide +kernel)), fun _ h => absurd h List.not_mem_nil⟩⟩
set_option maxRecDepth 100000 in
theorem zpn_X8 : plainName RX8 = true := by decide +kernel
set_option maxRecDepth 100000 in
theorem qm1 {l : Launch} {D : zk_D} {base : Nat} {Hb : Heap} : zk_Met l qK D base Hb (zg_K D base Hb) yX8_init (Jvm.Cond.code yX8_init prog_10_method_1_code 1 none :: zg_tb) qR1 qC1 := zk_met (ws' := zg_tb) (P := qP1) (AT := zg_AT) zpn_X8 rfl rfl rfl qk1 (fun s hK => zg_wd hK) (fun p e s m args below meth c s₁ Q B hml hK => qo1 B hml hK) (fun p e s m args below meth c s₁ v G0 H0 B hml hK ha hp hF q hq => absurd hq List.not_mem_nil)
set_option maxRecDepth 100000 in
def qR2 : Room := { frames := 1, cells := 1, slots := 160, locals := 20 }
set_option maxHeartbeats 4000000 in
set_option maxRecDepth 100000 in
theorem qo2 {p : Program} {l : Launch} {e : Env} {s : State} {m : MethodId} {args : Array Value} {below : List Frame} {meth : Method} {c : Code} {s₁ : State} {Q : State → Prop} {D : zk_D} {base : Nat} {Hb : Heap} (B : BodyLoose p l yX2_init (headSpec (Jvm.Cond.code yX2_init prog_4_method_1_code 1 none :: zg_tb) qR2) prog_4_method_1_code 1 none e s m args below meth c s₁) (hml : c.maxLocals = 1) (hK : zg_K D base Hb s) : zk_ok p l e (headSpec (Jvm.Cond.code yX2_init prog_4_method_1_code 1 none :: zg_tb) qR2).room s m args below meth c Q qK D base Hb 1 prog_4_method_1_code qP2 qC2.2.2.2.2 := by
  have S : CallFix p m c prog_4_method_1_code 1 s args (Jvm.Cond.code yX2_init prog_4_method_1_code 1 none :: zg_tb) RX2 := ⟨B.exec, B.bytes, hml, findClass_of_methodNamed B.named, atoms_spec (ws := (Jvm.Cond.code yX2_init prog_4_method_1_code 1 none :: zg_tb)) B.pre⟩
  have hin2 : meth.name = "<init>" := (name_of_methodNamed B.named B.method).1
  exact ⟨List.forall_mem_cons.mpr ⟨zg_gpF S (hK.2.1 2 _ rfl) (fun w h => (List.mem_cons_of_mem _ (zc2 w h))) rfl hin2 zt2_0 (List.mem_cons_of_mem _ zw1_94) rfl, fun _ h => absurd h List.not_mem_nil⟩,
    fun _ h => absurd h List.not_mem_nil,
    fun _ h => absurd h List.not_mem_nil,
    List.forall_mem_cons.mpr ⟨zg_nakE (tag := 1) (by decide +kernel) (zg_nak (atype := .long) S (hK.2.2.2.1 (1, _) (List.mem_of_getElem? (i := 1) rfl)) (List.mem_cons_of_mem _ zw1_109) (zk_dg_ok qdo_4_1 (by decide +kernel)) rfl rfl), fun _ h => absurd h List.not_mem_nil⟩,
    fun _ => Nat.le_of_ble_eq_true rfl,
    fun _ h => absurd h List.not_mem_nil,
    List.forall_mem_cons.mpr ⟨zg_callO S (List.mem_cons_of_mem _ zw1_93) (List.mem_cons_of_mem _ zw1_29) (List.mem_cons_of_mem _ zw1_30) ⟨rfl, rfl⟩ (zk_dg_ok qdo_4_1 (by decide +kernel)), fun _ h => absurd h List.not_mem_nil⟩⟩
set_option maxRecDepth 100000 in
theorem zpn_X2 : plainName RX2 = true := by decide +kernel
set_option maxRecDepth 100000 in
theorem qm2 {l : Launch} {D : zk_D} {base : Nat} {Hb : Heap} : zk_Met l qK D base Hb (zg_K D base Hb) yX2_init (Jvm.Cond.code yX2_init prog_4_method_1_code 1 none :: zg_tb) qR2 qC2 := zk_met (ws' := zg_tb) (P := qP2) (AT := zg_AT) zpn_X2 rfl rfl rfl qk2 (fun s hK => zg_wd hK) (fun p e s m args below meth c s₁ Q B hml hK => qo2 B hml hK) (fun p e s m args below meth c s₁ v G0 H0 B hml hK ha hp hF q hq => absurd hq List.not_mem_nil)
set_option maxRecDepth 100000 in
def qR3 : Room := { frames := 1, cells := 1, slots := 320, locals := 20 }
set_option maxHeartbeats 4000000 in
set_option maxRecDepth 100000 in
theorem qo3 {p : Program} {l : Launch} {e : Env} {s : State} {m : MethodId} {args : Array Value} {below : List Frame} {meth : Method} {c : Code} {s₁ : State} {Q : State → Prop} {D : zk_D} {base : Nat} {Hb : Heap} (B : BodyLoose p l yX6_init (headSpec (Jvm.Cond.code yX6_init prog_8_method_1_code 1 none :: zg_tb) qR3) prog_8_method_1_code 1 none e s m args below meth c s₁) (hml : c.maxLocals = 1) (hK : zg_K D base Hb s) : zk_ok p l e (headSpec (Jvm.Cond.code yX6_init prog_8_method_1_code 1 none :: zg_tb) qR3).room s m args below meth c Q qK D base Hb 1 prog_8_method_1_code qP3 qC3.2.2.2.2 := by
  have S : CallFix p m c prog_8_method_1_code 1 s args (Jvm.Cond.code yX6_init prog_8_method_1_code 1 none :: zg_tb) RX6 := ⟨B.exec, B.bytes, hml, findClass_of_methodNamed B.named, atoms_spec (ws := (Jvm.Cond.code yX6_init prog_8_method_1_code 1 none :: zg_tb)) B.pre⟩
  have hin2 : meth.name = "<init>" := (name_of_methodNamed B.named B.method).1
  exact ⟨List.forall_mem_cons.mpr ⟨zg_gpF S (hK.2.1 6 _ rfl) (fun w h => (List.mem_cons_of_mem _ (zc6 w h))) rfl hin2 zt6_0 (List.mem_cons_of_mem _ zw1_116) rfl, fun _ h => absurd h List.not_mem_nil⟩,
    fun _ h => absurd h List.not_mem_nil,
    fun _ h => absurd h List.not_mem_nil,
    List.forall_mem_cons.mpr ⟨zg_nakE (tag := 0) (by decide +kernel) (zg_nak (atype := .int) S (hK.2.2.2.1 (0, _) (List.mem_of_getElem? (i := 0) rfl)) (List.mem_cons_of_mem _ zw1_70) (zk_dg_ok qdo_8_1 (by decide +kernel)) rfl rfl), fun _ h => absurd h List.not_mem_nil⟩,
    fun _ => Nat.le_of_ble_eq_true rfl,
    fun _ h => absurd h List.not_mem_nil,
    List.forall_mem_cons.mpr ⟨zg_callO S (List.mem_cons_of_mem _ zw1_115) (List.mem_cons_of_mem _ zw1_29) (List.mem_cons_of_mem _ zw1_30) ⟨rfl, rfl⟩ (zk_dg_ok qdo_8_1 (by decide +kernel)), fun _ h => absurd h List.not_mem_nil⟩⟩
set_option maxRecDepth 100000 in
theorem zpn_X6 : plainName RX6 = true := by decide +kernel
set_option maxRecDepth 100000 in
theorem qm3 {l : Launch} {D : zk_D} {base : Nat} {Hb : Heap} : zk_Met l qK D base Hb (zg_K D base Hb) yX6_init (Jvm.Cond.code yX6_init prog_8_method_1_code 1 none :: zg_tb) qR3 qC3 := zk_met (ws' := zg_tb) (P := qP3) (AT := zg_AT) zpn_X6 rfl rfl rfl qk3 (fun s hK => zg_wd hK) (fun p e s m args below meth c s₁ Q B hml hK => qo3 B hml hK) (fun p e s m args below meth c s₁ v G0 H0 B hml hK ha hp hF q hq => absurd hq List.not_mem_nil)
set_option maxRecDepth 100000 in
def qR4 : Room := { frames := 1, cells := 0, slots := 0, locals := 20 }
set_option maxHeartbeats 4000000 in
set_option maxRecDepth 100000 in
theorem qo4 {p : Program} {l : Launch} {e : Env} {s : State} {m : MethodId} {args : Array Value} {below : List Frame} {meth : Method} {c : Code} {s₁ : State} {Q : State → Prop} {D : zk_D} {base : Nat} {Hb : Heap} (B : BodyLoose p l yJ0_coder_7d493 (headSpec (Jvm.Cond.code yJ0_coder_7d493 prog_19_method_152_code 1 (some .byte) :: zg_tb) qR4) prog_19_method_152_code 1 (some .byte) e s m args below meth c s₁) (hml : c.maxLocals = 1) (hK : zg_K D base Hb s) : zk_ok p l e (headSpec (Jvm.Cond.code yJ0_coder_7d493 prog_19_method_152_code 1 (some .byte) :: zg_tb) qR4).room s m args below meth c Q qK D base Hb 1 prog_19_method_152_code qP4 qC4.2.2.2.2 := by
  have S : CallFix p m c prog_19_method_152_code 1 s args (Jvm.Cond.code yJ0_coder_7d493 prog_19_method_152_code 1 (some .byte) :: zg_tb) RJ0 := ⟨B.exec, B.bytes, hml, findClass_of_methodNamed B.named, atoms_spec (ws := (Jvm.Cond.code yJ0_coder_7d493 prog_19_method_152_code 1 (some .byte) :: zg_tb)) B.pre⟩
  exact ⟨List.forall_mem_cons.mpr ⟨⟨zg_gokS S (hK.2.2.2.2.2.2.2.2.1 _ (List.mem_of_getElem? (i := 1) rfl)) (List.mem_cons_of_mem _ zw8_58), zg_pok4⟩, fun _ h => absurd h List.not_mem_nil⟩,
    fun _ h => absurd h List.not_mem_nil,
    fun _ h => absurd h List.not_mem_nil,
    fun _ h => absurd h List.not_mem_nil,
    fun h => absurd rfl h,
    List.forall_mem_cons.mpr ⟨zg_kokG S (hK.2.2.2.2.2.2.2.2.2.2.1 _ (List.mem_of_getElem? (i := 0) rfl)) (List.mem_cons_of_mem _ zw1_144) (by decide +kernel) (zk_dg_ok qdo_19_152 (by decide +kernel)), fun _ h => absurd h List.not_mem_nil⟩,
    fun _ h => absurd h List.not_mem_nil⟩
set_option maxRecDepth 100000 in
theorem zpn_J0 : plainName RJ0 = true := by decide +kernel
set_option maxRecDepth 100000 in
theorem qm4 {l : Launch} {D : zk_D} {base : Nat} {Hb : Heap} : zk_Met l qK D base Hb (zg_K D base Hb) yJ0_coder_7d493 (Jvm.Cond.code yJ0_coder_7d493 prog_19_method_152_code 1 (some .byte) :: zg_tb) qR4 qC4 := zk_met (ws' := zg_tb) (P := qP4) (AT := zg_AT) zpn_J0 rfl rfl rfl qk4 (fun s hK => zg_wd hK) (fun p e s m args below meth c s₁ Q B hml hK => qo4 B hml hK) (fun p e s m args below meth c s₁ v G0 H0 B hml hK ha hp hF q hq => absurd hq List.not_mem_nil)
set_option maxRecDepth 100000 in
def qR5 : Room := { frames := 2, cells := 0, slots := 0, locals := 40 }
set_option maxHeartbeats 4000000 in
set_option maxRecDepth 100000 in
theorem qo5 {p : Program} {l : Launch} {e : Env} {s : State} {m : MethodId} {args : Array Value} {below : List Frame} {meth : Method} {c : Code} {s₁ : State} {Q : State → Prop} {D : zk_D} {base : Nat} {Hb : Heap} (B : BodyLoose p l yJ0_length_8abf5 (headSpec (Jvm.Cond.code yJ0_length_8abf5 prog_19_method_54_code 1 (some .int) :: zg_tb) qR5) prog_19_method_54_code 1 (some .int) e s m args below meth c s₁) (hml : c.maxLocals = 1) (hK : zg_K D base Hb s) : zk_ok p l e (headSpec (Jvm.Cond.code yJ0_length_8abf5 prog_19_method_54_code 1 (some .int) :: zg_tb) qR5).room s m args below meth c Q qK D base Hb 1 prog_19_method_54_code qP5 qC5.2.2.2.2 := by
  have S : CallFix p m c prog_19_method_54_code 1 s args (Jvm.Cond.code yJ0_length_8abf5 prog_19_method_54_code 1 (some .int) :: zg_tb) RJ0 := ⟨B.exec, B.bytes, hml, findClass_of_methodNamed B.named, atoms_spec (ws := (Jvm.Cond.code yJ0_length_8abf5 prog_19_method_54_code 1 (some .int) :: zg_tb)) B.pre⟩
  exact ⟨List.forall_mem_cons.mpr ⟨⟨zg_gokS S (hK.2.2.2.2.2.2.2.2.1 _ (List.mem_of_getElem? (i := 0) rfl)) (List.mem_cons_of_mem _ zw8_57), zg_pok4⟩, fun _ h => absurd h List.not_mem_nil⟩,
    fun _ h => absurd h List.not_mem_nil,
    fun _ h => absurd h List.not_mem_nil,
    fun _ h => absurd h List.not_mem_nil,
    fun h => absurd rfl h,
    fun _ h => absurd h List.not_mem_nil,
    List.forall_mem_cons.mpr ⟨zg_callV (fun w h => List.mem_cons_of_mem _ h) zg_tb_all S hK zg_Km qm4 zw1_140 zy_yJ0_coder_7d493_V (ci := 13) (by decide +kernel) hK.2.2.2.2.2.2.2.1 ⟨rfl, rfl⟩ (zk_dg_ok qdo_19_54 (by decide +kernel)), fun _ h => absurd h List.not_mem_nil⟩⟩
set_option maxRecDepth 100000 in
theorem qm5 {l : Launch} {D : zk_D} {base : Nat} {Hb : Heap} : zk_Met l qK D base Hb (zg_K D base Hb) yJ0_length_8abf5 (Jvm.Cond.code yJ0_length_8abf5 prog_19_method_54_code 1 (some .int) :: zg_tb) qR5 qC5 := zk_met (ws' := zg_tb) (P := qP5) (AT := zg_AT) zpn_J0 rfl rfl rfl qk5 (fun s hK => zg_wd hK) (fun p e s m args below meth c s₁ Q B hml hK => qo5 B hml hK) (fun p e s m args below meth c s₁ v G0 H0 B hml hK ha hp hF q hq => absurd hq List.not_mem_nil)
set_option maxRecDepth 100000 in
def qR6 : Room := { frames := 3, cells := 2, slots := 76, locals := 60 }
set_option maxHeartbeats 4000000 in
set_option maxRecDepth 100000 in
theorem qo6 {p : Program} {l : Launch} {e : Env} {s : State} {m : MethodId} {args : Array Value} {below : List Frame} {meth : Method} {c : Code} {s₁ : State} {Q : State → Prop} {D : zk_D} {base : Nat} {Hb : Heap} (B : BodyLoose p l yX0_init (headSpec (Jvm.Cond.code yX0_init prog_2_method_1_code 1 none :: zg_tb) qR6) prog_2_method_1_code 1 none e s m args below meth c s₁) (hml : c.maxLocals = 1) (hK : zg_K D base Hb s) : zk_ok p l e (headSpec (Jvm.Cond.code yX0_init prog_2_method_1_code 1 none :: zg_tb) qR6).room s m args below meth c Q qK D base Hb 1 prog_2_method_1_code qP6 qC6.2.2.2.2 := by
  have S : CallFix p m c prog_2_method_1_code 1 s args (Jvm.Cond.code yX0_init prog_2_method_1_code 1 none :: zg_tb) RX0 := ⟨B.exec, B.bytes, hml, findClass_of_methodNamed B.named, atoms_spec (ws := (Jvm.Cond.code yX0_init prog_2_method_1_code 1 none :: zg_tb)) B.pre⟩
  have hin2 : meth.name = "<init>" := (name_of_methodNamed B.named B.method).1
  exact ⟨List.forall_mem_cons.mpr ⟨zg_gpF S (hK.2.1 0 _ rfl) (fun w h => (List.mem_cons_of_mem _ (zc0 w h))) rfl hin2 zt0_0 (List.mem_cons_of_mem _ zw1_146) rfl, List.forall_mem_cons.mpr ⟨zg_gpF S (hK.2.1 0 _ rfl) (fun w h => (List.mem_cons_of_mem _ (zc0 w h))) rfl hin2 zt0_1 (List.mem_cons_of_mem _ zw1_147) rfl, fun _ h => absurd h List.not_mem_nil⟩⟩,
    fun _ h => absurd h List.not_mem_nil,
    fun _ h => absurd h List.not_mem_nil,
    List.forall_mem_cons.mpr ⟨zg_nakE (tag := 0) (by decide +kernel) (zg_nak (atype := .int) S (hK.2.2.2.1 (0, _) (List.mem_of_getElem? (i := 0) rfl)) (List.mem_cons_of_mem _ zw1_70) (zk_dg_ok qdo_2_1 (by decide +kernel)) rfl rfl), List.forall_mem_cons.mpr ⟨zg_nakE (tag := 0) (by decide +kernel) (zg_nak (atype := .int) S (hK.2.2.2.1 (0, _) (List.mem_of_getElem? (i := 0) rfl)) (List.mem_cons_of_mem _ zw1_70) (zk_dg_ok qdo_2_1 (by decide +kernel)) rfl rfl), fun _ h => absurd h List.not_mem_nil⟩⟩,
    fun _ => Nat.le_of_ble_eq_true rfl,
    List.forall_mem_cons.mpr ⟨zg_kokS (k := 24) (tx := "wlsknauhrmyo") S (zg_sR0 hK) (by decide +kernel) (by decide) (zk_dg_ok qdo_2_1 (by decide +kernel)), fun _ h => absurd h List.not_mem_nil⟩,
    List.forall_mem_cons.mpr ⟨zg_callO S (List.mem_cons_of_mem _ zw1_134) (List.mem_cons_of_mem _ zw1_29) (List.mem_cons_of_mem _ zw1_30) ⟨rfl, rfl⟩ (zk_dg_ok qdo_2_1 (by decide +kernel)), List.forall_mem_cons.mpr ⟨zg_callV (fun w h => List.mem_cons_of_mem _ h) zg_tb_all S hK zg_Km qm5 zw1_136 zy_yJ0_length_8abf5_V (ci := 13) (by decide +kernel) hK.2.2.2.2.2.2.2.1 ⟨rfl, rfl⟩ (zk_dg_ok qdo_2_1 (by decide +kernel)), fun _ h => absurd h List.not_mem_nil⟩⟩⟩
set_option maxRecDepth 100000 in
theorem zpn_X0 : plainName RX0 = true := by decide +kernel
set_option maxRecDepth 100000 in
theorem qm6 {l : Launch} {D : zk_D} {base : Nat} {Hb : Heap} : zk_Met l qK D base Hb (zg_K D base Hb) yX0_init (Jvm.Cond.code yX0_init prog_2_method_1_code 1 none :: zg_tb) qR6 qC6 := zk_met (ws' := zg_tb) (P := qP6) (AT := zg_AT) zpn_X0 rfl rfl rfl qk6 (fun s hK => zg_wd hK) (fun p e s m args below meth c s₁ Q B hml hK => qo6 B hml hK) (fun p e s m args below meth c s₁ v G0 H0 B hml hK ha hp hF q hq => absurd hq List.not_mem_nil)
set_option maxRecDepth 100000 in
def qR7 : Room := { frames := 1, cells := 8, slots := 400, locals := 20 }
set_option maxHeartbeats 4000000 in
set_option maxRecDepth 100000 in
theorem qo7 {p : Program} {l : Launch} {e : Env} {s : State} {m : MethodId} {args : Array Value} {below : List Frame} {meth : Method} {c : Code} {s₁ : State} {Q : State → Prop} {D : zk_D} {base : Nat} {Hb : Heap} (B : BodyLoose p l yX5_init (headSpec (Jvm.Cond.code yX5_init prog_7_method_1_code 1 none :: zg_tb) qR7) prog_7_method_1_code 1 none e s m args below meth c s₁) (hml : c.maxLocals = 1) (hK : zg_K D base Hb s) : zk_ok p l e (headSpec (Jvm.Cond.code yX5_init prog_7_method_1_code 1 none :: zg_tb) qR7).room s m args below meth c Q qK D base Hb 1 prog_7_method_1_code qP7 qC7.2.2.2.2 := by
  have S : CallFix p m c prog_7_method_1_code 1 s args (Jvm.Cond.code yX5_init prog_7_method_1_code 1 none :: zg_tb) RX5 := ⟨B.exec, B.bytes, hml, findClass_of_methodNamed B.named, atoms_spec (ws := (Jvm.Cond.code yX5_init prog_7_method_1_code 1 none :: zg_tb)) B.pre⟩
  have hin2 : meth.name = "<init>" := (name_of_methodNamed B.named B.method).1
  exact ⟨List.forall_mem_cons.mpr ⟨zg_gpF S (hK.2.1 5 _ rfl) (fun w h => (List.mem_cons_of_mem _ (zc5 w h))) rfl hin2 zt5_0 (List.mem_cons_of_mem _ zw1_179) rfl, List.forall_mem_cons.mpr ⟨zg_gpF S (hK.2.1 5 _ rfl) (fun w h => (List.mem_cons_of_mem _ (zc5 w h))) rfl hin2 zt5_1 (List.mem_cons_of_mem _ zw1_180) rfl, List.forall_mem_cons.mpr ⟨zg_gpF S (hK.2.1 5 _ rfl) (fun w h => (List.mem_cons_of_mem _ (zc5 w h))) rfl hin2 zt5_2 (List.mem_cons_of_mem _ zw1_181) rfl, List.forall_mem_cons.mpr ⟨zg_gpF S (hK.2.1 5 _ rfl) (fun w h => (List.mem_cons_of_mem _ (zc5 w h))) rfl hin2 zt5_3 (List.mem_cons_of_mem _ zw1_182) rfl, List.forall_mem_cons.mpr ⟨zg_gpF S (hK.2.1 5 _ rfl) (fun w h => (List.mem_cons_of_mem _ (zc5 w h))) rfl hin2 zt5_4 (List.mem_cons_of_mem _ zw1_183) rfl, List.forall_mem_cons.mpr ⟨zg_gpF S (hK.2.1 5 _ rfl) (fun w h => (List.mem_cons_of_mem _ (zc5 w h))) rfl hin2 zt5_6 (List.mem_cons_of_mem _ zw1_186) rfl, List.forall_mem_cons.mpr ⟨zg_gpF S (hK.2.1 5 _ rfl) (fun w h => (List.mem_cons_of_mem _ (zc5 w h))) rfl hin2 zt5_7 (List.mem_cons_of_mem _ zw1_187) rfl, List.forall_mem_cons.mpr ⟨zg_gpF S (hK.2.1 5 _ rfl) (fun w h => (List.mem_cons_of_mem _ (zc5 w h))) rfl hin2 zt5_8 (List.mem_cons_of_mem _ zw1_188) rfl, fun _ h => absurd h List.not_mem_nil⟩⟩⟩⟩⟩⟩⟩⟩,
    fun _ h => absurd h List.not_mem_nil,
    fun _ h => absurd h List.not_mem_nil,
    List.forall_mem_cons.mpr ⟨zg_nakE (tag := 0) (by decide +kernel) (zg_nak (atype := .int) S (hK.2.2.2.1 (0, _) (List.mem_of_getElem? (i := 0) rfl)) (List.mem_cons_of_mem _ zw1_70) (zk_dg_ok qdo_7_1 (by decide +kernel)) rfl rfl), List.forall_mem_cons.mpr ⟨zg_nakE (tag := 2) (by decide +kernel) (zg_nak (atype := .boolean) S (hK.2.2.2.1 (2, _) (List.mem_of_getElem? (i := 2) rfl)) (List.mem_cons_of_mem _ zw1_69) (zk_dg_ok qdo_7_1 (by decide +kernel)) rfl rfl), List.forall_mem_cons.mpr ⟨zg_nakE (tag := 0) (by decide +kernel) (zg_nak (atype := .int) S (hK.2.2.2.1 (0, _) (List.mem_of_getElem? (i := 0) rfl)) (List.mem_cons_of_mem _ zw1_70) (zk_dg_ok qdo_7_1 (by decide +kernel)) rfl rfl), List.forall_mem_cons.mpr ⟨zg_nakE (tag := 0) (by decide +kernel) (zg_nak (atype := .int) S (hK.2.2.2.1 (0, _) (List.mem_of_getElem? (i := 0) rfl)) (List.mem_cons_of_mem _ zw1_70) (zk_dg_ok qdo_7_1 (by decide +kernel)) rfl rfl), List.forall_mem_cons.mpr ⟨zg_nakE (tag := 10) (by decide +kernel) (zg_nakA (t := FieldType.int) S (hK.2.2.2.1 (10, _) (List.mem_of_getElem? (i := 5) rfl)) (List.mem_cons_of_mem _ zw1_177) (hK.2.2.2.2.2.2.1 _ (List.mem_of_getElem? (i := 0) rfl)) (zk_dg_ok qdo_7_1 (by decide +kernel)) rfl), List.forall_mem_cons.mpr ⟨zg_nakE (tag := 0) (by decide +kernel) (zg_nak (atype := .int) S (hK.2.2.2.1 (0, _) (List.mem_of_getElem? (i := 0) rfl)) (List.mem_cons_of_mem _ zw1_70) (zk_dg_ok qdo_7_1 (by decide +kernel)) rfl rfl), List.forall_mem_cons.mpr ⟨zg_nakE (tag := 0) (by decide +kernel) (zg_nak (atype := .int) S (hK.2.2.2.1 (0, _) (List.mem_of_getElem? (i := 0) rfl)) (List.mem_cons_of_mem _ zw1_70) (zk_dg_ok qdo_7_1 (by decide +kernel)) rfl rfl), List.forall_mem_cons.mpr ⟨zg_nakE (tag := 0) (by decide +kernel) (zg_nak (atype := .int) S (hK.2.2.2.1 (0, _) (List.mem_of_getElem? (i := 0) rfl)) (List.mem_cons_of_mem _ zw1_70) (zk_dg_ok qdo_7_1 (by decide +kernel)) rfl rfl), fun _ h => absurd h List.not_mem_nil⟩⟩⟩⟩⟩⟩⟩⟩,
    fun _ => Nat.le_of_ble_eq_true rfl,
    fun _ h => absurd h List.not_mem_nil,
    List.forall_mem_cons.mpr ⟨zg_callO S (List.mem_cons_of_mem _ zw1_176) (List.mem_cons_of_mem _ zw1_29) (List.mem_cons_of_mem _ zw1_30) ⟨rfl, rfl⟩ (zk_dg_ok qdo_7_1 (by decide +kernel)), fun _ h => absurd h List.not_mem_nil⟩⟩
set_option maxRecDepth 100000 in
theorem zpn_X5 : plainName RX5 = true := by decide +kernel
set_option maxRecDepth 100000 in
theorem qm7 {l : Launch} {D : zk_D} {base : Nat} {Hb : Heap} : zk_Met l qK D base Hb (zg_K D base Hb) yX5_init (Jvm.Cond.code yX5_init prog_7_method_1_code 1 none :: zg_tb) qR7 qC7 := zk_met (ws' := zg_tb) (P := qP7) (AT := zg_AT) zpn_X5 rfl rfl rfl qk7 (fun s hK => zg_wd hK) (fun p e s m args below meth c s₁ Q B hml hK => qo7 B hml hK) (fun p e s m args below meth c s₁ v G0 H0 B hml hK ha hp hF q hq => absurd hq List.not_mem_nil)
set_option maxRecDepth 100000 in
def qR8 : Room := { frames := 1, cells := 4, slots := 427, locals := 20 }
set_option maxHeartbeats 4000000 in
set_option maxRecDepth 100000 in
theorem qo8 {p : Program} {l : Launch} {e : Env} {s : State} {m : MethodId} {args : Array Value} {below : List Frame} {meth : Method} {c : Code} {s₁ : State} {Q : State → Prop} {D : zk_D} {base : Nat} {Hb : Heap} (B : BodyLoose p l yX10_init (headSpec (Jvm.Cond.code yX10_init prog_12_method_1_code 1 none :: zg_tb) qR8) prog_12_method_1_code 1 none e s m args below meth c s₁) (hml : c.maxLocals = 1) (hK : zg_K D base Hb s) : zk_ok p l e (headSpec (Jvm.Cond.code yX10_init prog_12_method_1_code 1 none :: zg_tb) qR8).room s m args below meth c Q qK D base Hb 1 prog_12_method_1_code qP8 qC8.2.2.2.2 := by
  have S : CallFix p m c prog_12_method_1_code 1 s args (Jvm.Cond.code yX10_init prog_12_method_1_code 1 none :: zg_tb) RX10 := ⟨B.exec, B.bytes, hml, findClass_of_methodNamed B.named, atoms_spec (ws := (Jvm.Cond.code yX10_init prog_12_method_1_code 1 none :: zg_tb)) B.pre⟩
  have hin2 : meth.name = "<init>" := (name_of_methodNamed B.named B.method).1
  exact ⟨List.forall_mem_cons.mpr ⟨zg_gpF S (hK.2.1 10 _ rfl) (fun w h => (List.mem_cons_of_mem _ (zc10 w h))) rfl hin2 zt10_0 (List.mem_cons_of_mem _ zw1_219) rfl, List.forall_mem_cons.mpr ⟨zg_gpF S (hK.2.1 10 _ rfl) (fun w h => (List.mem_cons_of_mem _ (zc10 w h))) rfl hin2 zt10_1 (List.mem_cons_of_mem _ zw1_220) rfl, List.forall_mem_cons.mpr ⟨zg_gpF S (hK.2.1 10 _ rfl) (fun w h => (List.mem_cons_of_mem _ (zc10 w h))) rfl hin2 zt10_2 (List.mem_cons_of_mem _ zw1_221) rfl, List.forall_mem_cons.mpr ⟨zg_gpF S (hK.2.1 10 _ rfl) (fun w h => (List.mem_cons_of_mem _ (zc10 w h))) rfl hin2 zt10_3 (List.mem_cons_of_mem _ zw1_222) rfl, fun _ h => absurd h List.not_mem_nil⟩⟩⟩⟩,
    fun _ h => absurd h List.not_mem_nil,
    fun _ h => absurd h List.not_mem_nil,
    List.forall_mem_cons.mpr ⟨zg_nakE (tag := 11) (by decide +kernel) (zg_nakR S (hK.2.2.2.1 (11, _) (List.mem_of_getElem? (i := 6) rfl)) (List.mem_cons_of_mem _ zw1_217) (hK.2.2.2.2.2.1 _ (List.mem_of_getElem? (i := 0) rfl)) (zk_dg_ok qdo_12_1 (by decide +kernel)) rfl), List.forall_mem_cons.mpr ⟨zg_nakE (tag := 11) (by decide +kernel) (zg_nakR S (hK.2.2.2.1 (11, _) (List.mem_of_getElem? (i := 6) rfl)) (List.mem_cons_of_mem _ zw1_217) (hK.2.2.2.2.2.1 _ (List.mem_of_getElem? (i := 0) rfl)) (zk_dg_ok qdo_12_1 (by decide +kernel)) rfl), List.forall_mem_cons.mpr ⟨zg_nakE (tag := 11) (by decide +kernel) (zg_nakR S (hK.2.2.2.1 (11, _) (List.mem_of_getElem? (i := 6) rfl)) (List.mem_cons_of_mem _ zw1_217) (hK.2.2.2.2.2.1 _ (List.mem_of_getElem? (i := 0) rfl)) (zk_dg_ok qdo_12_1 (by decide +kernel)) rfl), List.forall_mem_cons.mpr ⟨zg_nakE (tag := 11) (by decide +kernel) (zg_nakR S (hK.2.2.2.1 (11, _) (List.mem_of_getElem? (i := 6) rfl)) (List.mem_cons_of_mem _ zw1_217) (hK.2.2.2.2.2.1 _ (List.mem_of_getElem? (i := 0) rfl)) (zk_dg_ok qdo_12_1 (by decide +kernel)) rfl), fun _ h => absurd h List.not_mem_nil⟩⟩⟩⟩,
    fun _ => Nat.le_of_ble_eq_true rfl,
    fun _ h => absurd h List.not_mem_nil,
    List.forall_mem_cons.mpr ⟨zg_callO S (List.mem_cons_of_mem _ zw1_216) (List.mem_cons_of_mem _ zw1_29) (List.mem_cons_of_mem _ zw1_30) ⟨rfl, rfl⟩ (zk_dg_ok qdo_12_1 (by decide +kernel)), fun _ h => absurd h List.not_mem_nil⟩⟩
set_option maxRecDepth 100000 in
theorem zpn_X10 : plainName RX10 = true := by decide +kernel
set_option maxRecDepth 100000 in
theorem qm8 {l : Launch} {D : zk_D} {base : Nat} {Hb : Heap} : zk_Met l qK D base Hb (zg_K D base Hb) yX10_init (Jvm.Cond.code yX10_init prog_12_method_1_code 1 none :: zg_tb) qR8 qC8 := zk_met (ws' := zg_tb) (P := qP8) (AT := zg_AT) zpn_X10 rfl rfl rfl qk8 (fun s hK => zg_wd hK) (fun p e s m args below meth c s₁ Q B hml hK => qo8 B hml hK) (fun p e s m args below meth c s₁ v G0 H0 B hml hK ha hp hF q hq => absurd hq List.not_mem_nil)
set_option maxRecDepth 100000 in
def qR9 : Room := { frames := 1, cells := 4, slots := 720, locals := 20 }
set_option maxHeartbeats 4000000 in
set_option maxRecDepth 100000 in
theorem qo9 {p : Program} {l : Launch} {e : Env} {s : State} {m : MethodId} {args : Array Value} {below : List Frame} {meth : Method} {c : Code} {s₁ : State} {Q : State → Prop} {D : zk_D} {base : Nat} {Hb : Heap} (B : BodyLoose p l yX3_init (headSpec (Jvm.Cond.code yX3_init prog_5_method_1_code 1 none :: zg_tb) qR9) prog_5_method_1_code 1 none e s m args below meth c s₁) (hml : c.maxLocals = 1) (hK : zg_K D base Hb s) : zk_ok p l e (headSpec (Jvm.Cond.code yX3_init prog_5_method_1_code 1 none :: zg_tb) qR9).room s m args below meth c Q qK D base Hb 1 prog_5_method_1_code qP9 qC9.2.2.2.2 := by
  have S : CallFix p m c prog_5_method_1_code 1 s args (Jvm.Cond.code yX3_init prog_5_method_1_code 1 none :: zg_tb) RX3 := ⟨B.exec, B.bytes, hml, findClass_of_methodNamed B.named, atoms_spec (ws := (Jvm.Cond.code yX3_init prog_5_method_1_code 1 none :: zg_tb)) B.pre⟩
  have hin2 : meth.name = "<init>" := (name_of_methodNamed B.named B.method).1
  exact ⟨List.forall_mem_cons.mpr ⟨zg_gpF S (hK.2.1 3 _ rfl) (fun w h => (List.mem_cons_of_mem _ (zc3 w h))) rfl hin2 zt3_0 (List.mem_cons_of_mem _ zw2_8) rfl, List.forall_mem_cons.mpr ⟨zg_gpF S (hK.2.1 3 _ rfl) (fun w h => (List.mem_cons_of_mem _ (zc3 w h))) rfl hin2 zt3_1 (List.mem_cons_of_mem _ zw2_9) rfl, List.forall_mem_cons.mpr ⟨zg_gpF S (hK.2.1 3 _ rfl) (fun w h => (List.mem_cons_of_mem _ (zc3 w h))) rfl hin2 zt3_2 (List.mem_cons_of_mem _ zw2_10) rfl, List.forall_mem_cons.mpr ⟨zg_gpF S (hK.2.1 3 _ rfl) (fun w h => (List.mem_cons_of_mem _ (zc3 w h))) rfl hin2 zt3_3 (List.mem_cons_of_mem _ zw2_11) rfl, fun _ h => absurd h List.not_mem_nil⟩⟩⟩⟩,
    fun _ h => absurd h List.not_mem_nil,
    fun _ h => absurd h List.not_mem_nil,
    List.forall_mem_cons.mpr ⟨zg_nakE (tag := 0) (by decide +kernel) (zg_nak (atype := .int) S (hK.2.2.2.1 (0, _) (List.mem_of_getElem? (i := 0) rfl)) (List.mem_cons_of_mem _ zw1_70) (zk_dg_ok qdo_5_1 (by decide +kernel)) rfl rfl), List.forall_mem_cons.mpr ⟨zg_nakE (tag := 0) (by decide +kernel) (zg_nak (atype := .int) S (hK.2.2.2.1 (0, _) (List.mem_of_getElem? (i := 0) rfl)) (List.mem_cons_of_mem _ zw1_70) (zk_dg_ok qdo_5_1 (by decide +kernel)) rfl rfl), List.forall_mem_cons.mpr ⟨zg_nakE (tag := 0) (by decide +kernel) (zg_nak (atype := .int) S (hK.2.2.2.1 (0, _) (List.mem_of_getElem? (i := 0) rfl)) (List.mem_cons_of_mem _ zw1_70) (zk_dg_ok qdo_5_1 (by decide +kernel)) rfl rfl), List.forall_mem_cons.mpr ⟨zg_nakE (tag := 0) (by decide +kernel) (zg_nak (atype := .int) S (hK.2.2.2.1 (0, _) (List.mem_of_getElem? (i := 0) rfl)) (List.mem_cons_of_mem _ zw1_70) (zk_dg_ok qdo_5_1 (by decide +kernel)) rfl rfl), fun _ h => absurd h List.not_mem_nil⟩⟩⟩⟩,
    fun _ => Nat.le_of_ble_eq_true rfl,
    fun _ h => absurd h List.not_mem_nil,
    List.forall_mem_cons.mpr ⟨zg_callO S (List.mem_cons_of_mem _ zw2_7) (List.mem_cons_of_mem _ zw1_29) (List.mem_cons_of_mem _ zw1_30) ⟨rfl, rfl⟩ (zk_dg_ok qdo_5_1 (by decide +kernel)), fun _ h => absurd h List.not_mem_nil⟩⟩
set_option maxRecDepth 100000 in
theorem zpn_X3 : plainName RX3 = true := by decide +kernel
set_option maxRecDepth 100000 in
theorem qm9 {l : Launch} {D : zk_D} {base : Nat} {Hb : Heap} : zk_Met l qK D base Hb (zg_K D base Hb) yX3_init (Jvm.Cond.code yX3_init prog_5_method_1_code 1 none :: zg_tb) qR9 qC9 := zk_met (ws' := zg_tb) (P := qP9) (AT := zg_AT) zpn_X3 rfl rfl rfl qk9 (fun s hK => zg_wd hK) (fun p e s m args below meth c s₁ Q B hml hK => qo9 B hml hK) (fun p e s m args below meth c s₁ v G0 H0 B hml hK ha hp hF q hq => absurd hq List.not_mem_nil)
set_option maxRecDepth 100000 in
def qR10 : Room := { frames := 1, cells := 2, slots := 10, locals := 20 }
set_option maxHeartbeats 4000000 in
set_option maxRecDepth 100000 in
theorem qo10 {p : Program} {l : Launch} {e : Env} {s : State} {m : MethodId} {args : Array Value} {below : List Frame} {meth : Method} {c : Code} {s₁ : State} {Q : State → Prop} {D : zk_D} {base : Nat} {Hb : Heap} (B : BodyLoose p l yX7_init (headSpec (Jvm.Cond.code yX7_init prog_9_method_1_code 1 none :: zg_tb) qR10) prog_9_method_1_code 1 none e s m args below meth c s₁) (hml : c.maxLocals = 1) (hK : zg_K D base Hb s) : zk_ok p l e (headSpec (Jvm.Cond.code yX7_init prog_9_method_1_code 1 none :: zg_tb) qR10).room s m args below meth c Q qK D base Hb 1 prog_9_method_1_code qP10 qC10.2.2.2.2 := by
  have S : CallFix p m c prog_9_method_1_code 1 s args (Jvm.Cond.code yX7_init prog_9_method_1_code 1 none :: zg_tb) RX7 := ⟨B.exec, B.bytes, hml, findClass_of_methodNamed B.named, atoms_spec (ws := (Jvm.Cond.code yX7_init prog_9_method_1_code 1 none :: zg_tb)) B.pre⟩
  have hin2 : meth.name = "<init>" := (name_of_methodNamed B.named B.method).1
  exact ⟨List.forall_mem_cons.mpr ⟨zg_gpF S (hK.2.1 7 _ rfl) (fun w h => (List.mem_cons_of_mem _ (zc7 w h))) rfl hin2 zt7_0 (List.mem_cons_of_mem _ zw2_32) rfl, List.forall_mem_cons.mpr ⟨zg_gpF S (hK.2.1 7 _ rfl) (fun w h => (List.mem_cons_of_mem _ (zc7 w h))) rfl hin2 zt7_1 (List.mem_cons_of_mem _ zw2_33) rfl, fun _ h => absurd h List.not_mem_nil⟩⟩,
    fun _ h => absurd h List.not_mem_nil,
    fun _ h => absurd h List.not_mem_nil,
    List.forall_mem_cons.mpr ⟨zg_nakE (tag := 0) (by decide +kernel) (zg_nak (atype := .int) S (hK.2.2.2.1 (0, _) (List.mem_of_getElem? (i := 0) rfl)) (List.mem_cons_of_mem _ zw1_70) (zk_dg_ok qdo_9_1 (by decide +kernel)) rfl rfl), List.forall_mem_cons.mpr ⟨zg_nakE (tag := 0) (by decide +kernel) (zg_nak (atype := .int) S (hK.2.2.2.1 (0, _) (List.mem_of_getElem? (i := 0) rfl)) (List.mem_cons_of_mem _ zw1_70) (zk_dg_ok qdo_9_1 (by decide +kernel)) rfl rfl), fun _ h => absurd h List.not_mem_nil⟩⟩,
    fun _ => Nat.le_of_ble_eq_true rfl,
    fun _ h => absurd h List.not_mem_nil,
    List.forall_mem_cons.mpr ⟨zg_callO S (List.mem_cons_of_mem _ zw2_31) (List.mem_cons_of_mem _ zw1_29) (List.mem_cons_of_mem _ zw1_30) ⟨rfl, rfl⟩ (zk_dg_ok qdo_9_1 (by decide +kernel)), fun _ h => absurd h List.not_mem_nil⟩⟩
set_option maxRecDepth 100000 in
theorem zpn_X7 : plainName RX7 = true := by decide +kernel
set_option maxRecDepth 100000 in
theorem qm10 {l : Launch} {D : zk_D} {base : Nat} {Hb : Heap} : zk_Met l qK D base Hb (zg_K D base Hb) yX7_init (Jvm.Cond.code yX7_init prog_9_method_1_code 1 none :: zg_tb) qR10 qC10 := zk_met (ws' := zg_tb) (P := qP10) (AT := zg_AT) zpn_X7 rfl rfl rfl qk10 (fun s hK => zg_wd hK) (fun p e s m args below meth c s₁ Q B hml hK => qo10 B hml hK) (fun p e s m args below meth c s₁ v G0 H0 B hml hK ha hp hF q hq => absurd hq List.not_mem_nil)
set_option maxRecDepth 100000 in
def qR11 : Room := { frames := 4, cells := 42, slots := 2769, locals := 80 }
set_option maxHeartbeats 4000000 in
set_option maxRecDepth 100000 in
theorem qo11 {p : Program} {l : Launch} {e : Env} {s : State} {m : MethodId} {args : Array Value} {below : List Frame} {meth : Method} {c : Code} {s₁ : State} {Q : State → Prop} {D : zk_D} {base : Nat} {Hb : Heap} (B : BodyLoose p l yX11_init (headSpec (Jvm.Cond.code yX11_init prog_1_method_1_code 1 none :: zg_tb) qR11) prog_1_method_1_code 1 none e s m args below meth c s₁) (hml : c.maxLocals = 1) (hK : zg_K D base Hb s) : zk_ok p l e (headSpec (Jvm.Cond.code yX11_init prog_1_method_1_code 1 none :: zg_tb) qR11).room s m args below meth c Q qK D base Hb 1 prog_1_method_1_code qP11 qC11.2.2.2.2 := by
  have S : CallFix p m c prog_1_method_1_code 1 s args (Jvm.Cond.code yX11_init prog_1_method_1_code 1 none :: zg_tb) RX11 := ⟨B.exec, B.bytes, hml, findClass_of_methodNamed B.named, atoms_spec (ws := (Jvm.Cond.code yX11_init prog_1_method_1_code 1 none :: zg_tb)) B.pre⟩
  have hin2 : meth.name = "<init>" := (name_of_methodNamed B.named B.method).1
  exact ⟨List.forall_mem_cons.mpr ⟨zg_gpF S (hK.2.1 11 _ rfl) (fun w h => (List.mem_cons_of_mem _ (zc11 w h))) rfl hin2 zt11_0 (List.mem_cons_of_mem _ zw2_53) rfl, List.forall_mem_cons.mpr ⟨zg_gpF S (hK.2.1 11 _ rfl) (fun w h => (List.mem_cons_of_mem _ (zc11 w h))) rfl hin2 zt11_1 (List.mem_cons_of_mem _ zw2_54) rfl, List.forall_mem_cons.mpr ⟨zg_gpF S (hK.2.1 11 _ rfl) (fun w h => (List.mem_cons_of_mem _ (zc11 w h))) rfl hin2 zt11_2 (List.mem_cons_of_mem _ zw2_55) rfl, List.forall_mem_cons.mpr ⟨zg_gpF S (hK.2.1 11 _ rfl) (fun w h => (List.mem_cons_of_mem _ (zc11 w h))) rfl hin2 zt11_3 (List.mem_cons_of_mem _ zw2_56) rfl, List.forall_mem_cons.mpr ⟨zg_gpF S (hK.2.1 11 _ rfl) (fun w h => (List.mem_cons_of_mem _ (zc11 w h))) rfl hin2 zt11_4 (List.mem_cons_of_mem _ zw2_57) rfl, List.forall_mem_cons.mpr ⟨zg_gpF S (hK.2.1 11 _ rfl) (fun w h => (List.mem_cons_of_mem _ (zc11 w h))) rfl hin2 zt11_5 (List.mem_cons_of_mem _ zw2_58) rfl, List.forall_mem_cons.mpr ⟨zg_gpF S (hK.2.1 11 _ rfl) (fun w h => (List.mem_cons_of_mem _ (zc11 w h))) rfl hin2 zt11_6 (List.mem_cons_of_mem _ zw2_59) rfl, List.forall_mem_cons.mpr ⟨zg_gpF S (hK.2.1 11 _ rfl) (fun w h => (List.mem_cons_of_mem _ (zc11 w h))) rfl hin2 zt11_7 (List.mem_cons_of_mem _ zw2_60) rfl, List.forall_mem_cons.mpr ⟨zg_gpF S (hK.2.1 11 _ rfl) (fun w h => (List.mem_cons_of_mem _ (zc11 w h))) rfl hin2 zt11_8 (List.mem_cons_of_mem _ zw2_61) rfl, List.forall_mem_cons.mpr ⟨zg_gpF S (hK.2.1 11 _ rfl) (fun w h => (List.mem_cons_of_mem _ (zc11 w h))) rfl hin2 zt11_9 (List.mem_cons_of_mem _ zw2_62) rfl, List.forall_mem_cons.mpr ⟨zg_gpF S (hK.2.1 11 _ rfl) (fun w h => (List.mem_cons_of_mem _ (zc11 w h))) rfl hin2 zt11_10 (List.mem_cons_of_mem _ zw2_63) rfl, List.forall_mem_cons.mpr ⟨zg_gpF S (hK.2.1 11 _ rfl) (fun w h => (List.mem_cons_of_mem _ (zc11 w h))) rfl hin2 zt11_11 (List.mem_cons_of_mem _ zw2_64) rfl, List.forall_mem_cons.mpr ⟨zg_gpF S (hK.2.1 11 _ rfl) (fun w h => (List.mem_cons_of_mem _ (zc11 w h))) rfl hin2 zt11_12 (List.mem_cons_of_mem _ zw2_65) rfl, List.forall_mem_cons.mpr ⟨zg_gp S (hK.2.1 11 _ rfl) (fun w h => (List.mem_cons_of_mem _ (zc11 w h))) rfl zt11_13 (List.mem_cons_of_mem _ zw2_66) rfl, fun _ h => absurd h List.not_mem_nil⟩⟩⟩⟩⟩⟩⟩⟩⟩⟩⟩⟩⟩⟩,
    fun _ h => absurd h List.not_mem_nil,
    List.forall_mem_cons.mpr ⟨zg_nokE (by decide +kernel) (zg_nok tyX4 S (hK.2.1 4 _ rfl) (fun w h => (List.mem_cons_of_mem _ (zc4 w h))) tyX4_ok (List.mem_cons_of_mem _ zw1_31) (List.mem_cons_of_mem _ zw1_32) (List.mem_cons_of_mem _ zw1_2) rfl (by decide +kernel)), List.forall_mem_cons.mpr ⟨zg_nokE (by decide +kernel) (zg_nok tyX8 S (hK.2.1 8 _ rfl) (fun w h => (List.mem_cons_of_mem _ (zc8 w h))) tyX8_ok (List.mem_cons_of_mem _ zw1_71) (List.mem_cons_of_mem _ zw1_72) (List.mem_cons_of_mem _ zw1_3) rfl (by decide +kernel)), List.forall_mem_cons.mpr ⟨zg_nokE (by decide +kernel) (zg_nok tyX2 S (hK.2.1 2 _ rfl) (fun w h => (List.mem_cons_of_mem _ (zc2 w h))) tyX2_ok (List.mem_cons_of_mem _ zw1_88) (List.mem_cons_of_mem _ zw1_89) (List.mem_cons_of_mem _ zw1_4) rfl (by decide +kernel)), List.forall_mem_cons.mpr ⟨zg_nokE (by decide +kernel) (zg_nok tyX6 S (hK.2.1 6 _ rfl) (fun w h => (List.mem_cons_of_mem _ (zc6 w h))) tyX6_ok (List.mem_cons_of_mem _ zw1_110) (List.mem_cons_of_mem _ zw1_111) (List.mem_cons_of_mem _ zw1_5) rfl (by decide +kernel)), List.forall_mem_cons.mpr ⟨zg_nokE (by decide +kernel) (zg_nok tyX0 S (hK.2.1 0 _ rfl) (fun w h => (List.mem_cons_of_mem _ (zc0 w h))) tyX0_ok (List.mem_cons_of_mem _ zw1_129) (List.mem_cons_of_mem _ zw1_130) (List.mem_cons_of_mem _ zw1_6) rfl (by decide +kernel)), List.forall_mem_cons.mpr ⟨zg_nokE (by decide +kernel) (zg_nok tyX5 S (hK.2.1 5 _ rfl) (fun w h => (List.mem_cons_of_mem _ (zc5 w h))) tyX5_ok (List.mem_cons_of_mem _ zw1_171) (List.mem_cons_of_mem _ zw1_172) (List.mem_cons_of_mem _ zw1_8) rfl (by decide +kernel)), List.forall_mem_cons.mpr ⟨zg_nokE (by decide +kernel) (zg_nok tyX10 S (hK.2.1 10 _ rfl) (fun w h => (List.mem_cons_of_mem _ (zc10 w h))) tyX10_ok (List.mem_cons_of_mem _ zw1_211) (List.mem_cons_of_mem _ zw1_212) (List.mem_cons_of_mem _ zw1_9) rfl (by decide +kernel)), List.forall_mem_cons.mpr ⟨zg_nokE (by decide +kernel) (zg_nok tyX3 S (hK.2.1 3 _ rfl) (fun w h => (List.mem_cons_of_mem _ (zc3 w h))) tyX3_ok (List.mem_cons_of_mem _ zw2_2) (List.mem_cons_of_mem _ zw2_3) (List.mem_cons_of_mem _ zw1_10) rfl (by decide +kernel)), List.forall_mem_cons.mpr ⟨zg_nokE (by decide +kernel) (zg_nok tyX7 S (hK.2.1 7 _ rfl) (fun w h => (List.mem_cons_of_mem _ (zc7 w h))) tyX7_ok (List.mem_cons_of_mem _ zw2_26) (List.mem_cons_of_mem _ zw2_27) (List.mem_cons_of_mem _ zw1_11) rfl (by decide +kernel)), fun _ h => absurd h List.not_mem_nil⟩⟩⟩⟩⟩⟩⟩⟩⟩,
    List.forall_mem_cons.mpr ⟨zg_nakE (tag := 12) (by decide +kernel) (zg_nakR S (hK.2.2.2.1 (12, _) (List.mem_of_getElem? (i := 7) rfl)) (List.mem_cons_of_mem _ zw2_0) (hK.2.2.2.2.2.1 _ (List.mem_of_getElem? (i := 1) rfl)) (zk_dg_ok qdo_1_1 (by decide +kernel)) rfl), List.forall_mem_cons.mpr ⟨zg_nakE (tag := 0) (by decide +kernel) (zg_nak (atype := .int) S (hK.2.2.2.1 (0, _) (List.mem_of_getElem? (i := 0) rfl)) (List.mem_cons_of_mem _ zw1_70) (zk_dg_ok qdo_1_1 (by decide +kernel)) rfl rfl), List.forall_mem_cons.mpr ⟨zg_nakE (tag := 0) (by decide +kernel) (zg_nak (atype := .int) S (hK.2.2.2.1 (0, _) (List.mem_of_getElem? (i := 0) rfl)) (List.mem_cons_of_mem _ zw1_70) (zk_dg_ok qdo_1_1 (by decide +kernel)) rfl rfl), List.forall_mem_cons.mpr ⟨zg_nakE (tag := 0) (by decide +kernel) (zg_nak (atype := .int) S (hK.2.2.2.1 (0, _) (List.mem_of_getElem? (i := 0) rfl)) (List.mem_cons_of_mem _ zw1_70) (zk_dg_ok qdo_1_1 (by decide +kernel)) rfl rfl), fun _ h => absurd h List.not_mem_nil⟩⟩⟩⟩,
    fun _ => Nat.le_of_ble_eq_true rfl,
    fun _ h => absurd h List.not_mem_nil,
    List.forall_mem_cons.mpr ⟨zg_callO S (List.mem_cons_of_mem _ zw1_28) (List.mem_cons_of_mem _ zw1_29) (List.mem_cons_of_mem _ zw1_30) ⟨rfl, rfl⟩ (zk_dg_ok qdo_1_1 (by decide +kernel)), List.forall_mem_cons.mpr ⟨zg_callIN (fun w h => List.mem_cons_of_mem _ h) zg_tb_all S hK zg_Km qm0 (hK.2.2.2.2.1 _ (List.mem_of_getElem? (i := 0) rfl)) zy_yX4_init_I rfl (ci := 4) (by decide +kernel) ⟨rfl, rfl⟩ (zk_dg_ok qdo_1_1 (by decide +kernel)), List.forall_mem_cons.mpr ⟨zg_callIN (fun w h => List.mem_cons_of_mem _ h) zg_tb_all S hK zg_Km qm1 (hK.2.2.2.2.1 _ (List.mem_of_getElem? (i := 1) rfl)) zy_yX8_init_I rfl (ci := 8) (by decide +kernel) ⟨rfl, rfl⟩ (zk_dg_ok qdo_1_1 (by decide +kernel)), List.forall_mem_cons.mpr ⟨zg_callIN (fun w h => List.mem_cons_of_mem _ h) zg_tb_all S hK zg_Km qm2 (hK.2.2.2.2.1 _ (List.mem_of_getElem? (i := 2) rfl)) zy_yX2_init_I rfl (ci := 2) (by decide +kernel) ⟨rfl, rfl⟩ (zk_dg_ok qdo_1_1 (by decide +kernel)), List.forall_mem_cons.mpr ⟨zg_callIN (fun w h => List.mem_cons_of_mem _ h) zg_tb_all S hK zg_Km qm3 (hK.2.2.2.2.1 _ (List.mem_of_getElem? (i := 3) rfl)) zy_yX6_init_I rfl (ci := 6) (by decide +kernel) ⟨rfl, rfl⟩ (zk_dg_ok qdo_1_1 (by decide +kernel)), List.forall_mem_cons.mpr ⟨zg_callIN (fun w h => List.mem_cons_of_mem _ h) zg_tb_all S hK zg_Km qm6 (hK.2.2.2.2.1 _ (List.mem_of_getElem? (i := 4) rfl)) zy_yX0_init_I rfl (ci := 0) (by decide +kernel) ⟨rfl, rfl⟩ (zk_dg_ok qdo_1_1 (by decide +kernel)), List.forall_mem_cons.mpr ⟨zg_callIN (fun w h => List.mem_cons_of_mem _ h) zg_tb_all S hK zg_Km qm7 (hK.2.2.2.2.1 _ (List.mem_of_getElem? (i := 5) rfl)) zy_yX5_init_I rfl (ci := 5) (by decide +kernel) ⟨rfl, rfl⟩ (zk_dg_ok qdo_1_1 (by decide +kernel)), List.forall_mem_cons.mpr ⟨zg_callIN (fun w h => List.mem_cons_of_mem _ h) zg_tb_all S hK zg_Km qm8 (hK.2.2.2.2.1 _ (List.mem_of_getElem? (i := 6) rfl)) zy_yX10_init_I rfl (ci := 10) (by decide +kernel) ⟨rfl, rfl⟩ (zk_dg_ok qdo_1_1 (by decide +kernel)), List.forall_mem_cons.mpr ⟨zg_callIN (fun w h => List.mem_cons_of_mem _ h) zg_tb_all S hK zg_Km qm9 (hK.2.2.2.2.1 _ (List.mem_of_getElem? (i := 7) rfl)) zy_yX3_init_I rfl (ci := 3) (by decide +kernel) ⟨rfl, rfl⟩ (zk_dg_ok qdo_1_1 (by decide +kernel)), List.forall_mem_cons.mpr ⟨zg_callIN (fun w h => List.mem_cons_of_mem _ h) zg_tb_all S hK zg_Km qm10 (hK.2.2.2.2.1 _ (List.mem_of_getElem? (i := 8) rfl)) zy_yX7_init_I rfl (ci := 7) (by decide +kernel) ⟨rfl, rfl⟩ (zk_dg_ok qdo_1_1 (by decide +kernel)), fun _ h => absurd h List.not_mem_nil⟩⟩⟩⟩⟩⟩⟩⟩⟩⟩⟩
set_option maxRecDepth 100000 in
theorem zpn_X11 : plainName RX11 = true := by decide +kernel
set_option maxRecDepth 100000 in
theorem qm11 {l : Launch} {D : zk_D} {base : Nat} {Hb : Heap} : zk_Met l qK D base Hb (zg_K D base Hb) yX11_init (Jvm.Cond.code yX11_init prog_1_method_1_code 1 none :: zg_tb) qR11 qC11 := zk_met (ws' := zg_tb) (P := qP11) (AT := zg_AT) zpn_X11 rfl rfl rfl qk11 (fun s hK => zg_wd hK) (fun p e s m args below meth c s₁ Q B hml hK => qo11 B hml hK) (fun p e s m args below meth c s₁ v G0 H0 B hml hK ha hp hF q hq => absurd hq List.not_mem_nil)
set_option maxRecDepth 100000 in
def qR12 : Room := { frames := 1, cells := 48, slots := 34314, locals := 20 }
set_option maxHeartbeats 4000000 in
set_option maxRecDepth 100000 in
theorem qo12 {p : Program} {l : Launch} {e : Env} {s : State} {m : MethodId} {args : Array Value} {below : List Frame} {meth : Method} {c : Code} {s₁ : State} {Q : State → Prop} {D : zk_D} {base : Nat} {Hb : Heap} (B : BodyLoose p l yX12_init (headSpec (Jvm.Cond.code yX12_init prog_14_method_2_code 1 none :: zg_tb) qR12) prog_14_method_2_code 1 none e s m args below meth c s₁) (hml : c.maxLocals = 1) (hK : zg_K D base Hb s) : zk_ok p l e (headSpec (Jvm.Cond.code yX12_init prog_14_method_2_code 1 none :: zg_tb) qR12).room s m args below meth c Q qK D base Hb 1 prog_14_method_2_code qP12 qC12.2.2.2.2 := by
  have S : CallFix p m c prog_14_method_2_code 1 s args (Jvm.Cond.code yX12_init prog_14_method_2_code 1 none :: zg_tb) RX12 := ⟨B.exec, B.bytes, hml, findClass_of_methodNamed B.named, atoms_spec (ws := (Jvm.Cond.code yX12_init prog_14_method_2_code 1 none :: zg_tb)) B.pre⟩
  have hin2 : meth.name = "<init>" := (name_of_methodNamed B.named B.method).1
  exact ⟨List.forall_mem_cons.mpr ⟨zg_gpF S (hK.2.1 12 _ rfl) (fun w h => (List.mem_cons_of_mem _ (zc12 w h))) rfl hin2 zt12_1 (List.mem_cons_of_mem _ zw5_160) rfl, List.forall_mem_cons.mpr ⟨zg_gpF S (hK.2.1 12 _ rfl) (fun w h => (List.mem_cons_of_mem _ (zc12 w h))) rfl hin2 zt12_2 (List.mem_cons_of_mem _ zw5_161) rfl, List.forall_mem_cons.mpr ⟨zg_gpF S (hK.2.1 12 _ rfl) (fun w h => (List.mem_cons_of_mem _ (zc12 w h))) rfl hin2 zt12_3 (List.mem_cons_of_mem _ zw5_162) rfl, List.forall_mem_cons.mpr ⟨zg_gpF S (hK.2.1 12 _ rfl) (fun w h => (List.mem_cons_of_mem _ (zc12 w h))) rfl hin2 zt12_4 (List.mem_cons_of_mem _ zw5_163) rfl, List.forall_mem_cons.mpr ⟨zg_gpF S (hK.2.1 12 _ rfl) (fun w h => (List.mem_cons_of_mem _ (zc12 w h))) rfl hin2 zt12_5 (List.mem_cons_of_mem _ zw5_164) rfl, List.forall_mem_cons.mpr ⟨zg_gpF S (hK.2.1 12 _ rfl) (fun w h => (List.mem_cons_of_mem _ (zc12 w h))) rfl hin2 zt12_8 (List.mem_cons_of_mem _ zw5_167) rfl, List.forall_mem_cons.mpr ⟨zg_gpF S (hK.2.1 12 _ rfl) (fun w h => (List.mem_cons_of_mem _ (zc12 w h))) rfl hin2 zt12_13 (List.mem_cons_of_mem _ zw5_172) rfl, List.forall_mem_cons.mpr ⟨zg_gpF S (hK.2.1 12 _ rfl) (fun w h => (List.mem_cons_of_mem _ (zc12 w h))) rfl hin2 zt12_14 (List.mem_cons_of_mem _ zw5_173) rfl, List.forall_mem_cons.mpr ⟨zg_gpF S (hK.2.1 12 _ rfl) (fun w h => (List.mem_cons_of_mem _ (zc12 w h))) rfl hin2 zt12_18 (List.mem_cons_of_mem _ zw5_177) rfl, List.forall_mem_cons.mpr ⟨zg_gpF S (hK.2.1 12 _ rfl) (fun w h => (List.mem_cons_of_mem _ (zc12 w h))) rfl hin2 zt12_19 (List.mem_cons_of_mem _ zw5_178) rfl, List.forall_mem_cons.mpr ⟨zg_gpF S (hK.2.1 12 _ rfl) (fun w h => (List.mem_cons_of_mem _ (zc12 w h))) rfl hin2 zt12_20 (List.mem_cons_of_mem _ zw5_179) rfl, List.forall_mem_cons.mpr ⟨zg_gpF S (hK.2.1 12 _ rfl) (fun w h => (List.mem_cons_of_mem _ (zc12 w h))) rfl hin2 zt12_21 (List.mem_cons_of_mem _ zw5_180) rfl, List.forall_mem_cons.mpr ⟨zg_gpF S (hK.2.1 12 _ rfl) (fun w h => (List.mem_cons_of_mem _ (zc12 w h))) rfl hin2 zt12_22 (List.mem_cons_of_mem _ zw5_181) rfl, List.forall_mem_cons.mpr ⟨zg_gpF S (hK.2.1 12 _ rfl) (fun w h => (List.mem_cons_of_mem _ (zc12 w h))) rfl hin2 zt12_23 (List.mem_cons_of_mem _ zw5_182) rfl, List.forall_mem_cons.mpr ⟨zg_gpF S (hK.2.1 12 _ rfl) (fun w h => (List.mem_cons_of_mem _ (zc12 w h))) rfl hin2 zt12_24 (List.mem_cons_of_mem _ zw5_183) rfl, List.forall_mem_cons.mpr ⟨zg_gpF S (hK.2.1 12 _ rfl) (fun w h => (List.mem_cons_of_mem _ (zc12 w h))) rfl hin2 zt12_27 (List.mem_cons_of_mem _ zw5_186) rfl, List.forall_mem_cons.mpr ⟨zg_gpF S (hK.2.1 12 _ rfl) (fun w h => (List.mem_cons_of_mem _ (zc12 w h))) rfl hin2 zt12_28 (List.mem_cons_of_mem _ zw5_187) rfl, List.forall_mem_cons.mpr ⟨zg_gpF S (hK.2.1 12 _ rfl) (fun w h => (List.mem_cons_of_mem _ (zc12 w h))) rfl hin2 zt12_31 (List.mem_cons_of_mem _ zw5_190) rfl, List.forall_mem_cons.mpr ⟨zg_gpF S (hK.2.1 12 _ rfl) (fun w h => (List.mem_cons_of_mem _ (zc12 w h))) rfl hin2 zt12_32 (List.mem_cons_of_mem _ zw5_191) rfl, List.forall_mem_cons.mpr ⟨zg_gpF S (hK.2.1 12 _ rfl) (fun w h => (List.mem_cons_of_mem _ (zc12 w h))) rfl hin2 zt12_33 (List.mem_cons_of_mem _ zw5_192) rfl, List.forall_mem_cons.mpr ⟨zg_gpF S (hK.2.1 12 _ rfl) (fun w h => (List.mem_cons_of_mem _ (zc12 w h))) rfl hin2 zt12_34 (List.mem_cons_of_mem _ zw5_193) rfl, List.forall_mem_cons.mpr ⟨zg_gpF S (hK.2.1 12 _ rfl) (fun w h => (List.mem_cons_of_mem _ (zc12 w h))) rfl hin2 zt12_35 (List.mem_cons_of_mem _ zw5_194) rfl, List.forall_mem_cons.mpr ⟨zg_gpF S (hK.2.1 12 _ rfl) (fun w h => (List.mem_cons_of_mem _ (zc12 w h))) rfl hin2 zt12_36 (List.mem_cons_of_mem _ zw5_195) rfl, List.forall_mem_cons.mpr ⟨zg_gpF S (hK.2.1 12 _ rfl) (fun w h => (List.mem_cons_of_mem _ (zc12 w h))) rfl hin2 zt12_37 (List.mem_cons_of_mem _ zw5_196) rfl, List.forall_mem_cons.mpr ⟨zg_gpF S (hK.2.1 12 _ rfl) (fun w h => (List.mem_cons_of_mem _ (zc12 w h))) rfl hin2 zt12_38 (List.mem_cons_of_mem _ zw5_197) rfl, List.forall_mem_cons.mpr ⟨zg_gpF S (hK.2.1 12 _ rfl) (fun w h => (List.mem_cons_of_mem _ (zc12 w h))) rfl hin2 zt12_39 (List.mem_cons_of_mem _ zw5_198) rfl, List.forall_mem_cons.mpr ⟨zg_gpF S (hK.2.1 12 _ rfl) (fun w h => (List.mem_cons_of_mem _ (zc12 w h))) rfl hin2 zt12_40 (List.mem_cons_of_mem _ zw5_199) rfl, List.forall_mem_cons.mpr ⟨zg_gpF S (hK.2.1 12 _ rfl) (fun w h => (List.mem_cons_of_mem _ (zc12 w h))) rfl hin2 zt12_41 (List.mem_cons_of_mem _ zw5_200) rfl, List.forall_mem_cons.mpr ⟨zg_gpF S (hK.2.1 12 _ rfl) (fun w h => (List.mem_cons_of_mem _ (zc12 w h))) rfl hin2 zt12_42 (List.mem_cons_of_mem _ zw5_201) rfl, List.forall_mem_cons.mpr ⟨zg_gpF S (hK.2.1 12 _ rfl) (fun w h => (List.mem_cons_of_mem _ (zc12 w h))) rfl hin2 zt12_43 (List.mem_cons_of_mem _ zw5_202) rfl, List.forall_mem_cons.mpr ⟨zg_gpF S (hK.2.1 12 _ rfl) (fun w h => (List.mem_cons_of_mem _ (zc12 w h))) rfl hin2 zt12_45 (List.mem_cons_of_mem _ zw5_204) rfl, List.forall_mem_cons.mpr ⟨zg_gpF S (hK.2.1 12 _ rfl) (fun w h => (List.mem_cons_of_mem _ (zc12 w h))) rfl hin2 zt12_46 (List.mem_cons_of_mem _ zw5_205) rfl, List.forall_mem_cons.mpr ⟨zg_gpF S (hK.2.1 12 _ rfl) (fun w h => (List.mem_cons_of_mem _ (zc12 w h))) rfl hin2 zt12_47 (List.mem_cons_of_mem _ zw5_206) rfl, List.forall_mem_cons.mpr ⟨zg_gpF S (hK.2.1 12 _ rfl) (fun w h => (List.mem_cons_of_mem _ (zc12 w h))) rfl hin2 zt12_48 (List.mem_cons_of_mem _ zw5_207) rfl, List.forall_mem_cons.mpr ⟨zg_gpF S (hK.2.1 12 _ rfl) (fun w h => (List.mem_cons_of_mem _ (zc12 w h))) rfl hin2 zt12_50 (List.mem_cons_of_mem _ zw5_209) rfl, List.forall_mem_cons.mpr ⟨zg_gpF S (hK.2.1 12 _ rfl) (fun w h => (List.mem_cons_of_mem _ (zc12 w h))) rfl hin2 zt12_51 (List.mem_cons_of_mem _ zw5_210) rfl, List.forall_mem_cons.mpr ⟨zg_gpF S (hK.2.1 12 _ rfl) (fun w h => (List.mem_cons_of_mem _ (zc12 w h))) rfl hin2 zt12_53 (List.mem_cons_of_mem _ zw5_212) rfl, List.forall_mem_cons.mpr ⟨zg_gpF S (hK.2.1 12 _ rfl) (fun w h => (List.mem_cons_of_mem _ (zc12 w h))) rfl hin2 zt12_54 (List.mem_cons_of_mem _ zw5_213) rfl, List.forall_mem_cons.mpr ⟨zg_gpF S (hK.2.1 12 _ rfl) (fun w h => (List.mem_cons_of_mem _ (zc12 w h))) rfl hin2 zt12_55 (List.mem_cons_of_mem _ zw5_214) rfl, List.forall_mem_cons.mpr ⟨zg_gpF S (hK.2.1 12 _ rfl) (fun w h => (List.mem_cons_of_mem _ (zc12 w h))) rfl hin2 zt12_56 (List.mem_cons_of_mem _ zw5_215) rfl, List.forall_mem_cons.mpr ⟨zg_gpF S (hK.2.1 12 _ rfl) (fun w h => (List.mem_cons_of_mem _ (zc12 w h))) rfl hin2 zt12_59 (List.mem_cons_of_mem _ zw5_218) rfl, List.forall_mem_cons.mpr ⟨zg_gpF S (hK.2.1 12 _ rfl) (fun w h => (List.mem_cons_of_mem _ (zc12 w h))) rfl hin2 zt12_60 (List.mem_cons_of_mem _ zw5_219) rfl, List.forall_mem_cons.mpr ⟨zg_gpF S (hK.2.1 12 _ rfl) (fun w h => (List.mem_cons_of_mem _ (zc12 w h))) rfl hin2 zt12_61 (List.mem_cons_of_mem _ zw5_220) rfl, List.forall_mem_cons.mpr ⟨zg_gpF S (hK.2.1 12 _ rfl) (fun w h => (List.mem_cons_of_mem _ (zc12 w h))) rfl hin2 zt12_62 (List.mem_cons_of_mem _ zw5_221) rfl, List.forall_mem_cons.mpr ⟨zg_gpF S (hK.2.1 12 _ rfl) (fun w h => (List.mem_cons_of_mem _ (zc12 w h))) rfl hin2 zt12_63 (List.mem_cons_of_mem _ zw5_222) rfl, List.forall_mem_cons.mpr ⟨zg_gpF S (hK.2.1 12 _ rfl) (fun w h => (List.mem_cons_of_mem _ (zc12 w h))) rfl hin2 zt12_64 (List.mem_cons_of_mem _ zw5_223) rfl, List.forall_mem_cons.mpr ⟨zg_gpF S (hK.2.1 12 _ rfl) (fun w h => (List.mem_cons_of_mem _ (zc12 w h))) rfl hin2 zt12_68 (List.mem_cons_of_mem _ zw5_227) rfl, List.forall_mem_cons.mpr ⟨zg_gpF S (hK.2.1 12 _ rfl) (fun w h => (List.mem_cons_of_mem _ (zc12 w h))) rfl hin2 zt12_69 (List.mem_cons_of_mem _ zw5_228) rfl, fun _ h => absurd h List.not_mem_nil⟩⟩⟩⟩⟩⟩⟩⟩⟩⟩⟩⟩⟩⟩⟩⟩⟩⟩⟩⟩⟩⟩⟩⟩⟩⟩⟩⟩⟩⟩⟩⟩⟩⟩⟩⟩⟩⟩⟩⟩⟩⟩⟩⟩⟩⟩⟩⟩,
    fun _ h => absurd h List.not_mem_nil,
    fun _ h => absurd h List.not_mem_nil,
    List.forall_mem_cons.mpr ⟨zg_nakE (tag := 2) (by decide +kernel) (zg_nak (atype := .boolean) S (hK.2.2.2.1 (2, _) (List.mem_of_getElem? (i := 2) rfl)) (List.mem_cons_of_mem _ zw1_69) (zk_dg_ok qdo_14_2 (by decide +kernel)) rfl rfl), List.forall_mem_cons.mpr ⟨zg_nakE (tag := 2) (by decide +kernel) (zg_nak (atype := .boolean) S (hK.2.2.2.1 (2, _) (List.mem_of_getElem? (i := 2) rfl)) (List.mem_cons_of_mem _ zw1_69) (zk_dg_ok qdo_14_2 (by decide +kernel)) rfl rfl), List.forall_mem_cons.mpr ⟨zg_nakE (tag := 0) (by decide +kernel) (zg_nak (atype := .int) S (hK.2.2.2.1 (0, _) (List.mem_of_getElem? (i := 0) rfl)) (List.mem_cons_of_mem _ zw1_70) (zk_dg_ok qdo_14_2 (by decide +kernel)) rfl rfl), List.forall_mem_cons.mpr ⟨zg_nakE (tag := 2) (by decide +kernel) (zg_nak (atype := .boolean) S (hK.2.2.2.1 (2, _) (List.mem_of_getElem? (i := 2) rfl)) (List.mem_cons_of_mem _ zw1_69) (zk_dg_ok qdo_14_2 (by decide +kernel)) rfl rfl), List.forall_mem_cons.mpr ⟨zg_nakE (tag := 0) (by decide +kernel) (zg_nak (atype := .int) S (hK.2.2.2.1 (0, _) (List.mem_of_getElem? (i := 0) rfl)) (List.mem_cons_of_mem _ zw1_70) (zk_dg_ok qdo_14_2 (by decide +kernel)) rfl rfl), List.forall_mem_cons.mpr ⟨zg_nakE (tag := 0) (by decide +kernel) (zg_nak (atype := .int) S (hK.2.2.2.1 (0, _) (List.mem_of_getElem? (i := 0) rfl)) (List.mem_cons_of_mem _ zw1_70) (zk_dg_ok qdo_14_2 (by decide +kernel)) rfl rfl), List.forall_mem_cons.mpr ⟨zg_nakE (tag := 0) (by decide +kernel) (zg_nak (atype := .int) S (hK.2.2.2.1 (0, _) (List.mem_of_getElem? (i := 0) rfl)) (List.mem_cons_of_mem _ zw1_70) (zk_dg_ok qdo_14_2 (by decide +kernel)) rfl rfl), List.forall_mem_cons.mpr ⟨zg_nakE (tag := 0) (by decide +kernel) (zg_nak (atype := .int) S (hK.2.2.2.1 (0, _) (List.mem_of_getElem? (i := 0) rfl)) (List.mem_cons_of_mem _ zw1_70) (zk_dg_ok qdo_14_2 (by decide +kernel)) rfl rfl), List.forall_mem_cons.mpr ⟨zg_nakE (tag := 0) (by decide +kernel) (zg_nak (atype := .int) S (hK.2.2.2.1 (0, _) (List.mem_of_getElem? (i := 0) rfl)) (List.mem_cons_of_mem _ zw1_70) (zk_dg_ok qdo_14_2 (by decide +kernel)) rfl rfl), List.forall_mem_cons.mpr ⟨zg_nakE (tag := 0) (by decide +kernel) (zg_nak (atype := .int) S (hK.2.2.2.1 (0, _) (List.mem_of_getElem? (i := 0) rfl)) (List.mem_cons_of_mem _ zw1_70) (zk_dg_ok qdo_14_2 (by decide +kernel)) rfl rfl), List.forall_mem_cons.mpr ⟨zg_nakE (tag := 0) (by decide +kernel) (zg_nak (atype := .int) S (hK.2.2.2.1 (0, _) (List.mem_of_getElem? (i := 0) rfl)) (List.mem_cons_of_mem _ zw1_70) (zk_dg_ok qdo_14_2 (by decide +kernel)) rfl rfl), List.forall_mem_cons.mpr ⟨zg_nakE (tag := 0) (by decide +kernel) (zg_nak (atype := .int) S (hK.2.2.2.1 (0, _) (List.mem_of_getElem? (i := 0) rfl)) (List.mem_cons_of_mem _ zw1_70) (zk_dg_ok qdo_14_2 (by decide +kernel)) rfl rfl), List.forall_mem_cons.mpr ⟨zg_nakE (tag := 2) (by decide +kernel) (zg_nak (atype := .boolean) S (hK.2.2.2.1 (2, _) (List.mem_of_getElem? (i := 2) rfl)) (List.mem_cons_of_mem _ zw1_69) (zk_dg_ok qdo_14_2 (by decide +kernel)) rfl rfl), List.forall_mem_cons.mpr ⟨zg_nakE (tag := 0) (by decide +kernel) (zg_nak (atype := .int) S (hK.2.2.2.1 (0, _) (List.mem_of_getElem? (i := 0) rfl)) (List.mem_cons_of_mem _ zw1_70) (zk_dg_ok qdo_14_2 (by decide +kernel)) rfl rfl), List.forall_mem_cons.mpr ⟨zg_nakE (tag := 0) (by decide +kernel) (zg_nak (atype := .int) S (hK.2.2.2.1 (0, _) (List.mem_of_getElem? (i := 0) rfl)) (List.mem_cons_of_mem _ zw1_70) (zk_dg_ok qdo_14_2 (by decide +kernel)) rfl rfl), List.forall_mem_cons.mpr ⟨zg_nakE (tag := 0) (by decide +kernel) (zg_nak (atype := .int) S (hK.2.2.2.1 (0, _) (List.mem_of_getElem? (i := 0) rfl)) (List.mem_cons_of_mem _ zw1_70) (zk_dg_ok qdo_14_2 (by decide +kernel)) rfl rfl), List.forall_mem_cons.mpr ⟨zg_nakE (tag := 0) (by decide +kernel) (zg_nak (atype := .int) S (hK.2.2.2.1 (0, _) (List.mem_of_getElem? (i := 0) rfl)) (List.mem_cons_of_mem _ zw1_70) (zk_dg_ok qdo_14_2 (by decide +kernel)) rfl rfl), List.forall_mem_cons.mpr ⟨zg_nakE (tag := 1) (by decide +kernel) (zg_nak (atype := .long) S (hK.2.2.2.1 (1, _) (List.mem_of_getElem? (i := 1) rfl)) (List.mem_cons_of_mem _ zw1_109) (zk_dg_ok qdo_14_2 (by decide +kernel)) rfl rfl), List.forall_mem_cons.mpr ⟨zg_nakE (tag := 1) (by decide +kernel) (zg_nak (atype := .long) S (hK.2.2.2.1 (1, _) (List.mem_of_getElem? (i := 1) rfl)) (List.mem_cons_of_mem _ zw1_109) (zk_dg_ok qdo_14_2 (by decide +kernel)) rfl rfl), List.forall_mem_cons.mpr ⟨zg_nakE (tag := 0) (by decide +kernel) (zg_nak (atype := .int) S (hK.2.2.2.1 (0, _) (List.mem_of_getElem? (i := 0) rfl)) (List.mem_cons_of_mem _ zw1_70) (zk_dg_ok qdo_14_2 (by decide +kernel)) rfl rfl), List.forall_mem_cons.mpr ⟨zg_nakE (tag := 0) (by decide +kernel) (zg_nak (atype := .int) S (hK.2.2.2.1 (0, _) (List.mem_of_getElem? (i := 0) rfl)) (List.mem_cons_of_mem _ zw1_70) (zk_dg_ok qdo_14_2 (by decide +kernel)) rfl rfl), List.forall_mem_cons.mpr ⟨zg_nakE (tag := 0) (by decide +kernel) (zg_nak (atype := .int) S (hK.2.2.2.1 (0, _) (List.mem_of_getElem? (i := 0) rfl)) (List.mem_cons_of_mem _ zw1_70) (zk_dg_ok qdo_14_2 (by decide +kernel)) rfl rfl), List.forall_mem_cons.mpr ⟨zg_nakE (tag := 0) (by decide +kernel) (zg_nak (atype := .int) S (hK.2.2.2.1 (0, _) (List.mem_of_getElem? (i := 0) rfl)) (List.mem_cons_of_mem _ zw1_70) (zk_dg_ok qdo_14_2 (by decide +kernel)) rfl rfl), List.forall_mem_cons.mpr ⟨zg_nakE (tag := 2) (by decide +kernel) (zg_nak (atype := .boolean) S (hK.2.2.2.1 (2, _) (List.mem_of_getElem? (i := 2) rfl)) (List.mem_cons_of_mem _ zw1_69) (zk_dg_ok qdo_14_2 (by decide +kernel)) rfl rfl), List.forall_mem_cons.mpr ⟨zg_nakE (tag := 0) (by decide +kernel) (zg_nak (atype := .int) S (hK.2.2.2.1 (0, _) (List.mem_of_getElem? (i := 0) rfl)) (List.mem_cons_of_mem _ zw1_70) (zk_dg_ok qdo_14_2 (by decide +kernel)) rfl rfl), List.forall_mem_cons.mpr ⟨zg_nakE (tag := 0) (by decide +kernel) (zg_nak (atype := .int) S (hK.2.2.2.1 (0, _) (List.mem_of_getElem? (i := 0) rfl)) (List.mem_cons_of_mem _ zw1_70) (zk_dg_ok qdo_14_2 (by decide +kernel)) rfl rfl), List.forall_mem_cons.mpr ⟨zg_nakE (tag := 0) (by decide +kernel) (zg_nak (atype := .int) S (hK.2.2.2.1 (0, _) (List.mem_of_getElem? (i := 0) rfl)) (List.mem_cons_of_mem _ zw1_70) (zk_dg_ok qdo_14_2 (by decide +kernel)) rfl rfl), List.forall_mem_cons.mpr ⟨zg_nakE (tag := 0) (by decide +kernel) (zg_nak (atype := .int) S (hK.2.2.2.1 (0, _) (List.mem_of_getElem? (i := 0) rfl)) (List.mem_cons_of_mem _ zw1_70) (zk_dg_ok qdo_14_2 (by decide +kernel)) rfl rfl), List.forall_mem_cons.mpr ⟨zg_nakE (tag := 0) (by decide +kernel) (zg_nak (atype := .int) S (hK.2.2.2.1 (0, _) (List.mem_of_getElem? (i := 0) rfl)) (List.mem_cons_of_mem _ zw1_70) (zk_dg_ok qdo_14_2 (by decide +kernel)) rfl rfl), List.forall_mem_cons.mpr ⟨zg_nakE (tag := 0) (by decide +kernel) (zg_nak (atype := .int) S (hK.2.2.2.1 (0, _) (List.mem_of_getElem? (i := 0) rfl)) (List.mem_cons_of_mem _ zw1_70) (zk_dg_ok qdo_14_2 (by decide +kernel)) rfl rfl), List.forall_mem_cons.mpr ⟨zg_nakE (tag := 0) (by decide +kernel) (zg_nak (atype := .int) S (hK.2.2.2.1 (0, _) (List.mem_of_getElem? (i := 0) rfl)) (List.mem_cons_of_mem _ zw1_70) (zk_dg_ok qdo_14_2 (by decide +kernel)) rfl rfl), List.forall_mem_cons.mpr ⟨zg_nakE (tag := 0) (by decide +kernel) (zg_nak (atype := .int) S (hK.2.2.2.1 (0, _) (List.mem_of_getElem? (i := 0) rfl)) (List.mem_cons_of_mem _ zw1_70) (zk_dg_ok qdo_14_2 (by decide +kernel)) rfl rfl), List.forall_mem_cons.mpr ⟨zg_nakE (tag := 0) (by decide +kernel) (zg_nak (atype := .int) S (hK.2.2.2.1 (0, _) (List.mem_of_getElem? (i := 0) rfl)) (List.mem_cons_of_mem _ zw1_70) (zk_dg_ok qdo_14_2 (by decide +kernel)) rfl rfl), List.forall_mem_cons.mpr ⟨zg_nakE (tag := 0) (by decide +kernel) (zg_nak (atype := .int) S (hK.2.2.2.1 (0, _) (List.mem_of_getElem? (i := 0) rfl)) (List.mem_cons_of_mem _ zw1_70) (zk_dg_ok qdo_14_2 (by decide +kernel)) rfl rfl), List.forall_mem_cons.mpr ⟨zg_nakE (tag := 0) (by decide +kernel) (zg_nak (atype := .int) S (hK.2.2.2.1 (0, _) (List.mem_of_getElem? (i := 0) rfl)) (List.mem_cons_of_mem _ zw1_70) (zk_dg_ok qdo_14_2 (by decide +kernel)) rfl rfl), List.forall_mem_cons.mpr ⟨zg_nakE (tag := 0) (by decide +kernel) (zg_nak (atype := .int) S (hK.2.2.2.1 (0, _) (List.mem_of_getElem? (i := 0) rfl)) (List.mem_cons_of_mem _ zw1_70) (zk_dg_ok qdo_14_2 (by decide +kernel)) rfl rfl), List.forall_mem_cons.mpr ⟨zg_nakE (tag := 0) (by decide +kernel) (zg_nak (atype := .int) S (hK.2.2.2.1 (0, _) (List.mem_of_getElem? (i := 0) rfl)) (List.mem_cons_of_mem _ zw1_70) (zk_dg_ok qdo_14_2 (by decide +kernel)) rfl rfl), List.forall_mem_cons.mpr ⟨zg_nakE (tag := 0) (by decide +kernel) (zg_nak (atype := .int) S (hK.2.2.2.1 (0, _) (List.mem_of_getElem? (i := 0) rfl)) (List.mem_cons_of_mem _ zw1_70) (zk_dg_ok qdo_14_2 (by decide +kernel)) rfl rfl), List.forall_mem_cons.mpr ⟨zg_nakE (tag := 0) (by decide +kernel) (zg_nak (atype := .int) S (hK.2.2.2.1 (0, _) (List.mem_of_getElem? (i := 0) rfl)) (List.mem_cons_of_mem _ zw1_70) (zk_dg_ok qdo_14_2 (by decide +kernel)) rfl rfl), List.forall_mem_cons.mpr ⟨zg_nakE (tag := 0) (by decide +kernel) (zg_nak (atype := .int) S (hK.2.2.2.1 (0, _) (List.mem_of_getElem? (i := 0) rfl)) (List.mem_cons_of_mem _ zw1_70) (zk_dg_ok qdo_14_2 (by decide +kernel)) rfl rfl), List.forall_mem_cons.mpr ⟨zg_nakE (tag := 0) (by decide +kernel) (zg_nak (atype := .int) S (hK.2.2.2.1 (0, _) (List.mem_of_getElem? (i := 0) rfl)) (List.mem_cons_of_mem _ zw1_70) (zk_dg_ok qdo_14_2 (by decide +kernel)) rfl rfl), List.forall_mem_cons.mpr ⟨zg_nakE (tag := 0) (by decide +kernel) (zg_nak (atype := .int) S (hK.2.2.2.1 (0, _) (List.mem_of_getElem? (i := 0) rfl)) (List.mem_cons_of_mem _ zw1_70) (zk_dg_ok qdo_14_2 (by decide +kernel)) rfl rfl), List.forall_mem_cons.mpr ⟨zg_nakE (tag := 0) (by decide +kernel) (zg_nak (atype := .int) S (hK.2.2.2.1 (0, _) (List.mem_of_getElem? (i := 0) rfl)) (List.mem_cons_of_mem _ zw1_70) (zk_dg_ok qdo_14_2 (by decide +kernel)) rfl rfl), List.forall_mem_cons.mpr ⟨zg_nakE (tag := 1) (by decide +kernel) (zg_nak (atype := .long) S (hK.2.2.2.1 (1, _) (List.mem_of_getElem? (i := 1) rfl)) (List.mem_cons_of_mem _ zw1_109) (zk_dg_ok qdo_14_2 (by decide +kernel)) rfl rfl), List.forall_mem_cons.mpr ⟨zg_nakE (tag := 1) (by decide +kernel) (zg_nak (atype := .long) S (hK.2.2.2.1 (1, _) (List.mem_of_getElem? (i := 1) rfl)) (List.mem_cons_of_mem _ zw1_109) (zk_dg_ok qdo_14_2 (by decide +kernel)) rfl rfl), List.forall_mem_cons.mpr ⟨zg_nakE (tag := 1) (by decide +kernel) (zg_nak (atype := .long) S (hK.2.2.2.1 (1, _) (List.mem_of_getElem? (i := 1) rfl)) (List.mem_cons_of_mem _ zw1_109) (zk_dg_ok qdo_14_2 (by decide +kernel)) rfl rfl), List.forall_mem_cons.mpr ⟨zg_nakE (tag := 0) (by decide +kernel) (zg_nak (atype := .int) S (hK.2.2.2.1 (0, _) (List.mem_of_getElem? (i := 0) rfl)) (List.mem_cons_of_mem _ zw1_70) (zk_dg_ok qdo_14_2 (by decide +kernel)) rfl rfl), List.forall_mem_cons.mpr ⟨zg_nakE (tag := 0) (by decide +kernel) (zg_nak (atype := .int) S (hK.2.2.2.1 (0, _) (List.mem_of_getElem? (i := 0) rfl)) (List.mem_cons_of_mem _ zw1_70) (zk_dg_ok qdo_14_2 (by decide +kernel)) rfl rfl), fun _ h => absurd h List.not_mem_nil⟩⟩⟩⟩⟩⟩⟩⟩⟩⟩⟩⟩⟩⟩⟩⟩⟩⟩⟩⟩⟩⟩⟩⟩⟩⟩⟩⟩⟩⟩⟩⟩⟩⟩⟩⟩⟩⟩⟩⟩⟩⟩⟩⟩⟩⟩⟩⟩,
    fun _ => Nat.le_of_ble_eq_true rfl,
    fun _ h => absurd h List.not_mem_nil,
    List.forall_mem_cons.mpr ⟨zg_callO S (List.mem_cons_of_mem _ zw5_158) (List.mem_cons_of_mem _ zw1_29) (List.mem_cons_of_mem _ zw1_30) ⟨rfl, rfl⟩ (zk_dg_ok qdo_14_2 (by decide +kernel)), fun _ h => absurd h List.not_mem_nil⟩⟩
set_option maxRecDepth 100000 in
theorem zpn_X12 : plainName RX12 = true := by decide +kernel
set_option maxRecDepth 100000 in
theorem qm12 {l : Launch} {D : zk_D} {base : Nat} {Hb : Heap} : zk_Met l qK D base Hb (zg_K D base Hb) yX12_init (Jvm.Cond.code yX12_init prog_14_method_2_code 1 none :: zg_tb) qR12 qC12 := zk_met (ws' := zg_tb) (P := qP12) (AT := zg_AT) zpn_X12 rfl rfl rfl qk12 (fun s hK => zg_wd hK) (fun p e s m args below meth c s₁ Q B hml hK => qo12 B hml hK) (fun p e s m args below meth c s₁ v G0 H0 B hml hK ha hp hF q hq => absurd hq List.not_mem_nil)
set_option maxRecDepth 100000 in
def qR13 : Room := { frames := 1, cells := 0, slots := 0, locals := 20 }
set_option maxHeartbeats 4000000 in
set_option maxRecDepth 100000 in
theorem qo13 {p : Program} {l : Launch} {e : Env} {s : State} {m : MethodId} {args : Array Value} {below : List Frame} {meth : Method} {c : Code} {s₁ : State} {Q : State → Prop} {D : zk_D} {base : Nat} {Hb : Heap} (B : BodyLoose p l yX4_addHouse (headSpec (Jvm.Cond.code yX4_addHouse prog_6_method_4_code 1 (some .int) :: zg_tb) qR13) prog_6_method_4_code 1 (some .int) e s m args below meth c s₁) (hml : c.maxLocals = 1) (hK : zg_K D base Hb s) : zk_ok p l e (headSpec (Jvm.Cond.code yX4_addHouse prog_6_method_4_code 1 (some .int) :: zg_tb) qR13).room s m args below meth c Q qK D base Hb 1 prog_6_method_4_code qP13 qC13.2.2.2.2 := by
  have S : CallFix p m c prog_6_method_4_code 1 s args (Jvm.Cond.code yX4_addHouse prog_6_method_4_code 1 (some .int) :: zg_tb) RX4 := ⟨B.exec, B.bytes, hml, findClass_of_methodNamed B.named, atoms_spec (ws := (Jvm.Cond.code yX4_addHouse prog_6_method_4_code 1 (some .int) :: zg_tb)) B.pre⟩
  exact ⟨List.forall_mem_cons.mpr ⟨zg_gp S (hK.2.1 4 _ rfl) (fun w h => (List.mem_cons_of_mem _ (zc4 w h))) rfl zt4_6 (List.mem_cons_of_mem _ zw1_48) rfl, List.forall_mem_cons.mpr ⟨zg_gp4 S (hK.2.1 4 _ rfl) (fun w h => (List.mem_cons_of_mem _ (zc4 w h))) rfl zt4_0 (List.mem_cons_of_mem _ zw1_37), fun _ h => absurd h List.not_mem_nil⟩⟩,
    fun _ h => absurd h List.not_mem_nil,
    fun _ h => absurd h List.not_mem_nil,
    fun _ h => absurd h List.not_mem_nil,
    fun h => absurd rfl h,
    fun _ h => absurd h List.not_mem_nil,
    fun _ h => absurd h List.not_mem_nil⟩
set_option maxRecDepth 100000 in
theorem qm13 {l : Launch} {D : zk_D} {base : Nat} {Hb : Heap} : zk_Met l qK D base Hb (zg_K D base Hb) yX4_addHouse (Jvm.Cond.code yX4_addHouse prog_6_method_4_code 1 (some .int) :: zg_tb) qR13 qC13 :=
  zk_met (ws' := zg_tb) (P := qP13) (AT := zg_AT) (by decide +kernel) rfl rfl rfl qk13 (fun s hK => zg_wd hK) (fun p e s m args below meth c s₁ Q B hml hK => qo13 B hml hK) (fun p e s m args below meth c s₁ v G0 H0 B hml hK ha hp0 hF0 q hq G H locs ls vs v' hp he hl hF hL => by
    have hq := List.mem_singleton.mp hq
    subst hq
    exact zr_add_x (x := qX13.2.1) (s1 := 3) (sy := 2) (sr := 4) (gz := 1) B.exec B.bytes (zg_wd hK) (qo13 B hml hK) rfl rfl B.returns B.notSynchronized (fun t h => h) hK.1.2.2 (by decide +kernel) (by decide +kernel) rfl rfl (by decide +kernel) (by decide +kernel) (by decide +kernel) (by decide +kernel) (by decide +kernel) (by decide +kernel) (by decide +kernel) (by decide +kernel) qh13 hp he hl hF hL)
set_option maxRecDepth 100000 in
def qR14 : Room := { frames := 2, cells := 0, slots := 0, locals := 40 }
set_option maxHeartbeats 4000000 in
set_option maxRecDepth 100000 in
theorem qo14 {p : Program} {l : Launch} {e : Env} {s : State} {m : MethodId} {args : Array Value} {below : List Frame} {meth : Method} {c : Code} {s₁ : State} {Q : State → Prop} {D : zk_D} {base : Nat} {Hb : Heap} (B : BodyLoose p l yX11_house (headSpec (Jvm.Cond.code yX11_house prog_1_method_2_code 1 (some .int) :: zg_tb) qR14) prog_1_method_2_code 1 (some .int) e s m args below meth c s₁) (hml : c.maxLocals = 1) (hK : zg_K D base Hb s) : zk_ok p l e (headSpec (Jvm.Cond.code yX11_house prog_1_method_2_code 1 (some .int) :: zg_tb) qR14).room s m args below meth c Q qK D base Hb 1 prog_1_method_2_code qP14 qC14.2.2.2.2 := by
  have S : CallFix p m c prog_1_method_2_code 1 s args (Jvm.Cond.code yX11_house prog_1_method_2_code 1 (some .int) :: zg_tb) RX11 := ⟨B.exec, B.bytes, hml, findClass_of_methodNamed B.named, atoms_spec (ws := (Jvm.Cond.code yX11_house prog_1_method_2_code 1 (some .int) :: zg_tb)) B.pre⟩
  exact ⟨List.forall_mem_cons.mpr ⟨zg_gp4 S (hK.2.1 11 _ rfl) (fun w h => (List.mem_cons_of_mem _ (zc11 w h))) rfl zt11_0 (List.mem_cons_of_mem _ zw2_53), fun _ h => absurd h List.not_mem_nil⟩,
    fun _ h => absurd h List.not_mem_nil,
    fun _ h => absurd h List.not_mem_nil,
    fun _ h => absurd h List.not_mem_nil,
    fun h => absurd rfl h,
    fun _ h => absurd h List.not_mem_nil,
    List.forall_mem_cons.mpr ⟨zg_callV (fun w h => List.mem_cons_of_mem _ h) zg_tb_all S hK zg_Km qm13 zw2_109 zy_yX4_addHouse_V (ci := 4) (by decide +kernel) (hK.2.1 4 _ rfl).2.1 ⟨rfl, rfl⟩ (zk_dg_ok qdo_1_2 (by decide +kernel)), fun _ h => absurd h List.not_mem_nil⟩⟩
set_option maxRecDepth 100000 in
theorem qm14 {l : Launch} {D : zk_D} {base : Nat} {Hb : Heap} : zk_Met l qK D base Hb (zg_K D base Hb) yX11_house (Jvm.Cond.code yX11_house prog_1_method_2_code 1 (some .int) :: zg_tb) qR14 qC14 := zk_met (ws' := zg_tb) (P := qP14) (AT := zg_AT) zpn_X11 rfl rfl rfl qk14 (fun s hK => zg_wd hK) (fun p e s m args below meth c s₁ Q B hml hK => qo14 B hml hK) (fun p e s m args below meth c s₁ v G0 H0 B hml hK ha hp hF q hq => absurd hq List.not_mem_nil)
set_option maxRecDepth 100000 in
def qR15 : Room := { frames := 1, cells := 0, slots := 0, locals := 20 }
set_option maxHeartbeats 4000000 in
set_option maxRecDepth 100000 in
theorem qo15 {p : Program} {l : Launch} {e : Env} {s : State} {m : MethodId} {args : Array Value} {below : List Frame} {meth : Method} {c : Code} {s₁ : State} {Q : State → Prop} {D : zk_D} {base : Nat} {Hb : Heap} (B : BodyLoose p l yX12_house (headSpec (Jvm.Cond.code yX12_house prog_14_method_6_code 1 (some .int) :: zg_tb) qR15) prog_14_method_6_code 1 (some .int) e s m args below meth c s₁) (hml : c.maxLocals = 1) (hK : zg_K D base Hb s) : zk_ok p l e (headSpec (Jvm.Cond.code yX12_house prog_14_method_6_code 1 (some .int) :: zg_tb) qR15).room s m args below meth c Q qK D base Hb 1 prog_14_method_6_code qP15 qC15.2.2.2.2 := by
  have S : CallFix p m c prog_14_method_6_code 1 s args (Jvm.Cond.code yX12_house prog_14_method_6_code 1 (some .int) :: zg_tb) RX12 := ⟨B.exec, B.bytes, hml, findClass_of_methodNamed B.named, atoms_spec (ws := (Jvm.Cond.code yX12_house prog_14_method_6_code 1 (some .int) :: zg_tb)) B.pre⟩
  exact ⟨List.forall_mem_cons.mpr ⟨zg_gp S (hK.2.1 12 _ rfl) (fun w h => (List.mem_cons_of_mem _ (zc12 w h))) rfl zt12_6 (List.mem_cons_of_mem _ zw5_165) rfl, fun _ h => absurd h List.not_mem_nil⟩,
    fun _ h => absurd h List.not_mem_nil,
    fun _ h => absurd h List.not_mem_nil,
    fun _ h => absurd h List.not_mem_nil,
    fun h => absurd rfl h,
    fun _ h => absurd h List.not_mem_nil,
    fun _ h => absurd h List.not_mem_nil⟩
set_option maxRecDepth 100000 in
theorem qm15 {l : Launch} {D : zk_D} {base : Nat} {Hb : Heap} : zk_Met l qK D base Hb (zg_K D base Hb) yX12_house (Jvm.Cond.code yX12_house prog_14_method_6_code 1 (some .int) :: zg_tb) qR15 qC15 := zk_met (ws' := zg_tb) (P := qP15) (AT := zg_AT) zpn_X12 rfl rfl rfl qk15 (fun s hK => zg_wd hK) (fun p e s m args below meth c s₁ Q B hml hK => qo15 B hml hK) (fun p e s m args below meth c s₁ v G0 H0 B hml hK ha hp hF q hq => absurd hq List.not_mem_nil)
set_option maxRecDepth 100000 in
def qR16 : Room := { frames := 1, cells := 0, slots := 0, locals := 20 }
set_option maxHeartbeats 4000000 in
set_option maxRecDepth 100000 in
theorem qo16 {p : Program} {l : Launch} {e : Env} {s : State} {m : MethodId} {args : Array Value} {below : List Frame} {meth : Method} {c : Code} {s₁ : State} {Q : State → Prop} {D : zk_D} {base : Nat} {Hb : Heap} (B : BodyLoose p l yX4_hasHouse (headSpec (Jvm.Cond.code yX4_hasHouse prog_6_method_2_code 2 (some .boolean) :: zg_tb) qR16) prog_6_method_2_code 2 (some .boolean) e s m args below meth c s₁) (hml : c.maxLocals = 2) (hK : zg_K D base Hb s) : zk_ok p l e (headSpec (Jvm.Cond.code yX4_hasHouse prog_6_method_2_code 2 (some .boolean) :: zg_tb) qR16).room s m args below meth c Q qK D base Hb 2 prog_6_method_2_code qP16 qC16.2.2.2.2 := by
  have S : CallFix p m c prog_6_method_2_code 2 s args (Jvm.Cond.code yX4_hasHouse prog_6_method_2_code 2 (some .boolean) :: zg_tb) RX4 := ⟨B.exec, B.bytes, hml, findClass_of_methodNamed B.named, atoms_spec (ws := (Jvm.Cond.code yX4_hasHouse prog_6_method_2_code 2 (some .boolean) :: zg_tb)) B.pre⟩
  exact ⟨List.forall_mem_cons.mpr ⟨zg_gp S (hK.2.1 4 _ rfl) (fun w h => (List.mem_cons_of_mem _ (zc4 w h))) rfl zt4_6 (List.mem_cons_of_mem _ zw1_48) rfl, fun _ h => absurd h List.not_mem_nil⟩,
    fun _ h => absurd h List.not_mem_nil,
    fun _ h => absurd h List.not_mem_nil,
    fun _ h => absurd h List.not_mem_nil,
    fun h => absurd rfl h,
    fun _ h => absurd h List.not_mem_nil,
    fun _ h => absurd h List.not_mem_nil⟩
set_option maxRecDepth 100000 in
theorem qm16 {l : Launch} {D : zk_D} {base : Nat} {Hb : Heap} : zk_Met l qK D base Hb (zg_K D base Hb) yX4_hasHouse (Jvm.Cond.code yX4_hasHouse prog_6_method_2_code 2 (some .boolean) :: zg_tb) qR16 qC16 := zk_met (ws' := zg_tb) (P := qP16) (AT := zg_AT) zpn_X4 rfl rfl rfl qk16 (fun s hK => zg_wd hK) (fun p e s m args below meth c s₁ Q B hml hK => qo16 B hml hK) (fun p e s m args below meth c s₁ v G0 H0 B hml hK ha hp hF q hq => absurd hq List.not_mem_nil)
set_option maxRecDepth 100000 in
def qR17 : Room := { frames := 1, cells := 0, slots := 0, locals := 20 }
set_option maxHeartbeats 4000000 in
set_option maxRecDepth 100000 in
theorem qo17 {p : Program} {l : Launch} {e : Env} {s : State} {m : MethodId} {args : Array Value} {below : List Frame} {meth : Method} {c : Code} {s₁ : State} {Q : State → Prop} {D : zk_D} {base : Nat} {Hb : Heap} (B : BodyLoose p l yX4_joined (headSpec (Jvm.Cond.code yX4_joined prog_6_method_6_code 3 (some .boolean) :: zg_tb) qR17) prog_6_method_6_code 3 (some .boolean) e s m args below meth c s₁) (hml : c.maxLocals = 3) (hK : zg_K D base Hb s) : zk_ok p l e (headSpec (Jvm.Cond.code yX4_joined prog_6_method_6_code 3 (some .boolean) :: zg_tb) qR17).room s m args below meth c Q qK D base Hb 3 prog_6_method_6_code qP17 qC17.2.2.2.2 := by
  have S : CallFix p m c prog_6_method_6_code 3 s args (Jvm.Cond.code yX4_joined prog_6_method_6_code 3 (some .boolean) :: zg_tb) RX4 := ⟨B.exec, B.bytes, hml, findClass_of_methodNamed B.named, atoms_spec (ws := (Jvm.Cond.code yX4_joined prog_6_method_6_code 3 (some .boolean) :: zg_tb)) B.pre⟩
  exact ⟨List.forall_mem_cons.mpr ⟨zg_gp4 S (hK.2.1 4 _ rfl) (fun w h => (List.mem_cons_of_mem _ (zc4 w h))) rfl zt4_1 (List.mem_cons_of_mem _ zw1_39), fun _ h => absurd h List.not_mem_nil⟩,
    fun _ h => absurd h List.not_mem_nil,
    fun _ h => absurd h List.not_mem_nil,
    fun _ h => absurd h List.not_mem_nil,
    fun h => absurd rfl h,
    fun _ h => absurd h List.not_mem_nil,
    fun _ h => absurd h List.not_mem_nil⟩
set_option maxRecDepth 100000 in
theorem qm17 {l : Launch} {D : zk_D} {base : Nat} {Hb : Heap} : zk_Met l qK D base Hb (zg_K D base Hb) yX4_joined (Jvm.Cond.code yX4_joined prog_6_method_6_code 3 (some .boolean) :: zg_tb) qR17 qC17 := zk_met (ws' := zg_tb) (P := qP17) (AT := zg_AT) zpn_X4 rfl rfl rfl qk17 (fun s hK => zg_wd hK) (fun p e s m args below meth c s₁ Q B hml hK => qo17 B hml hK) (fun p e s m args below meth c s₁ v G0 H0 B hml hK ha hp hF q hq => absurd hq List.not_mem_nil)
set_option maxRecDepth 100000 in
def qR18 : Room := { frames := 1, cells := 0, slots := 0, locals := 20 }
set_option maxHeartbeats 4000000 in
set_option maxRecDepth 100000 in
theorem qo18 {p : Program} {l : Launch} {e : Env} {s : State} {m : MethodId} {args : Array Value} {below : List Frame} {meth : Method} {c : Code} {s₁ : State} {Q : State → Prop} {D : zk_D} {base : Nat} {Hb : Heap} (B : BodyLoose p l yX4_join (headSpec (Jvm.Cond.code yX4_join prog_6_method_7_code 3 none :: zg_tb) qR18) prog_6_method_7_code 3 none e s m args below meth c s₁) (hml : c.maxLocals = 3) (hK : zg_K D base Hb s) : zk_ok p l e (headSpec (Jvm.Cond.code yX4_join prog_6_method_7_code 3 none :: zg_tb) qR18).room s m args below meth c Q qK D base Hb 3 prog_6_method_7_code qP18 qC18.2.2.2.2 := by
  have S : CallFix p m c prog_6_method_7_code 3 s args (Jvm.Cond.code yX4_join prog_6_method_7_code 3 none :: zg_tb) RX4 := ⟨B.exec, B.bytes, hml, findClass_of_methodNamed B.named, atoms_spec (ws := (Jvm.Cond.code yX4_join prog_6_method_7_code 3 none :: zg_tb)) B.pre⟩
  exact ⟨List.forall_mem_cons.mpr ⟨zg_gp4 S (hK.2.1 4 _ rfl) (fun w h => (List.mem_cons_of_mem _ (zc4 w h))) rfl zt4_1 (List.mem_cons_of_mem _ zw1_39), fun _ h => absurd h List.not_mem_nil⟩,
    fun _ h => absurd h List.not_mem_nil,
    fun _ h => absurd h List.not_mem_nil,
    fun _ h => absurd h List.not_mem_nil,
    fun h => absurd rfl h,
    fun _ h => absurd h List.not_mem_nil,
    fun _ h => absurd h List.not_mem_nil⟩
set_option maxRecDepth 100000 in
theorem qm18 {l : Launch} {D : zk_D} {base : Nat} {Hb : Heap} : zk_Met l qK D base Hb (zg_K D base Hb) yX4_join (Jvm.Cond.code yX4_join prog_6_method_7_code 3 none :: zg_tb) qR18 qC18 := zk_met (ws' := zg_tb) (P := qP18) (AT := zg_AT) zpn_X4 rfl rfl rfl qk18 (fun s hK => zg_wd hK) (fun p e s m args below meth c s₁ Q B hml hK => qo18 B hml hK) (fun p e s m args below meth c s₁ v G0 H0 B hml hK ha hp hF q hq => absurd hq List.not_mem_nil)
set_option maxRecDepth 100000 in
def qR19 : Room := { frames := 2, cells := 0, slots := 0, locals := 42 }
set_option maxHeartbeats 4000000 in
set_option maxRecDepth 100000 in
theorem qo19 {p : Program} {l : Launch} {e : Env} {s : State} {m : MethodId} {args : Array Value} {below : List Frame} {meth : Method} {c : Code} {s₁ : State} {Q : State → Prop} {D : zk_D} {base : Nat} {Hb : Heap} (B : BodyLoose p l yX11_road (headSpec (Jvm.Cond.code yX11_road prog_1_method_4_code 3 (some .boolean) :: zg_tb) qR19) prog_1_method_4_code 3 (some .boolean) e s m args below meth c s₁) (hml : c.maxLocals = 3) (hK : zg_K D base Hb s) : zk_ok p l e (headSpec (Jvm.Cond.code yX11_road prog_1_method_4_code 3 (some .boolean) :: zg_tb) qR19).room s m args below meth c Q qK D base Hb 3 prog_1_method_4_code qP19 qC19.2.2.2.2 := by
  have S : CallFix p m c prog_1_method_4_code 3 s args (Jvm.Cond.code yX11_road prog_1_method_4_code 3 (some .boolean) :: zg_tb) RX11 := ⟨B.exec, B.bytes, hml, findClass_of_methodNamed B.named, atoms_spec (ws := (Jvm.Cond.code yX11_road prog_1_method_4_code 3 (some .boolean) :: zg_tb)) B.pre⟩
  exact ⟨List.forall_mem_cons.mpr ⟨zg_gp4 S (hK.2.1 11 _ rfl) (fun w h => (List.mem_cons_of_mem _ (zc11 w h))) rfl zt11_0 (List.mem_cons_of_mem _ zw2_53), fun _ h => absurd h List.not_mem_nil⟩,
    fun _ h => absurd h List.not_mem_nil,
    fun _ h => absurd h List.not_mem_nil,
    fun _ h => absurd h List.not_mem_nil,
    fun h => absurd rfl h,
    fun _ h => absurd h List.not_mem_nil,
    List.forall_mem_cons.mpr ⟨zg_callV (fun w h => List.mem_cons_of_mem _ h) zg_tb_all S hK zg_Km qm16 zw2_117 zy_yX4_hasHouse_V (ci := 4) (by decide +kernel) (hK.2.1 4 _ rfl).2.1 ⟨rfl, rfl⟩ (zk_dg_ok qdo_1_4 (by decide +kernel)), List.forall_mem_cons.mpr ⟨zg_callV (fun w h => List.mem_cons_of_mem _ h) zg_tb_all S hK zg_Km qm16 zw2_117 zy_yX4_hasHouse_V (ci := 4) (by decide +kernel) (hK.2.1 4 _ rfl).2.1 ⟨rfl, rfl⟩ (zk_dg_ok qdo_1_4 (by decide +kernel)), List.forall_mem_cons.mpr ⟨zg_callV (fun w h => List.mem_cons_of_mem _ h) zg_tb_all S hK zg_Km qm17 zw2_125 zy_yX4_joined_V (ci := 4) (by decide +kernel) (hK.2.1 4 _ rfl).2.1 ⟨rfl, rfl⟩ (zk_dg_ok qdo_1_4 (by decide +kernel)), List.forall_mem_cons.mpr ⟨zg_callV (fun w h => List.mem_cons_of_mem _ h) zg_tb_all S hK zg_Km qm18 zw2_129 zy_yX4_join_V (ci := 4) (by decide +kernel) (hK.2.1 4 _ rfl).2.1 ⟨rfl, rfl⟩ (zk_dg_ok qdo_1_4 (by decide +kernel)), fun _ h => absurd h List.not_mem_nil⟩⟩⟩⟩⟩
set_option maxRecDepth 100000 in
theorem qm19 {l : Launch} {D : zk_D} {base : Nat} {Hb : Heap} : zk_Met l qK D base Hb (zg_K D base Hb) yX11_road (Jvm.Cond.code yX11_road prog_1_method_4_code 3 (some .boolean) :: zg_tb) qR19 qC19 := zk_met (ws' := zg_tb) (P := qP19) (AT := zg_AT) zpn_X11 rfl rfl rfl qk19 (fun s hK => zg_wd hK) (fun p e s m args below meth c s₁ Q B hml hK => qo19 B hml hK) (fun p e s m args below meth c s₁ v G0 H0 B hml hK ha hp hF q hq => absurd hq List.not_mem_nil)
set_option maxRecDepth 100000 in
def qR20 : Room := { frames := 1, cells := 0, slots := 0, locals := 20 }
set_option maxHeartbeats 4000000 in
set_option maxRecDepth 100000 in
theorem qo20 {p : Program} {l : Launch} {e : Env} {s : State} {m : MethodId} {args : Array Value} {below : List Frame} {meth : Method} {c : Code} {s₁ : State} {Q : State → Prop} {D : zk_D} {base : Nat} {Hb : Heap} (B : BodyLoose p l yX12_in (headSpec (Jvm.Cond.code yX12_in prog_14_method_1_code 3 (some .boolean) :: zg_tb) qR20) prog_14_method_1_code 3 (some .boolean) e s m args below meth c s₁) (hml : c.maxLocals = 3) (hK : zg_K D base Hb s) : zk_ok p l e (headSpec (Jvm.Cond.code yX12_in prog_14_method_1_code 3 (some .boolean) :: zg_tb) qR20).room s m args below meth c Q qK D base Hb 3 prog_14_method_1_code qP20 qC20.2.2.2.2 := by
  have S : CallFix p m c prog_14_method_1_code 3 s args (Jvm.Cond.code yX12_in prog_14_method_1_code 3 (some .boolean) :: zg_tb) RX12 := ⟨B.exec, B.bytes, hml, findClass_of_methodNamed B.named, atoms_spec (ws := (Jvm.Cond.code yX12_in prog_14_method_1_code 3 (some .boolean) :: zg_tb)) B.pre⟩
  exact ⟨fun _ h => absurd h List.not_mem_nil,
    fun _ h => absurd h List.not_mem_nil,
    fun _ h => absurd h List.not_mem_nil,
    fun _ h => absurd h List.not_mem_nil,
    fun h => absurd rfl h,
    fun _ h => absurd h List.not_mem_nil,
    fun _ h => absurd h List.not_mem_nil⟩
set_option maxRecDepth 100000 in
theorem qm20 {l : Launch} {D : zk_D} {base : Nat} {Hb : Heap} : zk_Met l qK D base Hb (zg_K D base Hb) yX12_in (Jvm.Cond.code yX12_in prog_14_method_1_code 3 (some .boolean) :: zg_tb) qR20 qC20 := zk_met (ws' := zg_tb) (P := qP20) (AT := zg_AT) zpn_X12 rfl rfl rfl qk20 (fun s hK => zg_wd hK) (fun p e s m args below meth c s₁ Q B hml hK => qo20 B hml hK) (fun p e s m args below meth c s₁ v G0 H0 B hml hK ha hp hF q hq => absurd hq List.not_mem_nil)
set_option maxRecDepth 100000 in
def qR21 : Room := { frames := 2, cells := 0, slots := 0, locals := 42 }
set_option maxHeartbeats 4000000 in
set_option maxRecDepth 100000 in
theorem qo21 {p : Program} {l : Launch} {e : Env} {s : State} {m : MethodId} {args : Array Value} {below : List Frame} {meth : Method} {c : Code} {s₁ : State} {Q : State → Prop} {D : zk_D} {base : Nat} {Hb : Heap} (B : BodyLoose p l yX12_isHouse (headSpec (Jvm.Cond.code yX12_isHouse prog_14_method_4_code 2 (some .boolean) :: zg_tb) qR21) prog_14_method_4_code 2 (some .boolean) e s m args below meth c s₁) (hml : c.maxLocals = 2) (hK : zg_K D base Hb s) : zk_ok p l e (headSpec (Jvm.Cond.code yX12_isHouse prog_14_method_4_code 2 (some .boolean) :: zg_tb) qR21).room s m args below meth c Q qK D base Hb 2 prog_14_method_4_code qP21 qC21.2.2.2.2 := by
  have S : CallFix p m c prog_14_method_4_code 2 s args (Jvm.Cond.code yX12_isHouse prog_14_method_4_code 2 (some .boolean) :: zg_tb) RX12 := ⟨B.exec, B.bytes, hml, findClass_of_methodNamed B.named, atoms_spec (ws := (Jvm.Cond.code yX12_isHouse prog_14_method_4_code 2 (some .boolean) :: zg_tb)) B.pre⟩
  exact ⟨List.forall_mem_cons.mpr ⟨zg_gp S (hK.2.1 12 _ rfl) (fun w h => (List.mem_cons_of_mem _ (zc12 w h))) rfl zt12_6 (List.mem_cons_of_mem _ zw5_165) rfl, fun _ h => absurd h List.not_mem_nil⟩,
    fun _ h => absurd h List.not_mem_nil,
    fun _ h => absurd h List.not_mem_nil,
    fun _ h => absurd h List.not_mem_nil,
    fun h => absurd rfl h,
    fun _ h => absurd h List.not_mem_nil,
    List.forall_mem_cons.mpr ⟨zg_callS (fun w h => List.mem_cons_of_mem _ h) zg_tb_all S hK zg_Km qm20 zw6_145 zy_yX12_in_S (by decide +kernel) ⟨rfl, rfl⟩ (zk_dg_ok qdo_14_4 (by decide +kernel)), fun _ h => absurd h List.not_mem_nil⟩⟩
set_option maxRecDepth 100000 in
theorem qm21 {l : Launch} {D : zk_D} {base : Nat} {Hb : Heap} : zk_Met l qK D base Hb (zg_K D base Hb) yX12_isHouse (Jvm.Cond.code yX12_isHouse prog_14_method_4_code 2 (some .boolean) :: zg_tb) qR21 qC21 := zk_met (ws' := zg_tb) (P := qP21) (AT := zg_AT) zpn_X12 rfl rfl rfl qk21 (fun s hK => zg_wd hK) (fun p e s m args below meth c s₁ Q B hml hK => qo21 B hml hK) (fun p e s m args below meth c s₁ v G0 H0 B hml hK ha hp hF q hq => absurd hq List.not_mem_nil)
set_option maxRecDepth 100000 in
def qR22 : Room := { frames := 3, cells := 0, slots := 0, locals := 63 }
set_option maxHeartbeats 4000000 in
set_option maxRecDepth 100000 in
theorem qo22 {p : Program} {l : Launch} {e : Env} {s : State} {m : MethodId} {args : Array Value} {below : List Frame} {meth : Method} {c : Code} {s₁ : State} {Q : State → Prop} {D : zk_D} {base : Nat} {Hb : Heap} (B : BodyLoose p l yX12_road (headSpec (Jvm.Cond.code yX12_road prog_14_method_8_code 3 (some .boolean) :: zg_tb) qR22) prog_14_method_8_code 3 (some .boolean) e s m args below meth c s₁) (hml : c.maxLocals = 3) (hK : zg_K D base Hb s) : zk_ok p l e (headSpec (Jvm.Cond.code yX12_road prog_14_method_8_code 3 (some .boolean) :: zg_tb) qR22).room s m args below meth c Q qK D base Hb 3 prog_14_method_8_code qP22 qC22.2.2.2.2 := by
  have S : CallFix p m c prog_14_method_8_code 3 s args (Jvm.Cond.code yX12_road prog_14_method_8_code 3 (some .boolean) :: zg_tb) RX12 := ⟨B.exec, B.bytes, hml, findClass_of_methodNamed B.named, atoms_spec (ws := (Jvm.Cond.code yX12_road prog_14_method_8_code 3 (some .boolean) :: zg_tb)) B.pre⟩
  exact ⟨List.forall_mem_cons.mpr ⟨zg_gp4 S (hK.2.1 12 _ rfl) (fun w h => (List.mem_cons_of_mem _ (zc12 w h))) rfl zt12_2 (List.mem_cons_of_mem _ zw5_161), fun _ h => absurd h List.not_mem_nil⟩,
    fun _ h => absurd h List.not_mem_nil,
    fun _ h => absurd h List.not_mem_nil,
    fun _ h => absurd h List.not_mem_nil,
    fun h => absurd rfl h,
    fun _ h => absurd h List.not_mem_nil,
    List.forall_mem_cons.mpr ⟨zg_callV (fun w h => List.mem_cons_of_mem _ h) zg_tb_all S hK zg_Km qm21 zw6_141 zy_yX12_isHouse_V (ci := 12) (by decide +kernel) (hK.2.1 12 _ rfl).2.1 ⟨rfl, rfl⟩ (zk_dg_ok qdo_14_8 (by decide +kernel)), List.forall_mem_cons.mpr ⟨zg_callV (fun w h => List.mem_cons_of_mem _ h) zg_tb_all S hK zg_Km qm21 zw6_141 zy_yX12_isHouse_V (ci := 12) (by decide +kernel) (hK.2.1 12 _ rfl).2.1 ⟨rfl, rfl⟩ (zk_dg_ok qdo_14_8 (by decide +kernel)), fun _ h => absurd h List.not_mem_nil⟩⟩⟩
set_option maxRecDepth 100000 in
theorem qm22 {l : Launch} {D : zk_D} {base : Nat} {Hb : Heap} : zk_Met l qK D base Hb (zg_K D base Hb) yX12_road (Jvm.Cond.code yX12_road prog_14_method_8_code 3 (some .boolean) :: zg_tb) qR22 qC22 := zk_met (ws' := zg_tb) (P := qP22) (AT := zg_AT) zpn_X12 rfl rfl rfl qk22 (fun s hK => zg_wd hK) (fun p e s m args below meth c s₁ Q B hml hK => qo22 B hml hK) (fun p e s m args below meth c s₁ v G0 H0 B hml hK ha hp hF q hq => absurd hq List.not_mem_nil)
set_option maxRecDepth 100000 in
def qR23 : Room := { frames := 1, cells := 0, slots := 0, locals := 20 }
set_option maxHeartbeats 4000000 in
set_option maxRecDepth 100000 in
theorem qo23 {p : Program} {l : Launch} {e : Env} {s : State} {m : MethodId} {args : Array Value} {below : List Frame} {meth : Method} {c : Code} {s₁ : State} {Q : State → Prop} {D : zk_D} {base : Nat} {Hb : Heap} (B : BodyLoose p l yX4_addName (headSpec (Jvm.Cond.code yX4_addName prog_6_method_5_code 3 (some .int) :: zg_tb) qR23) prog_6_method_5_code 3 (some .int) e s m args below meth c s₁) (hml : c.maxLocals = 3) (hK : zg_K D base Hb s) : zk_ok p l e (headSpec (Jvm.Cond.code yX4_addName prog_6_method_5_code 3 (some .int) :: zg_tb) qR23).room s m args below meth c Q qK D base Hb 3 prog_6_method_5_code qP23 qC23.2.2.2.2 := by
  have S : CallFix p m c prog_6_method_5_code 3 s args (Jvm.Cond.code yX4_addName prog_6_method_5_code 3 (some .int) :: zg_tb) RX4 := ⟨B.exec, B.bytes, hml, findClass_of_methodNamed B.named, atoms_spec (ws := (Jvm.Cond.code yX4_addName prog_6_method_5_code 3 (some .int) :: zg_tb)) B.pre⟩
  exact ⟨List.forall_mem_cons.mpr ⟨zg_gp S (hK.2.1 4 _ rfl) (fun w h => (List.mem_cons_of_mem _ (zc4 w h))) rfl zt4_7 (List.mem_cons_of_mem _ zw1_50) rfl, List.forall_mem_cons.mpr ⟨zg_gp4 S (hK.2.1 4 _ rfl) (fun w h => (List.mem_cons_of_mem _ (zc4 w h))) rfl zt4_2 (List.mem_cons_of_mem _ zw1_40), List.forall_mem_cons.mpr ⟨zg_gp4 S (hK.2.1 4 _ rfl) (fun w h => (List.mem_cons_of_mem _ (zc4 w h))) rfl zt4_3 (List.mem_cons_of_mem _ zw1_42), fun _ h => absurd h List.not_mem_nil⟩⟩⟩,
    fun _ h => absurd h List.not_mem_nil,
    fun _ h => absurd h List.not_mem_nil,
    fun _ h => absurd h List.not_mem_nil,
    fun h => absurd rfl h,
    fun _ h => absurd h List.not_mem_nil,
    fun _ h => absurd h List.not_mem_nil⟩
set_option maxRecDepth 100000 in
theorem qm23 {l : Launch} {D : zk_D} {base : Nat} {Hb : Heap} : zk_Met l qK D base Hb (zg_K D base Hb) yX4_addName (Jvm.Cond.code yX4_addName prog_6_method_5_code 3 (some .int) :: zg_tb) qR23 qC23 := zk_met (ws' := zg_tb) (P := qP23) (AT := zg_AT) zpn_X4 rfl rfl rfl qk23 (fun s hK => zg_wd hK) (fun p e s m args below meth c s₁ Q B hml hK => qo23 B hml hK) (fun p e s m args below meth c s₁ v G0 H0 B hml hK ha hp hF q hq => absurd hq List.not_mem_nil)
set_option maxRecDepth 100000 in
def qR24 : Room := { frames := 2, cells := 0, slots := 0, locals := 42 }
set_option maxHeartbeats 4000000 in
set_option maxRecDepth 100000 in
theorem qo24 {p : Program} {l : Launch} {e : Env} {s : State} {m : MethodId} {args : Array Value} {below : List Frame} {meth : Method} {c : Code} {s₁ : State} {Q : State → Prop} {D : zk_D} {base : Nat} {Hb : Heap} (B : BodyLoose p l yX11_name (headSpec (Jvm.Cond.code yX11_name prog_1_method_5_code 3 (some .int) :: zg_tb) qR24) prog_1_method_5_code 3 (some .int) e s m args below meth c s₁) (hml : c.maxLocals = 3) (hK : zg_K D base Hb s) : zk_ok p l e (headSpec (Jvm.Cond.code yX11_name prog_1_method_5_code 3 (some .int) :: zg_tb) qR24).room s m args below meth c Q qK D base Hb 3 prog_1_method_5_code qP24 qC24.2.2.2.2 := by
  have S : CallFix p m c prog_1_method_5_code 3 s args (Jvm.Cond.code yX11_name prog_1_method_5_code 3 (some .int) :: zg_tb) RX11 := ⟨B.exec, B.bytes, hml, findClass_of_methodNamed B.named, atoms_spec (ws := (Jvm.Cond.code yX11_name prog_1_method_5_code 3 (some .int) :: zg_tb)) B.pre⟩
  exact ⟨List.forall_mem_cons.mpr ⟨zg_gp4 S (hK.2.1 11 _ rfl) (fun w h => (List.mem_cons_of_mem _ (zc11 w h))) rfl zt11_0 (List.mem_cons_of_mem _ zw2_53), fun _ h => absurd h List.not_mem_nil⟩,
    fun _ h => absurd h List.not_mem_nil,
    fun _ h => absurd h List.not_mem_nil,
    fun _ h => absurd h List.not_mem_nil,
    fun h => absurd rfl h,
    fun _ h => absurd h List.not_mem_nil,
    List.forall_mem_cons.mpr ⟨zg_callV (fun w h => List.mem_cons_of_mem _ h) zg_tb_all S hK zg_Km qm16 zw2_117 zy_yX4_hasHouse_V (ci := 4) (by decide +kernel) (hK.2.1 4 _ rfl).2.1 ⟨rfl, rfl⟩ (zk_dg_ok qdo_1_5 (by decide +kernel)), List.forall_mem_cons.mpr ⟨zg_callV (fun w h => List.mem_cons_of_mem _ h) zg_tb_all S hK zg_Km qm23 zw2_137 zy_yX4_addName_V (ci := 4) (by decide +kernel) (hK.2.1 4 _ rfl).2.1 ⟨rfl, rfl⟩ (zk_dg_ok qdo_1_5 (by decide +kernel)), fun _ h => absurd h List.not_mem_nil⟩⟩⟩
set_option maxRecDepth 100000 in
theorem qm24 {l : Launch} {D : zk_D} {base : Nat} {Hb : Heap} : zk_Met l qK D base Hb (zg_K D base Hb) yX11_name (Jvm.Cond.code yX11_name prog_1_method_5_code 3 (some .int) :: zg_tb) qR24 qC24 := zk_met (ws' := zg_tb) (P := qP24) (AT := zg_AT) zpn_X11 rfl rfl rfl qk24 (fun s hK => zg_wd hK) (fun p e s m args below meth c s₁ Q B hml hK => qo24 B hml hK) (fun p e s m args below meth c s₁ v G0 H0 B hml hK ha hp hF q hq => absurd hq List.not_mem_nil)
set_option maxRecDepth 100000 in
def qR25 : Room := { frames := 3, cells := 0, slots := 0, locals := 63 }
set_option maxHeartbeats 4000000 in
set_option maxRecDepth 100000 in
theorem qo25 {p : Program} {l : Launch} {e : Env} {s : State} {m : MethodId} {args : Array Value} {below : List Frame} {meth : Method} {c : Code} {s₁ : State} {Q : State → Prop} {D : zk_D} {base : Nat} {Hb : Heap} (B : BodyLoose p l yX12_name (headSpec (Jvm.Cond.code yX12_name prog_14_method_9_code 3 (some .int) :: zg_tb) qR25) prog_14_method_9_code 3 (some .int) e s m args below meth c s₁) (hml : c.maxLocals = 3) (hK : zg_K D base Hb s) : zk_ok p l e (headSpec (Jvm.Cond.code yX12_name prog_14_method_9_code 3 (some .int) :: zg_tb) qR25).room s m args below meth c Q qK D base Hb 3 prog_14_method_9_code qP25 qC25.2.2.2.2 := by
  have S : CallFix p m c prog_14_method_9_code 3 s args (Jvm.Cond.code yX12_name prog_14_method_9_code 3 (some .int) :: zg_tb) RX12 := ⟨B.exec, B.bytes, hml, findClass_of_methodNamed B.named, atoms_spec (ws := (Jvm.Cond.code yX12_name prog_14_method_9_code 3 (some .int) :: zg_tb)) B.pre⟩
  exact ⟨List.forall_mem_cons.mpr ⟨zg_gp S (hK.2.1 12 _ rfl) (fun w h => (List.mem_cons_of_mem _ (zc12 w h))) rfl zt12_7 (List.mem_cons_of_mem _ zw5_166) rfl, List.forall_mem_cons.mpr ⟨zg_gp4 S (hK.2.1 12 _ rfl) (fun w h => (List.mem_cons_of_mem _ (zc12 w h))) rfl zt12_3 (List.mem_cons_of_mem _ zw5_162), List.forall_mem_cons.mpr ⟨zg_gp4 S (hK.2.1 12 _ rfl) (fun w h => (List.mem_cons_of_mem _ (zc12 w h))) rfl zt12_4 (List.mem_cons_of_mem _ zw5_163), fun _ h => absurd h List.not_mem_nil⟩⟩⟩,
    fun _ h => absurd h List.not_mem_nil,
    fun _ h => absurd h List.not_mem_nil,
    fun _ h => absurd h List.not_mem_nil,
    fun h => absurd rfl h,
    fun _ h => absurd h List.not_mem_nil,
    List.forall_mem_cons.mpr ⟨zg_callV (fun w h => List.mem_cons_of_mem _ h) zg_tb_all S hK zg_Km qm21 zw6_141 zy_yX12_isHouse_V (ci := 12) (by decide +kernel) (hK.2.1 12 _ rfl).2.1 ⟨rfl, rfl⟩ (zk_dg_ok qdo_14_9 (by decide +kernel)), fun _ h => absurd h List.not_mem_nil⟩⟩
set_option maxRecDepth 100000 in
theorem qm25 {l : Launch} {D : zk_D} {base : Nat} {Hb : Heap} : zk_Met l qK D base Hb (zg_K D base Hb) yX12_name (Jvm.Cond.code yX12_name prog_14_method_9_code 3 (some .int) :: zg_tb) qR25 qC25 := zk_met (ws' := zg_tb) (P := qP25) (AT := zg_AT) zpn_X12 rfl rfl rfl qk25 (fun s hK => zg_wd hK) (fun p e s m args below meth c s₁ Q B hml hK => qo25 B hml hK) (fun p e s m args below meth c s₁ v G0 H0 B hml hK ha hp hF q hq => absurd hq List.not_mem_nil)
set_option maxRecDepth 100000 in
def qR26 : Room := { frames := 1, cells := 0, slots := 0, locals := 20 }
set_option maxHeartbeats 4000000 in
set_option maxRecDepth 100000 in
theorem qo26 {p : Program} {l : Launch} {e : Env} {s : State} {m : MethodId} {args : Array Value} {below : List Frame} {meth : Method} {c : Code} {s₁ : State} {Q : State → Prop} {D : zk_D} {base : Nat} {Hb : Heap} (B : BodyLoose p l yX8_bytesIn (headSpec (Jvm.Cond.code yX8_bytesIn prog_10_method_2_code 3 (some .int) :: zg_tb) qR26) prog_10_method_2_code 3 (some .int) e s m args below meth c s₁) (hml : c.maxLocals = 3) (hK : zg_K D base Hb s) : zk_ok p l e (headSpec (Jvm.Cond.code yX8_bytesIn prog_10_method_2_code 3 (some .int) :: zg_tb) qR26).room s m args below meth c Q qK D base Hb 3 prog_10_method_2_code qP26 qC26.2.2.2.2 := by
  have S : CallFix p m c prog_10_method_2_code 3 s args (Jvm.Cond.code yX8_bytesIn prog_10_method_2_code 3 (some .int) :: zg_tb) RX8 := ⟨B.exec, B.bytes, hml, findClass_of_methodNamed B.named, atoms_spec (ws := (Jvm.Cond.code yX8_bytesIn prog_10_method_2_code 3 (some .int) :: zg_tb)) B.pre⟩
  exact ⟨fun _ h => absurd h List.not_mem_nil,
    fun _ h => absurd h List.not_mem_nil,
    fun _ h => absurd h List.not_mem_nil,
    fun _ h => absurd h List.not_mem_nil,
    fun h => absurd rfl h,
    fun _ h => absurd h List.not_mem_nil,
    fun _ h => absurd h List.not_mem_nil⟩
set_option maxRecDepth 100000 in
theorem qm26 {l : Launch} {D : zk_D} {base : Nat} {Hb : Heap} : zk_Met l qK D base Hb (zg_K D base Hb) yX8_bytesIn (Jvm.Cond.code yX8_bytesIn prog_10_method_2_code 3 (some .int) :: zg_tb) qR26 qC26 := zk_met (ws' := zg_tb) (P := qP26) (AT := zg_AT) zpn_X8 rfl rfl rfl qk26 (fun s hK => zg_wd hK) (fun p e s m args below meth c s₁ Q B hml hK => qo26 B hml hK) (fun p e s m args below meth c s₁ v G0 H0 B hml hK ha hp hF q hq => absurd hq List.not_mem_nil)
set_option maxRecDepth 100000 in
def qR27 : Room := { frames := 1, cells := 0, slots := 0, locals := 20 }
set_option maxHeartbeats 4000000 in
set_option maxRecDepth 100000 in
theorem qo27 {p : Program} {l : Launch} {e : Env} {s : State} {m : MethodId} {args : Array Value} {below : List Frame} {meth : Method} {c : Code} {s₁ : State} {Q : State → Prop} {D : zk_D} {base : Nat} {Hb : Heap} (B : BodyLoose p l yX8_put (headSpec (Jvm.Cond.code yX8_put prog_10_method_3_code 4 none :: zg_tb) qR27) prog_10_method_3_code 4 none e s m args below meth c s₁) (hml : c.maxLocals = 4) (hK : zg_K D base Hb s) : zk_ok p l e (headSpec (Jvm.Cond.code yX8_put prog_10_method_3_code 4 none :: zg_tb) qR27).room s m args below meth c Q qK D base Hb 4 prog_10_method_3_code qP27 qC27.2.2.2.2 := by
  have S : CallFix p m c prog_10_method_3_code 4 s args (Jvm.Cond.code yX8_put prog_10_method_3_code 4 none :: zg_tb) RX8 := ⟨B.exec, B.bytes, hml, findClass_of_methodNamed B.named, atoms_spec (ws := (Jvm.Cond.code yX8_put prog_10_method_3_code 4 none :: zg_tb)) B.pre⟩
  exact ⟨List.forall_mem_cons.mpr ⟨zg_gp S (hK.2.1 8 _ rfl) (fun w h => (List.mem_cons_of_mem _ (zc8 w h))) rfl zt8_1 (List.mem_cons_of_mem _ zw1_79) rfl, List.forall_mem_cons.mpr ⟨zg_gp4 S (hK.2.1 8 _ rfl) (fun w h => (List.mem_cons_of_mem _ (zc8 w h))) rfl zt8_0 (List.mem_cons_of_mem _ zw1_77), fun _ h => absurd h List.not_mem_nil⟩⟩,
    fun _ h => absurd h List.not_mem_nil,
    fun _ h => absurd h List.not_mem_nil,
    fun _ h => absurd h List.not_mem_nil,
    fun h => absurd rfl h,
    fun _ h => absurd h List.not_mem_nil,
    fun _ h => absurd h List.not_mem_nil⟩
set_option maxRecDepth 100000 in
theorem qm27 {l : Launch} {D : zk_D} {base : Nat} {Hb : Heap} : zk_Met l qK D base Hb (zg_K D base Hb) yX8_put (Jvm.Cond.code yX8_put prog_10_method_3_code 4 none :: zg_tb) qR27 qC27 := zk_met (ws' := zg_tb) (P := qP27) (AT := zg_AT) zpn_X8 rfl rfl rfl qk27 (fun s hK => zg_wd hK) (fun p e s m args below meth c s₁ Q B hml hK => qo27 B hml hK) (fun p e s m args below meth c s₁ v G0 H0 B hml hK ha hp hF q hq => absurd hq List.not_mem_nil)
set_option maxRecDepth 100000 in
def qR28 : Room := { frames := 2, cells := 0, slots := 0, locals := 43 }
set_option maxHeartbeats 4000000 in
set_option maxRecDepth 100000 in
theorem qo28 {p : Program} {l : Launch} {e : Env} {s : State} {m : MethodId} {args : Array Value} {below : List Frame} {meth : Method} {c : Code} {s₁ : State} {Q : State → Prop} {D : zk_D} {base : Nat} {Hb : Heap} (B : BodyLoose p l yX11_feed (headSpec (Jvm.Cond.code yX11_feed prog_1_method_6_code 7 (some .int) :: zg_tb) qR28) prog_1_method_6_code 7 (some .int) e s m args below meth c s₁) (hml : c.maxLocals = 7) (hK : zg_K D base Hb s) : zk_ok p l e (headSpec (Jvm.Cond.code yX11_feed prog_1_method_6_code 7 (some .int) :: zg_tb) qR28).room s m args below meth c Q qK D base Hb 7 prog_1_method_6_code qP28 qC28.2.2.2.2 := by
  have S : CallFix p m c prog_1_method_6_code 7 s args (Jvm.Cond.code yX11_feed prog_1_method_6_code 7 (some .int) :: zg_tb) RX11 := ⟨B.exec, B.bytes, hml, findClass_of_methodNamed B.named, atoms_spec (ws := (Jvm.Cond.code yX11_feed prog_1_method_6_code 7 (some .int) :: zg_tb)) B.pre⟩
  exact ⟨List.forall_mem_cons.mpr ⟨zg_gp4 S (hK.2.1 11 _ rfl) (fun w h => (List.mem_cons_of_mem _ (zc11 w h))) rfl zt11_1 (List.mem_cons_of_mem _ zw2_54), List.forall_mem_cons.mpr ⟨zg_gp S (hK.2.1 8 _ rfl) (fun w h => (List.mem_cons_of_mem _ (zc8 w h))) rfl zt8_1 (List.mem_cons_of_mem _ zw1_81) rfl, fun _ h => absurd h List.not_mem_nil⟩⟩,
    fun _ h => absurd h List.not_mem_nil,
    fun _ h => absurd h List.not_mem_nil,
    fun _ h => absurd h List.not_mem_nil,
    fun h => absurd rfl h,
    fun _ h => absurd h List.not_mem_nil,
    List.forall_mem_cons.mpr ⟨zg_callS (fun w h => List.mem_cons_of_mem _ h) zg_tb_all S hK zg_Km qm26 zw2_145 zy_yX8_bytesIn_S (by decide +kernel) ⟨rfl, rfl⟩ (zk_dg_ok qdo_1_6 (by decide +kernel)), List.forall_mem_cons.mpr ⟨zg_callS (fun w h => List.mem_cons_of_mem _ h) zg_tb_all S hK zg_Km qm26 zw2_145 zy_yX8_bytesIn_S (by decide +kernel) ⟨rfl, rfl⟩ (zk_dg_ok qdo_1_6 (by decide +kernel)), List.forall_mem_cons.mpr ⟨zg_callS (fun w h => List.mem_cons_of_mem _ h) zg_tb_all S hK zg_Km qm26 zw2_145 zy_yX8_bytesIn_S (by decide +kernel) ⟨rfl, rfl⟩ (zk_dg_ok qdo_1_6 (by decide +kernel)), List.forall_mem_cons.mpr ⟨zg_callS (fun w h => List.mem_cons_of_mem _ h) zg_tb_all S hK zg_Km qm26 zw2_145 zy_yX8_bytesIn_S (by decide +kernel) ⟨rfl, rfl⟩ (zk_dg_ok qdo_1_6 (by decide +kernel)), List.forall_mem_cons.mpr ⟨zg_callS (fun w h => List.mem_cons_of_mem _ h) zg_tb_all S hK zg_Km qm26 zw2_145 zy_yX8_bytesIn_S (by decide +kernel) ⟨rfl, rfl⟩ (zk_dg_ok qdo_1_6 (by decide +kernel)), List.forall_mem_cons.mpr ⟨zg_callV (fun w h => List.mem_cons_of_mem _ h) zg_tb_all S hK zg_Km qm27 zw2_148 zy_yX8_put_V (ci := 8) (by decide +kernel) (hK.2.1 8 _ rfl).2.1 ⟨rfl, rfl⟩ (zk_dg_ok qdo_1_6 (by decide +kernel)), List.forall_mem_cons.mpr ⟨zg_callV (fun w h => List.mem_cons_of_mem _ h) zg_tb_all S hK zg_Km qm27 zw2_148 zy_yX8_put_V (ci := 8) (by decide +kernel) (hK.2.1 8 _ rfl).2.1 ⟨rfl, rfl⟩ (zk_dg_ok qdo_1_6 (by decide +kernel)), List.forall_mem_cons.mpr ⟨zg_callV (fun w h => List.mem_cons_of_mem _ h) zg_tb_all S hK zg_Km qm27 zw2_148 zy_yX8_put_V (ci := 8) (by decide +kernel) (hK.2.1 8 _ rfl).2.1 ⟨rfl, rfl⟩ (zk_dg_ok qdo_1_6 (by decide +kernel)), List.forall_mem_cons.mpr ⟨zg_callV (fun w h => List.mem_cons_of_mem _ h) zg_tb_all S hK zg_Km qm27 zw2_148 zy_yX8_put_V (ci := 8) (by decide +kernel) (hK.2.1 8 _ rfl).2.1 ⟨rfl, rfl⟩ (zk_dg_ok qdo_1_6 (by decide +kernel)), List.forall_mem_cons.mpr ⟨zg_callV (fun w h => List.mem_cons_of_mem _ h) zg_tb_all S hK zg_Km qm27 zw2_148 zy_yX8_put_V (ci := 8) (by decide +kernel) (hK.2.1 8 _ rfl).2.1 ⟨rfl, rfl⟩ (zk_dg_ok qdo_1_6 (by decide +kernel)), fun _ h => absurd h List.not_mem_nil⟩⟩⟩⟩⟩⟩⟩⟩⟩⟩⟩
set_option maxRecDepth 100000 in
theorem qm28 {l : Launch} {D : zk_D} {base : Nat} {Hb : Heap} : zk_Met l qK D base Hb (zg_K D base Hb) yX11_feed (Jvm.Cond.code yX11_feed prog_1_method_6_code 7 (some .int) :: zg_tb) qR28 qC28 := zk_met (ws' := zg_tb) (P := qP28) (AT := zg_AT) zpn_X11 rfl rfl rfl qk28 (fun s hK => zg_wd hK) (fun p e s m args below meth c s₁ Q B hml hK => qo28 B hml hK) (fun p e s m args below meth c s₁ v G0 H0 B hml hK ha hp hF q hq => absurd hq List.not_mem_nil)
set_option maxRecDepth 100000 in
def qR30 : Room := { frames := 1, cells := 0, slots := 0, locals := 20 }
set_option maxHeartbeats 4000000 in
set_option maxRecDepth 100000 in
theorem qo30 {p : Program} {l : Launch} {e : Env} {s : State} {m : MethodId} {args : Array Value} {below : List Frame} {meth : Method} {c : Code} {s₁ : State} {Q : State → Prop} {D : zk_D} {base : Nat} {Hb : Heap} (B : BodyLoose p l yX11_end (headSpec (Jvm.Cond.code yX11_end prog_1_method_7_code 2 (some .boolean) :: zg_tb) qR30) prog_1_method_7_code 2 (some .boolean) e s m args below meth c s₁) (hml : c.maxLocals = 2) (hK : zg_K D base Hb s) : zk_ok p l e (headSpec (Jvm.Cond.code yX11_end prog_1_method_7_code 2 (some .boolean) :: zg_tb) qR30).room s m args below meth c Q qK D base Hb 2 prog_1_method_7_code qP30 qC30.2.2.2.2 := by
  have S : CallFix p m c prog_1_method_7_code 2 s args (Jvm.Cond.code yX11_end prog_1_method_7_code 2 (some .boolean) :: zg_tb) RX11 := ⟨B.exec, B.bytes, hml, findClass_of_methodNamed B.named, atoms_spec (ws := (Jvm.Cond.code yX11_end prog_1_method_7_code 2 (some .boolean) :: zg_tb)) B.pre⟩
  exact ⟨List.forall_mem_cons.mpr ⟨zg_gp4 S (hK.2.1 11 _ rfl) (fun w h => (List.mem_cons_of_mem _ (zc11 w h))) rfl zt11_1 (List.mem_cons_of_mem _ zw2_54), List.forall_mem_cons.mpr ⟨zg_gp S (hK.2.1 8 _ rfl) (fun w h => (List.mem_cons_of_mem _ (zc8 w h))) rfl zt8_1 (List.mem_cons_of_mem _ zw1_81) rfl, fun _ h => absurd h List.not_mem_nil⟩⟩,
    fun _ h => absurd h List.not_mem_nil,
    fun _ h => absurd h List.not_mem_nil,
    fun _ h => absurd h List.not_mem_nil,
    fun h => absurd rfl h,
    fun _ h => absurd h List.not_mem_nil,
    fun _ h => absurd h List.not_mem_nil⟩
set_option maxRecDepth 100000 in
theorem qm30 {l : Launch} {D : zk_D} {base : Nat} {Hb : Heap} : zk_Met l qK D base Hb (zg_K D base Hb) yX11_end (Jvm.Cond.code yX11_end prog_1_method_7_code 2 (some .boolean) :: zg_tb) qR30 qC30 := zk_met (ws' := zg_tb) (P := qP30) (AT := zg_AT) zpn_X11 rfl rfl rfl qk30 (fun s hK => zg_wd hK) (fun p e s m args below meth c s₁ Q B hml hK => qo30 B hml hK) (fun p e s m args below meth c s₁ v G0 H0 B hml hK ha hp hF q hq => absurd hq List.not_mem_nil)
set_option maxRecDepth 100000 in
def qR31 : Room := { frames := 1, cells := 0, slots := 0, locals := 20 }
set_option maxHeartbeats 4000000 in
set_option maxRecDepth 100000 in
theorem qo31 {p : Program} {l : Launch} {e : Env} {s : State} {m : MethodId} {args : Array Value} {below : List Frame} {meth : Method} {c : Code} {s₁ : State} {Q : State → Prop} {D : zk_D} {base : Nat} {Hb : Heap} (B : BodyLoose p l yX12_end (headSpec (Jvm.Cond.code yX12_end prog_14_method_13_code 2 (some .boolean) :: zg_tb) qR31) prog_14_method_13_code 2 (some .boolean) e s m args below meth c s₁) (hml : c.maxLocals = 2) (hK : zg_K D base Hb s) : zk_ok p l e (headSpec (Jvm.Cond.code yX12_end prog_14_method_13_code 2 (some .boolean) :: zg_tb) qR31).room s m args below meth c Q qK D base Hb 2 prog_14_method_13_code qP31 qC31.2.2.2.2 := by
  have S : CallFix p m c prog_14_method_13_code 2 s args (Jvm.Cond.code yX12_end prog_14_method_13_code 2 (some .boolean) :: zg_tb) RX12 := ⟨B.exec, B.bytes, hml, findClass_of_methodNamed B.named, atoms_spec (ws := (Jvm.Cond.code yX12_end prog_14_method_13_code 2 (some .boolean) :: zg_tb)) B.pre⟩
  exact ⟨List.forall_mem_cons.mpr ⟨zg_gp S (hK.2.1 12 _ rfl) (fun w h => (List.mem_cons_of_mem _ (zc12 w h))) rfl zt12_9 (List.mem_cons_of_mem _ zw5_168) rfl, fun _ h => absurd h List.not_mem_nil⟩,
    fun _ h => absurd h List.not_mem_nil,
    fun _ h => absurd h List.not_mem_nil,
    fun _ h => absurd h List.not_mem_nil,
    fun h => absurd rfl h,
    fun _ h => absurd h List.not_mem_nil,
    fun _ h => absurd h List.not_mem_nil⟩
set_option maxRecDepth 100000 in
theorem qm31 {l : Launch} {D : zk_D} {base : Nat} {Hb : Heap} : zk_Met l qK D base Hb (zg_K D base Hb) yX12_end (Jvm.Cond.code yX12_end prog_14_method_13_code 2 (some .boolean) :: zg_tb) qR31 qC31 := zk_met (ws' := zg_tb) (P := qP31) (AT := zg_AT) zpn_X12 rfl rfl rfl qk31 (fun s hK => zg_wd hK) (fun p e s m args below meth c s₁ Q B hml hK => qo31 B hml hK) (fun p e s m args below meth c s₁ v G0 H0 B hml hK ha hp hF q hq => absurd hq List.not_mem_nil)
set_option maxRecDepth 100000 in
def qR32 : Room := { frames := 1, cells := 0, slots := 0, locals := 20 }
set_option maxHeartbeats 4000000 in
set_option maxRecDepth 100000 in
theorem qo32 {p : Program} {l : Launch} {e : Env} {s : State} {m : MethodId} {args : Array Value} {below : List Frame} {meth : Method} {c : Code} {s₁ : State} {Q : State → Prop} {D : zk_D} {base : Nat} {Hb : Heap} (B : BodyLoose p l yX8_at (headSpec (Jvm.Cond.code yX8_at prog_10_method_4_code 2 (some .int) :: zg_tb) qR32) prog_10_method_4_code 2 (some .int) e s m args below meth c s₁) (hml : c.maxLocals = 2) (hK : zg_K D base Hb s) : zk_ok p l e (headSpec (Jvm.Cond.code yX8_at prog_10_method_4_code 2 (some .int) :: zg_tb) qR32).room s m args below meth c Q qK D base Hb 2 prog_10_method_4_code qP32 qC32.2.2.2.2 := by
  have S : CallFix p m c prog_10_method_4_code 2 s args (Jvm.Cond.code yX8_at prog_10_method_4_code 2 (some .int) :: zg_tb) RX8 := ⟨B.exec, B.bytes, hml, findClass_of_methodNamed B.named, atoms_spec (ws := (Jvm.Cond.code yX8_at prog_10_method_4_code 2 (some .int) :: zg_tb)) B.pre⟩
  exact ⟨List.forall_mem_cons.mpr ⟨zg_gp S (hK.2.1 8 _ rfl) (fun w h => (List.mem_cons_of_mem _ (zc8 w h))) rfl zt8_1 (List.mem_cons_of_mem _ zw1_79) rfl, List.forall_mem_cons.mpr ⟨zg_gp4 S (hK.2.1 8 _ rfl) (fun w h => (List.mem_cons_of_mem _ (zc8 w h))) rfl zt8_0 (List.mem_cons_of_mem _ zw1_77), fun _ h => absurd h List.not_mem_nil⟩⟩,
    fun _ h => absurd h List.not_mem_nil,
    fun _ h => absurd h List.not_mem_nil,
    fun _ h => absurd h List.not_mem_nil,
    fun h => absurd rfl h,
    fun _ h => absurd h List.not_mem_nil,
    fun _ h => absurd h List.not_mem_nil⟩
set_option maxRecDepth 100000 in
theorem qm32 {l : Launch} {D : zk_D} {base : Nat} {Hb : Heap} : zk_Met l qK D base Hb (zg_K D base Hb) yX8_at (Jvm.Cond.code yX8_at prog_10_method_4_code 2 (some .int) :: zg_tb) qR32 qC32 := zk_met (ws' := zg_tb) (P := qP32) (AT := zg_AT) zpn_X8 rfl rfl rfl qk32 (fun s hK => zg_wd hK) (fun p e s m args below meth c s₁ Q B hml hK => qo32 B hml hK) (fun p e s m args below meth c s₁ v G0 H0 B hml hK ha hp hF q hq => absurd hq List.not_mem_nil)
set_option maxRecDepth 100000 in
def qR33 : Room := { frames := 1, cells := 0, slots := 0, locals := 20 }
set_option maxHeartbeats 4000000 in
set_option maxRecDepth 100000 in
theorem qo33 {p : Program} {l : Launch} {e : Env} {s : State} {m : MethodId} {args : Array Value} {below : List Frame} {meth : Method} {c : Code} {s₁ : State} {Q : State → Prop} {D : zk_D} {base : Nat} {Hb : Heap} (B : BodyLoose p l yX2_hexOf (headSpec (Jvm.Cond.code yX2_hexOf prog_4_method_3_code 1 (some .int) :: zg_tb) qR33) prog_4_method_3_code 1 (some .int) e s m args below meth c s₁) (hml : c.maxLocals = 1) (hK : zg_K D base Hb s) : zk_ok p l e (headSpec (Jvm.Cond.code yX2_hexOf prog_4_method_3_code 1 (some .int) :: zg_tb) qR33).room s m args below meth c Q qK D base Hb 1 prog_4_method_3_code qP33 qC33.2.2.2.2 := by
  have S : CallFix p m c prog_4_method_3_code 1 s args (Jvm.Cond.code yX2_hexOf prog_4_method_3_code 1 (some .int) :: zg_tb) RX2 := ⟨B.exec, B.bytes, hml, findClass_of_methodNamed B.named, atoms_spec (ws := (Jvm.Cond.code yX2_hexOf prog_4_method_3_code 1 (some .int) :: zg_tb)) B.pre⟩
  exact ⟨fun _ h => absurd h List.not_mem_nil,
    fun _ h => absurd h List.not_mem_nil,
    fun _ h => absurd h List.not_mem_nil,
    fun _ h => absurd h List.not_mem_nil,
    fun h => absurd rfl h,
    fun _ h => absurd h List.not_mem_nil,
    fun _ h => absurd h List.not_mem_nil⟩
set_option maxRecDepth 100000 in
theorem qm33 {l : Launch} {D : zk_D} {base : Nat} {Hb : Heap} : zk_Met l qK D base Hb (zg_K D base Hb) yX2_hexOf (Jvm.Cond.code yX2_hexOf prog_4_method_3_code 1 (some .int) :: zg_tb) qR33 qC33 := zk_met (ws' := zg_tb) (P := qP33) (AT := zg_AT) zpn_X2 rfl rfl rfl qk33 (fun s hK => zg_wd hK) (fun p e s m args below meth c s₁ Q B hml hK => qo33 B hml hK) (fun p e s m args below meth c s₁ v G0 H0 B hml hK ha hp hF q hq => absurd hq List.not_mem_nil)
set_option maxRecDepth 100000 in
def qR34 : Room := { frames := 1, cells := 0, slots := 0, locals := 20 }
set_option maxHeartbeats 4000000 in
set_option maxRecDepth 100000 in
theorem qo34 {p : Program} {l : Launch} {e : Env} {s : State} {m : MethodId} {args : Array Value} {below : List Frame} {meth : Method} {c : Code} {s₁ : State} {Q : State → Prop} {D : zk_D} {base : Nat} {Hb : Heap} (B : BodyLoose p l yX9_isByte (headSpec (Jvm.Cond.code yX9_isByte prog_11_method_3_code 1 (some .boolean) :: zg_tb) qR34) prog_11_method_3_code 1 (some .boolean) e s m args below meth c s₁) (hml : c.maxLocals = 1) (hK : zg_K D base Hb s) : zk_ok p l e (headSpec (Jvm.Cond.code yX9_isByte prog_11_method_3_code 1 (some .boolean) :: zg_tb) qR34).room s m args below meth c Q qK D base Hb 1 prog_11_method_3_code qP34 qC34.2.2.2.2 := by
  have S : CallFix p m c prog_11_method_3_code 1 s args (Jvm.Cond.code yX9_isByte prog_11_method_3_code 1 (some .boolean) :: zg_tb) RX9 := ⟨B.exec, B.bytes, hml, findClass_of_methodNamed B.named, atoms_spec (ws := (Jvm.Cond.code yX9_isByte prog_11_method_3_code 1 (some .boolean) :: zg_tb)) B.pre⟩
  exact ⟨fun _ h => absurd h List.not_mem_nil,
    fun _ h => absurd h List.not_mem_nil,
    fun _ h => absurd h List.not_mem_nil,
    fun _ h => absurd h List.not_mem_nil,
    fun h => absurd rfl h,
    fun _ h => absurd h List.not_mem_nil,
    fun _ h => absurd h List.not_mem_nil⟩
set_option maxRecDepth 100000 in
theorem zpn_X9 : plainName RX9 = true := by decide +kernel
set_option maxRecDepth 100000 in
theorem qm34 {l : Launch} {D : zk_D} {base : Nat} {Hb : Heap} : zk_Met l qK D base Hb (zg_K D base Hb) yX9_isByte (Jvm.Cond.code yX9_isByte prog_11_method_3_code 1 (some .boolean) :: zg_tb) qR34 qC34 := zk_met (ws' := zg_tb) (P := qP34) (AT := zg_AT) zpn_X9 rfl rfl rfl qk34 (fun s hK => zg_wd hK) (fun p e s m args below meth c s₁ Q B hml hK => qo34 B hml hK) (fun p e s m args below meth c s₁ v G0 H0 B hml hK ha hp hF q hq => absurd hq List.not_mem_nil)
set_option maxRecDepth 100000 in
def qR35 : Room := { frames := 2, cells := 0, slots := 0, locals := 41 }
set_option maxHeartbeats 4000000 in
set_option maxRecDepth 100000 in
theorem qo35 {p : Program} {l : Launch} {e : Env} {s : State} {m : MethodId} {args : Array Value} {below : List Frame} {meth : Method} {c : Code} {s₁ : State} {Q : State → Prop} {D : zk_D} {base : Nat} {Hb : Heap} (B : BodyLoose p l yX2_faultOf (headSpec (Jvm.Cond.code yX2_faultOf prog_4_method_2_code 9 (some .int) :: zg_tb) qR35) prog_4_method_2_code 9 (some .int) e s m args below meth c s₁) (hml : c.maxLocals = 9) (hK : zg_K D base Hb s) : zk_ok p l e (headSpec (Jvm.Cond.code yX2_faultOf prog_4_method_2_code 9 (some .int) :: zg_tb) qR35).room s m args below meth c Q qK D base Hb 9 prog_4_method_2_code qP35 qC35.2.2.2.2 := by
  have S : CallFix p m c prog_4_method_2_code 9 s args (Jvm.Cond.code yX2_faultOf prog_4_method_2_code 9 (some .int) :: zg_tb) RX2 := ⟨B.exec, B.bytes, hml, findClass_of_methodNamed B.named, atoms_spec (ws := (Jvm.Cond.code yX2_faultOf prog_4_method_2_code 9 (some .int) :: zg_tb)) B.pre⟩
  exact ⟨List.forall_mem_cons.mpr ⟨zg_gp S (hK.2.1 8 _ rfl) (fun w h => (List.mem_cons_of_mem _ (zc8 w h))) rfl zt8_1 (List.mem_cons_of_mem _ zw1_78) rfl, fun _ h => absurd h List.not_mem_nil⟩,
    fun _ h => absurd h List.not_mem_nil,
    fun _ h => absurd h List.not_mem_nil,
    fun _ h => absurd h List.not_mem_nil,
    fun h => absurd rfl h,
    fun _ h => absurd h List.not_mem_nil,
    List.forall_mem_cons.mpr ⟨zg_callV (fun w h => List.mem_cons_of_mem _ h) zg_tb_all S hK zg_Km qm32 zw2_164 zy_yX8_at_V (ci := 8) (by decide +kernel) (hK.2.1 8 _ rfl).2.1 ⟨rfl, rfl⟩ (zk_dg_ok qdo_4_2 (by decide +kernel)), List.forall_mem_cons.mpr ⟨zg_callS (fun w h => List.mem_cons_of_mem _ h) zg_tb_all S hK zg_Km qm33 zw2_168 zy_yX2_hexOf_S (by decide +kernel) ⟨rfl, rfl⟩ (zk_dg_ok qdo_4_2 (by decide +kernel)), List.forall_mem_cons.mpr ⟨zg_callV (fun w h => List.mem_cons_of_mem _ h) zg_tb_all S hK zg_Km qm32 zw2_164 zy_yX8_at_V (ci := 8) (by decide +kernel) (hK.2.1 8 _ rfl).2.1 ⟨rfl, rfl⟩ (zk_dg_ok qdo_4_2 (by decide +kernel)), List.forall_mem_cons.mpr ⟨zg_callS (fun w h => List.mem_cons_of_mem _ h) zg_tb_all S hK zg_Km qm34 zw2_171 zy_yX9_isByte_S (by decide +kernel) ⟨rfl, rfl⟩ (zk_dg_ok qdo_4_2 (by decide +kernel)), fun _ h => absurd h List.not_mem_nil⟩⟩⟩⟩⟩
set_option maxRecDepth 100000 in
theorem qm35 {l : Launch} {D : zk_D} {base : Nat} {Hb : Heap} : zk_Met l qK D base Hb (zg_K D base Hb) yX2_faultOf (Jvm.Cond.code yX2_faultOf prog_4_method_2_code 9 (some .int) :: zg_tb) qR35 qC35 := zk_met (ws' := zg_tb) (P := qP35) (AT := zg_AT) zpn_X2 rfl rfl rfl qk35 (fun s hK => zg_wd hK) (fun p e s m args below meth c s₁ Q B hml hK => qo35 B hml hK) (fun p e s m args below meth c s₁ v G0 H0 B hml hK ha hp hF q hq => absurd hq List.not_mem_nil)
set_option maxRecDepth 100000 in
def qR36 : Room := { frames := 2, cells := 0, slots := 0, locals := 41 }
set_option maxHeartbeats 4000000 in
set_option maxRecDepth 100000 in
theorem qo36 {p : Program} {l : Launch} {e : Env} {s : State} {m : MethodId} {args : Array Value} {below : List Frame} {meth : Method} {c : Code} {s₁ : State} {Q : State → Prop} {D : zk_D} {base : Nat} {Hb : Heap} (B : BodyLoose p l yX6_ahead (headSpec (Jvm.Cond.code yX6_ahead prog_8_method_4_code 1 (some .int) :: zg_tb) qR36) prog_8_method_4_code 1 (some .int) e s m args below meth c s₁) (hml : c.maxLocals = 1) (hK : zg_K D base Hb s) : zk_ok p l e (headSpec (Jvm.Cond.code yX6_ahead prog_8_method_4_code 1 (some .int) :: zg_tb) qR36).room s m args below meth c Q qK D base Hb 1 prog_8_method_4_code qP36 qC36.2.2.2.2 := by
  have S : CallFix p m c prog_8_method_4_code 1 s args (Jvm.Cond.code yX6_ahead prog_8_method_4_code 1 (some .int) :: zg_tb) RX6 := ⟨B.exec, B.bytes, hml, findClass_of_methodNamed B.named, atoms_spec (ws := (Jvm.Cond.code yX6_ahead prog_8_method_4_code 1 (some .int) :: zg_tb)) B.pre⟩
  exact ⟨List.forall_mem_cons.mpr ⟨zg_gp S (hK.2.1 6 _ rfl) (fun w h => (List.mem_cons_of_mem _ (zc6 w h))) rfl zt6_3 (List.mem_cons_of_mem _ zw1_119) rfl, List.forall_mem_cons.mpr ⟨zg_gp S (hK.2.1 6 _ rfl) (fun w h => (List.mem_cons_of_mem _ (zc6 w h))) rfl zt6_1 (List.mem_cons_of_mem _ zw1_117) rfl, List.forall_mem_cons.mpr ⟨zg_gp S (hK.2.1 8 _ rfl) (fun w h => (List.mem_cons_of_mem _ (zc8 w h))) rfl zt8_1 (List.mem_cons_of_mem _ zw1_80) rfl, fun _ h => absurd h List.not_mem_nil⟩⟩⟩,
    fun _ h => absurd h List.not_mem_nil,
    fun _ h => absurd h List.not_mem_nil,
    fun _ h => absurd h List.not_mem_nil,
    fun h => absurd rfl h,
    fun _ h => absurd h List.not_mem_nil,
    List.forall_mem_cons.mpr ⟨zg_callV (fun w h => List.mem_cons_of_mem _ h) zg_tb_all S hK zg_Km qm32 zw2_178 zy_yX8_at_V (ci := 8) (by decide +kernel) (hK.2.1 8 _ rfl).2.1 ⟨rfl, rfl⟩ (zk_dg_ok qdo_8_4 (by decide +kernel)), List.forall_mem_cons.mpr ⟨zg_callV (fun w h => List.mem_cons_of_mem _ h) zg_tb_all S hK zg_Km qm32 zw2_178 zy_yX8_at_V (ci := 8) (by decide +kernel) (hK.2.1 8 _ rfl).2.1 ⟨rfl, rfl⟩ (zk_dg_ok qdo_8_4 (by decide +kernel)), fun _ h => absurd h List.not_mem_nil⟩⟩⟩
set_option maxRecDepth 100000 in
theorem qm36 {l : Launch} {D : zk_D} {base : Nat} {Hb : Heap} : zk_Met l qK D base Hb (zg_K D base Hb) yX6_ahead (Jvm.Cond.code yX6_ahead prog_8_method_4_code 1 (some .int) :: zg_tb) qR36 qC36 := zk_met (ws' := zg_tb) (P := qP36) (AT := zg_AT) zpn_X6 rfl rfl rfl qk36 (fun s hK => zg_wd hK) (fun p e s m args below meth c s₁ Q B hml hK => qo36 B hml hK) (fun p e s m args below meth c s₁ v G0 H0 B hml hK ha hp hF q hq => absurd hq List.not_mem_nil)
set_option maxRecDepth 100000 in
def qR37 : Room := { frames := 1, cells := 0, slots := 0, locals := 20 }
set_option maxHeartbeats 4000000 in
set_option maxRecDepth 100000 in
theorem qo37 {p : Program} {l : Launch} {e : Env} {s : State} {m : MethodId} {args : Array Value} {below : List Frame} {meth : Method} {c : Code} {s₁ : State} {Q : State → Prop} {D : zk_D} {base : Nat} {Hb : Heap} (B : BodyLoose p l yJ0_isLatin1_aae02 (headSpec (Jvm.Cond.code yJ0_isLatin1_aae02 prog_19_method_154_code 1 (some .boolean) :: zg_tb) qR37) prog_19_method_154_code 1 (some .boolean) e s m args below meth c s₁) (hml : c.maxLocals = 1) (hK : zg_K D base Hb s) : zk_ok p l e (headSpec (Jvm.Cond.code yJ0_isLatin1_aae02 prog_19_method_154_code 1 (some .boolean) :: zg_tb) qR37).room s m args below meth c Q qK D base Hb 1 prog_19_method_154_code qP37 qC37.2.2.2.2 := by
  have S : CallFix p m c prog_19_method_154_code 1 s args (Jvm.Cond.code yJ0_isLatin1_aae02 prog_19_method_154_code 1 (some .boolean) :: zg_tb) RJ0 := ⟨B.exec, B.bytes, hml, findClass_of_methodNamed B.named, atoms_spec (ws := (Jvm.Cond.code yJ0_isLatin1_aae02 prog_19_method_154_code 1 (some .boolean) :: zg_tb)) B.pre⟩
  exact ⟨List.forall_mem_cons.mpr ⟨⟨zg_gokS S (hK.2.2.2.2.2.2.2.2.1 _ (List.mem_of_getElem? (i := 1) rfl)) (List.mem_cons_of_mem _ zw8_58), zg_pok4⟩, fun _ h => absurd h List.not_mem_nil⟩,
    fun _ h => absurd h List.not_mem_nil,
    fun _ h => absurd h List.not_mem_nil,
    fun _ h => absurd h List.not_mem_nil,
    fun h => absurd rfl h,
    List.forall_mem_cons.mpr ⟨zg_kokG S (hK.2.2.2.2.2.2.2.2.2.2.1 _ (List.mem_of_getElem? (i := 0) rfl)) (List.mem_cons_of_mem _ zw1_144) (by decide +kernel) (zk_dg_ok qdo_19_154 (by decide +kernel)), fun _ h => absurd h List.not_mem_nil⟩,
    fun _ h => absurd h List.not_mem_nil⟩
set_option maxRecDepth 100000 in
theorem qm37 {l : Launch} {D : zk_D} {base : Nat} {Hb : Heap} : zk_Met l qK D base Hb (zg_K D base Hb) yJ0_isLatin1_aae02 (Jvm.Cond.code yJ0_isLatin1_aae02 prog_19_method_154_code 1 (some .boolean) :: zg_tb) qR37 qC37 := zk_met (ws' := zg_tb) (P := qP37) (AT := zg_AT) zpn_J0 rfl rfl rfl qk37 (fun s hK => zg_wd hK) (fun p e s m args below meth c s₁ Q B hml hK => qo37 B hml hK) (fun p e s m args below meth c s₁ v G0 H0 B hml hK ha hp hF q hq => absurd hq List.not_mem_nil)
set_option maxRecDepth 100000 in
def qR38 : Room := { frames := 1, cells := 0, slots := 0, locals := 20 }
set_option maxHeartbeats 4000000 in
set_option maxRecDepth 100000 in
theorem qo38 {p : Program} {l : Launch} {e : Env} {s : State} {m : MethodId} {args : Array Value} {below : List Frame} {meth : Method} {c : Code} {s₁ : State} {Q : State → Prop} {D : zk_D} {base : Nat} {Hb : Heap} (B : BodyLoose p l yJ0_coder_7d493 (headSpec (Jvm.Cond.code yJ0_coder_7d493 prog_19_method_152_code 1 (some .byte) :: zg_tb) qR38) prog_19_method_152_code 1 (some .byte) e s m args below meth c s₁) (hml : c.maxLocals = 1) (hK : zg_K D base Hb s) : zk_ok p l e (headSpec (Jvm.Cond.code yJ0_coder_7d493 prog_19_method_152_code 1 (some .byte) :: zg_tb) qR38).room s m args below meth c Q qK D base Hb 1 prog_19_method_152_code qP38 qC38.2.2.2.2 := by
  have S : CallFix p m c prog_19_method_152_code 1 s args (Jvm.Cond.code yJ0_coder_7d493 prog_19_method_152_code 1 (some .byte) :: zg_tb) RJ0 := ⟨B.exec, B.bytes, hml, findClass_of_methodNamed B.named, atoms_spec (ws := (Jvm.Cond.code yJ0_coder_7d493 prog_19_method_152_code 1 (some .byte) :: zg_tb)) B.pre⟩
  exact ⟨List.forall_mem_cons.mpr ⟨⟨zg_gokS S (hK.2.2.2.2.2.2.2.2.1 _ (List.mem_of_getElem? (i := 1) rfl)) (List.mem_cons_of_mem _ zw8_58), zg_pok4⟩, fun _ h => absurd h List.not_mem_nil⟩,
    fun _ h => absurd h List.not_mem_nil,
    fun _ h => absurd h List.not_mem_nil,
    fun _ h => absurd h List.not_mem_nil,
    fun h => absurd rfl h,
    List.forall_mem_cons.mpr ⟨zg_kokG S (hK.2.2.2.2.2.2.2.2.2.2.1 _ (List.mem_of_getElem? (i := 0) rfl)) (List.mem_cons_of_mem _ zw1_144) (by decide +kernel) (zk_dg_ok qdo_19_152 (by decide +kernel)), fun _ h => absurd h List.not_mem_nil⟩,
    fun _ h => absurd h List.not_mem_nil⟩
set_option maxRecDepth 100000 in
theorem qm38 {l : Launch} {D : zk_D} {base : Nat} {Hb : Heap} : zk_Met l qK D base Hb (zg_K D base Hb) yJ0_coder_7d493 (Jvm.Cond.code yJ0_coder_7d493 prog_19_method_152_code 1 (some .byte) :: zg_tb) qR38 qC38 := zk_met (ws' := zg_tb) (P := qP38) (AT := zg_AT) zpn_J0 rfl rfl rfl qk38 (fun s hK => zg_wd hK) (fun p e s m args below meth c s₁ Q B hml hK => qo38 B hml hK) (fun p e s m args below meth c s₁ v G0 H0 B hml hK ha hp hF q hq => absurd hq List.not_mem_nil)
set_option maxRecDepth 100000 in
def qR39 : Room := { frames := 2, cells := 0, slots := 0, locals := 40 }
set_option maxHeartbeats 4000000 in
set_option maxRecDepth 100000 in
theorem qo39 {p : Program} {l : Launch} {e : Env} {s : State} {m : MethodId} {args : Array Value} {below : List Frame} {meth : Method} {c : Code} {s₁ : State} {Q : State → Prop} {D : zk_D} {base : Nat} {Hb : Heap} (B : BodyLoose p l yJ0_length_8abf5 (headSpec (Jvm.Cond.code yJ0_length_8abf5 prog_19_method_54_code 1 (some .int) :: zg_tb) qR39) prog_19_method_54_code 1 (some .int) e s m args below meth c s₁) (hml : c.maxLocals = 1) (hK : zg_K D base Hb s) : zk_ok p l e (headSpec (Jvm.Cond.code yJ0_length_8abf5 prog_19_method_54_code 1 (some .int) :: zg_tb) qR39).room s m args below meth c Q qK D base Hb 1 prog_19_method_54_code qP39 qC39.2.2.2.2 := by
  have S : CallFix p m c prog_19_method_54_code 1 s args (Jvm.Cond.code yJ0_length_8abf5 prog_19_method_54_code 1 (some .int) :: zg_tb) RJ0 := ⟨B.exec, B.bytes, hml, findClass_of_methodNamed B.named, atoms_spec (ws := (Jvm.Cond.code yJ0_length_8abf5 prog_19_method_54_code 1 (some .int) :: zg_tb)) B.pre⟩
  exact ⟨List.forall_mem_cons.mpr ⟨⟨zg_gokS S (hK.2.2.2.2.2.2.2.2.1 _ (List.mem_of_getElem? (i := 0) rfl)) (List.mem_cons_of_mem _ zw8_57), zg_pok4⟩, fun _ h => absurd h List.not_mem_nil⟩,
    fun _ h => absurd h List.not_mem_nil,
    fun _ h => absurd h List.not_mem_nil,
    fun _ h => absurd h List.not_mem_nil,
    fun h => absurd rfl h,
    fun _ h => absurd h List.not_mem_nil,
    List.forall_mem_cons.mpr ⟨zg_callV (fun w h => List.mem_cons_of_mem _ h) zg_tb_all S hK zg_Km qm38 zw1_140 zy_yJ0_coder_7d493_V (ci := 13) (by decide +kernel) hK.2.2.2.2.2.2.2.1 ⟨rfl, rfl⟩ (zk_dg_ok qdo_19_54 (by decide +kernel)), fun _ h => absurd h List.not_mem_nil⟩⟩
set_option maxRecDepth 100000 in
theorem qm39 {l : Launch} {D : zk_D} {base : Nat} {Hb : Heap} : zk_Met l qK D base Hb (zg_K D base Hb) yJ0_length_8abf5 (Jvm.Cond.code yJ0_length_8abf5 prog_19_method_54_code 1 (some .int) :: zg_tb) qR39 qC39 := zk_met (ws' := zg_tb) (P := qP39) (AT := zg_AT) zpn_J0 rfl rfl rfl qk39 (fun s hK => zg_wd hK) (fun p e s m args below meth c s₁ Q B hml hK => qo39 B hml hK) (fun p e s m args below meth c s₁ v G0 H0 B hml hK ha hp hF q hq => absurd hq List.not_mem_nil)
set_option maxRecDepth 100000 in
def qR40 : Room := { frames := 1, cells := 0, slots := 0, locals := 20 }
set_option maxHeartbeats 4000000 in
set_option maxRecDepth 100000 in
theorem qo40 {p : Program} {l : Launch} {e : Env} {s : State} {m : MethodId} {args : Array Value} {below : List Frame} {meth : Method} {c : Code} {s₁ : State} {Q : State → Prop} {D : zk_D} {base : Nat} {Hb : Heap} (B : BodyLoose p l yJ1_canEncode_9a6ad (headSpec (Jvm.Cond.code yJ1_canEncode_9a6ad prog_20_method_4_code 1 (some .boolean) :: zg_tb) qR40) prog_20_method_4_code 1 (some .boolean) e s m args below meth c s₁) (hml : c.maxLocals = 1) (hK : zg_K D base Hb s) : zk_ok p l e (headSpec (Jvm.Cond.code yJ1_canEncode_9a6ad prog_20_method_4_code 1 (some .boolean) :: zg_tb) qR40).room s m args below meth c Q qK D base Hb 1 prog_20_method_4_code qP40 qC40.2.2.2.2 := by
  have S : CallFix p m c prog_20_method_4_code 1 s args (Jvm.Cond.code yJ1_canEncode_9a6ad prog_20_method_4_code 1 (some .boolean) :: zg_tb) RJ1 := ⟨B.exec, B.bytes, hml, findClass_of_methodNamed B.named, atoms_spec (ws := (Jvm.Cond.code yJ1_canEncode_9a6ad prog_20_method_4_code 1 (some .boolean) :: zg_tb)) B.pre⟩
  exact ⟨fun _ h => absurd h List.not_mem_nil,
    fun _ h => absurd h List.not_mem_nil,
    fun _ h => absurd h List.not_mem_nil,
    fun _ h => absurd h List.not_mem_nil,
    fun h => absurd rfl h,
    fun _ h => absurd h List.not_mem_nil,
    fun _ h => absurd h List.not_mem_nil⟩
set_option maxRecDepth 100000 in
theorem zpn_J1 : plainName RJ1 = true := by decide +kernel
set_option maxRecDepth 100000 in
theorem qm40 {l : Launch} {D : zk_D} {base : Nat} {Hb : Heap} : zk_Met l qK D base Hb (zg_K D base Hb) yJ1_canEncode_9a6ad (Jvm.Cond.code yJ1_canEncode_9a6ad prog_20_method_4_code 1 (some .boolean) :: zg_tb) qR40 qC40 := zk_met (ws' := zg_tb) (P := qP40) (AT := zg_AT) zpn_J1 rfl rfl rfl qk40 (fun s hK => zg_wd hK) (fun p e s m args below meth c s₁ Q B hml hK => qo40 B hml hK) (fun p e s m args below meth c s₁ v G0 H0 B hml hK ha hp hF q hq => absurd hq List.not_mem_nil)
end
