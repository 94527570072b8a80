/-! CONTRACTS MET: found by wip/an (python). -/
set_option maxRecDepth 100000
def qR444 : Room := { frames := 4, cells := 0, slots := 0, locals := 90 }
set_option maxHeartbeats 4000000 in
set_option maxRecDepth 100000 in
theorem qo444 {p : Program} {l : Launch} {e : Env} {s : State} {m : MethodId} {args : Array Value} {below : List Frame} {meth : Method} {c : Code} {s₁ : State} {Q : State → Prop} {D : zk_D} {base : Nat} {Hb : Heap} (B : BodyLoose p l yJ0_indexOf_0f7a4 (headSpec (Jvm.Cond.code yJ0_indexOf_0f7a4 prog_19_method_79_code 2 (some .int) :: zg_tb) qR444) prog_19_method_79_code 2 (some .int) e s m args below meth c s₁) (hml : c.maxLocals = 2) (hK : zg_K D base Hb s) : zk_ok p l e (headSpec (Jvm.Cond.code yJ0_indexOf_0f7a4 prog_19_method_79_code 2 (some .int) :: zg_tb) qR444).room s m args below meth c Q qK D base Hb 2 prog_19_method_79_code qP444 qC444.2.2.2.2 := by
  have S : CallFix p m c prog_19_method_79_code 2 s args (Jvm.Cond.code yJ0_indexOf_0f7a4 prog_19_method_79_code 2 (some .int) :: zg_tb) RJ0 := ⟨B.exec, B.bytes, hml, findClass_of_methodNamed B.named, atoms_spec (ws := (Jvm.Cond.code yJ0_indexOf_0f7a4 prog_19_method_79_code 2 (some .int) :: zg_tb)) B.pre⟩
  exact ⟨fun _ h => absurd h List.not_mem_nil,
    fun _ h => absurd h List.not_mem_nil,
    fun _ h => absurd h List.not_mem_nil,
    fun _ h => absurd h List.not_mem_nil,
    fun h => absurd rfl h,
    fun _ h => absurd h List.not_mem_nil,
    List.forall_mem_cons.mpr ⟨zg_callV (fun w h => List.mem_cons_of_mem _ h) zg_tb_all S hK zg_Km qm443 zw2_192 zy_yJ0_indexOf_7cf53_V (ci := 13) (by decide +kernel) hK.2.2.2.2.2.2.2.1 ⟨rfl, rfl⟩ (by decide +kernel), fun _ h => absurd h List.not_mem_nil⟩⟩
theorem qm444 {l : Launch} {D : zk_D} {base : Nat} {Hb : Heap} : zk_Met l qK D base Hb (zg_K D base Hb) yJ0_indexOf_0f7a4 (Jvm.Cond.code yJ0_indexOf_0f7a4 prog_19_method_79_code 2 (some .int) :: zg_tb) qR444 qC444 := zk_met (ws' := zg_tb) (P := qP444) (AT := zg_AT) (by decide +kernel) rfl rfl rfl qk444 (fun s hK => zg_wd hK) (fun p e s m args below meth c s₁ Q B hml hK => qo444 B hml hK) (fun p e s m args below meth c s₁ v G0 H0 B hml hK ha hp hF q hq => absurd hq List.not_mem_nil)
def qR445 : Room := { frames := 1, cells := 0, slots := 0, locals := 20 }
set_option maxHeartbeats 4000000 in
set_option maxRecDepth 100000 in
theorem qo445 {p : Program} {l : Launch} {e : Env} {s : State} {m : MethodId} {args : Array Value} {below : List Frame} {meth : Method} {c : Code} {s₁ : State} {Q : State → Prop} {D : zk_D} {base : Nat} {Hb : Heap} (B : BodyLoose p l yJ0_coder_7d493 (headSpec (Jvm.Cond.code yJ0_coder_7d493 prog_19_method_152_code 1 (some .byte) :: zg_tb) qR445) prog_19_method_152_code 1 (some .byte) e s m args below meth c s₁) (hml : c.maxLocals = 1) (hK : zg_K D base Hb s) : zk_ok p l e (headSpec (Jvm.Cond.code yJ0_coder_7d493 prog_19_method_152_code 1 (some .byte) :: zg_tb) qR445).room s m args below meth c Q qK D base Hb 1 prog_19_method_152_code qP445 qC445.2.2.2.2 := by
  have S : CallFix p m c prog_19_method_152_code 1 s args (Jvm.Cond.code yJ0_coder_7d493 prog_19_method_152_code 1 (some .byte) :: zg_tb) RJ0 := ⟨B.exec, B.bytes, hml, findClass_of_methodNamed B.named, atoms_spec (ws := (Jvm.Cond.code yJ0_coder_7d493 prog_19_method_152_code 1 (some .byte) :: zg_tb)) B.pre⟩
  exact ⟨List.forall_mem_cons.mpr ⟨⟨zg_gokS S (hK.2.2.2.2.2.2.2.2.1 _ (List.mem_of_getElem? (i := 1) rfl)) (List.mem_cons_of_mem _ zw8_58), zg_pok4⟩, fun _ h => absurd h List.not_mem_nil⟩,
    fun _ h => absurd h List.not_mem_nil,
    fun _ h => absurd h List.not_mem_nil,
    fun _ h => absurd h List.not_mem_nil,
    fun h => absurd rfl h,
    List.forall_mem_cons.mpr ⟨zg_kokG S (hK.2.2.2.2.2.2.2.2.2.2.1 _ (List.mem_of_getElem? (i := 0) rfl)) (List.mem_cons_of_mem _ zw1_144) (by decide +kernel) (by decide +kernel), fun _ h => absurd h List.not_mem_nil⟩,
    fun _ h => absurd h List.not_mem_nil⟩
theorem qm445 {l : Launch} {D : zk_D} {base : Nat} {Hb : Heap} : zk_Met l qK D base Hb (zg_K D base Hb) yJ0_coder_7d493 (Jvm.Cond.code yJ0_coder_7d493 prog_19_method_152_code 1 (some .byte) :: zg_tb) qR445 qC445 := zk_met (ws' := zg_tb) (P := qP445) (AT := zg_AT) (by decide +kernel) rfl rfl rfl qk445 (fun s hK => zg_wd hK) (fun p e s m args below meth c s₁ Q B hml hK => qo445 B hml hK) (fun p e s m args below meth c s₁ v G0 H0 B hml hK ha hp hF q hq => absurd hq List.not_mem_nil)
def qR446 : Room := { frames := 2, cells := 0, slots := 0, locals := 40 }
set_option maxHeartbeats 4000000 in
set_option maxRecDepth 100000 in
theorem qo446 {p : Program} {l : Launch} {e : Env} {s : State} {m : MethodId} {args : Array Value} {below : List Frame} {meth : Method} {c : Code} {s₁ : State} {Q : State → Prop} {D : zk_D} {base : Nat} {Hb : Heap} (B : BodyLoose p l yJ0_length_8abf5 (headSpec (Jvm.Cond.code yJ0_length_8abf5 prog_19_method_54_code 1 (some .int) :: zg_tb) qR446) prog_19_method_54_code 1 (some .int) e s m args below meth c s₁) (hml : c.maxLocals = 1) (hK : zg_K D base Hb s) : zk_ok p l e (headSpec (Jvm.Cond.code yJ0_length_8abf5 prog_19_method_54_code 1 (some .int) :: zg_tb) qR446).room s m args below meth c Q qK D base Hb 1 prog_19_method_54_code qP446 qC446.2.2.2.2 := by
  have S : CallFix p m c prog_19_method_54_code 1 s args (Jvm.Cond.code yJ0_length_8abf5 prog_19_method_54_code 1 (some .int) :: zg_tb) RJ0 := ⟨B.exec, B.bytes, hml, findClass_of_methodNamed B.named, atoms_spec (ws := (Jvm.Cond.code yJ0_length_8abf5 prog_19_method_54_code 1 (some .int) :: zg_tb)) B.pre⟩
  exact ⟨List.forall_mem_cons.mpr ⟨⟨zg_gokS S (hK.2.2.2.2.2.2.2.2.1 _ (List.mem_of_getElem? (i := 0) rfl)) (List.mem_cons_of_mem _ zw8_57), zg_pok4⟩, fun _ h => absurd h List.not_mem_nil⟩,
    fun _ h => absurd h List.not_mem_nil,
    fun _ h => absurd h List.not_mem_nil,
    fun _ h => absurd h List.not_mem_nil,
    fun h => absurd rfl h,
    fun _ h => absurd h List.not_mem_nil,
    List.forall_mem_cons.mpr ⟨zg_callV (fun w h => List.mem_cons_of_mem _ h) zg_tb_all S hK zg_Km qm445 zw1_140 zy_yJ0_coder_7d493_V (ci := 13) (by decide +kernel) hK.2.2.2.2.2.2.2.1 ⟨rfl, rfl⟩ (by decide +kernel), fun _ h => absurd h List.not_mem_nil⟩⟩
theorem qm446 {l : Launch} {D : zk_D} {base : Nat} {Hb : Heap} : zk_Met l qK D base Hb (zg_K D base Hb) yJ0_length_8abf5 (Jvm.Cond.code yJ0_length_8abf5 prog_19_method_54_code 1 (some .int) :: zg_tb) qR446 qC446 := zk_met (ws' := zg_tb) (P := qP446) (AT := zg_AT) (by decide +kernel) rfl rfl rfl qk446 (fun s hK => zg_wd hK) (fun p e s m args below meth c s₁ Q B hml hK => qo446 B hml hK) (fun p e s m args below meth c s₁ v G0 H0 B hml hK ha hp hF q hq => absurd hq List.not_mem_nil)
def qR447 : Room := { frames := 1, cells := 0, slots := 0, locals := 20 }
set_option maxHeartbeats 4000000 in
set_option maxRecDepth 100000 in
theorem qo447 {p : Program} {l : Launch} {e : Env} {s : State} {m : MethodId} {args : Array Value} {below : List Frame} {meth : Method} {c : Code} {s₁ : State} {Q : State → Prop} {D : zk_D} {base : Nat} {Hb : Heap} (B : BodyLoose p l yJ0_isLatin1_aae02 (headSpec (Jvm.Cond.code yJ0_isLatin1_aae02 prog_19_method_154_code 1 (some .boolean) :: zg_tb) qR447) prog_19_method_154_code 1 (some .boolean) e s m args below meth c s₁) (hml : c.maxLocals = 1) (hK : zg_K D base Hb s) : zk_ok p l e (headSpec (Jvm.Cond.code yJ0_isLatin1_aae02 prog_19_method_154_code 1 (some .boolean) :: zg_tb) qR447).room s m args below meth c Q qK D base Hb 1 prog_19_method_154_code qP447 qC447.2.2.2.2 := by
  have S : CallFix p m c prog_19_method_154_code 1 s args (Jvm.Cond.code yJ0_isLatin1_aae02 prog_19_method_154_code 1 (some .boolean) :: zg_tb) RJ0 := ⟨B.exec, B.bytes, hml, findClass_of_methodNamed B.named, atoms_spec (ws := (Jvm.Cond.code yJ0_isLatin1_aae02 prog_19_method_154_code 1 (some .boolean) :: zg_tb)) B.pre⟩
  exact ⟨List.forall_mem_cons.mpr ⟨⟨zg_gokS S (hK.2.2.2.2.2.2.2.2.1 _ (List.mem_of_getElem? (i := 1) rfl)) (List.mem_cons_of_mem _ zw8_58), zg_pok4⟩, fun _ h => absurd h List.not_mem_nil⟩,
    fun _ h => absurd h List.not_mem_nil,
    fun _ h => absurd h List.not_mem_nil,
    fun _ h => absurd h List.not_mem_nil,
    fun h => absurd rfl h,
    List.forall_mem_cons.mpr ⟨zg_kokG S (hK.2.2.2.2.2.2.2.2.2.2.1 _ (List.mem_of_getElem? (i := 0) rfl)) (List.mem_cons_of_mem _ zw1_144) (by decide +kernel) (by decide +kernel), fun _ h => absurd h List.not_mem_nil⟩,
    fun _ h => absurd h List.not_mem_nil⟩
theorem qm447 {l : Launch} {D : zk_D} {base : Nat} {Hb : Heap} : zk_Met l qK D base Hb (zg_K D base Hb) yJ0_isLatin1_aae02 (Jvm.Cond.code yJ0_isLatin1_aae02 prog_19_method_154_code 1 (some .boolean) :: zg_tb) qR447 qC447 := zk_met (ws' := zg_tb) (P := qP447) (AT := zg_AT) (by decide +kernel) rfl rfl rfl qk447 (fun s hK => zg_wd hK) (fun p e s m args below meth c s₁ Q B hml hK => qo447 B hml hK) (fun p e s m args below meth c s₁ v G0 H0 B hml hK ha hp hF q hq => absurd hq List.not_mem_nil)
def qR449 : Room := { frames := 3, cells := 0, slots := 0, locals := 81 }
set_option maxHeartbeats 4000000 in
set_option maxRecDepth 100000 in
theorem qo449 {p : Program} {l : Launch} {e : Env} {s : State} {m : MethodId} {args : Array Value} {below : List Frame} {meth : Method} {c : Code} {s₁ : State} {Q : State → Prop} {D : zk_D} {base : Nat} {Hb : Heap} (B : BodyLoose p l yJ1_charAt_3b067 (headSpec (Jvm.Cond.code yJ1_charAt_3b067 prog_20_method_2_code 2 (some .char) :: zg_tb) qR449) prog_20_method_2_code 2 (some .char) e s m args below meth c s₁) (hml : c.maxLocals = 2) (hK : zg_K D base Hb s) : zk_ok p l e (headSpec (Jvm.Cond.code yJ1_charAt_3b067 prog_20_method_2_code 2 (some .char) :: zg_tb) qR449).room s m args below meth c Q qK D base Hb 2 prog_20_method_2_code qP449 qC449.2.2.2.2 := by
  have S : CallFix p m c prog_20_method_2_code 2 s args (Jvm.Cond.code yJ1_charAt_3b067 prog_20_method_2_code 2 (some .char) :: zg_tb) RJ1 := ⟨B.exec, B.bytes, hml, findClass_of_methodNamed B.named, atoms_spec (ws := (Jvm.Cond.code yJ1_charAt_3b067 prog_20_method_2_code 2 (some .char) :: zg_tb)) B.pre⟩
  exact ⟨fun _ h => absurd h List.not_mem_nil,
    fun _ h => absurd h List.not_mem_nil,
    fun _ h => absurd h List.not_mem_nil,
    fun _ h => absurd h List.not_mem_nil,
    fun h => absurd rfl h,
    fun _ h => absurd h List.not_mem_nil,
    List.forall_mem_cons.mpr ⟨zg_callS (fun w h => List.mem_cons_of_mem _ h) zg_tb_all S hK zg_Km qm448 zw4_68 zy_yJ0_checkIndex_df160_S (by decide +kernel) ⟨rfl, rfl⟩ (by decide +kernel), fun _ h => absurd h List.not_mem_nil⟩⟩
theorem qm449 {l : Launch} {D : zk_D} {base : Nat} {Hb : Heap} : zk_Met l qK D base Hb (zg_K D base Hb) yJ1_charAt_3b067 (Jvm.Cond.code yJ1_charAt_3b067 prog_20_method_2_code 2 (some .char) :: zg_tb) qR449 qC449 := zk_met (ws' := zg_tb) (P := qP449) (AT := zg_AT) (by decide +kernel) rfl rfl rfl qk449 (fun s hK => zg_wd hK) (fun p e s m args below meth c s₁ Q B hml hK => qo449 B hml hK) (fun p e s m args below meth c s₁ v G0 H0 B hml hK ha hp hF q hq => absurd hq List.not_mem_nil)
def qR450 : Room := { frames := 4, cells := 0, slots := 0, locals := 102 }
set_option maxHeartbeats 4000000 in
set_option maxRecDepth 100000 in
theorem qo450 {p : Program} {l : Launch} {e : Env} {s : State} {m : MethodId} {args : Array Value} {below : List Frame} {meth : Method} {c : Code} {s₁ : State} {Q : State → Prop} {D : zk_D} {base : Nat} {Hb : Heap} (B : BodyLoose p l yJ0_charAt_5068e (headSpec (Jvm.Cond.code yJ0_charAt_5068e prog_19_method_56_code 2 (some .char) :: zg_tb) qR450) prog_19_method_56_code 2 (some .char) e s m args below meth c s₁) (hml : c.maxLocals = 2) (hK : zg_K D base Hb s) : zk_ok p l e (headSpec (Jvm.Cond.code yJ0_charAt_5068e prog_19_method_56_code 2 (some .char) :: zg_tb) qR450).room s m args below meth c Q qK D base Hb 2 prog_19_method_56_code qP450 qC450.2.2.2.2 := by
  have S : CallFix p m c prog_19_method_56_code 2 s args (Jvm.Cond.code yJ0_charAt_5068e prog_19_method_56_code 2 (some .char) :: zg_tb) RJ0 := ⟨B.exec, B.bytes, hml, findClass_of_methodNamed B.named, atoms_spec (ws := (Jvm.Cond.code yJ0_charAt_5068e prog_19_method_56_code 2 (some .char) :: zg_tb)) B.pre⟩
  exact ⟨List.forall_mem_cons.mpr ⟨⟨zg_gokS S (hK.2.2.2.2.2.2.2.2.1 _ (List.mem_of_getElem? (i := 0) rfl)) (List.mem_cons_of_mem _ zw8_57), zg_pok4⟩, fun _ h => absurd h List.not_mem_nil⟩,
    fun _ h => absurd h List.not_mem_nil,
    fun _ h => absurd h List.not_mem_nil,
    fun _ h => absurd h List.not_mem_nil,
    fun h => absurd rfl h,
    fun _ h => absurd h List.not_mem_nil,
    List.forall_mem_cons.mpr ⟨zg_callV (fun w h => List.mem_cons_of_mem _ h) zg_tb_all S hK zg_Km qm447 zw2_196 zy_yJ0_isLatin1_aae02_V (ci := 13) (by decide +kernel) hK.2.2.2.2.2.2.2.1 ⟨rfl, rfl⟩ (by decide +kernel), List.forall_mem_cons.mpr ⟨zg_callS (fun w h => List.mem_cons_of_mem _ h) zg_tb_all S hK zg_Km qm449 zw4_65 zy_yJ1_charAt_3b067_S (by decide +kernel) ⟨rfl, rfl⟩ (by decide +kernel), fun _ h => absurd h List.not_mem_nil⟩⟩⟩
theorem qm450 {l : Launch} {D : zk_D} {base : Nat} {Hb : Heap} : zk_Met l qK D base Hb (zg_K D base Hb) yJ0_charAt_5068e (Jvm.Cond.code yJ0_charAt_5068e prog_19_method_56_code 2 (some .char) :: zg_tb) qR450 qC450 := zk_met (ws' := zg_tb) (P := qP450) (AT := zg_AT) (by decide +kernel) rfl rfl rfl qk450 (fun s hK => zg_wd hK) (fun p e s m args below meth c s₁ Q B hml hK => qo450 B hml hK) (fun p e s m args below meth c s₁ v G0 H0 B hml hK ha hp hF q hq => absurd hq List.not_mem_nil)
def qR451 : Room := { frames := 5, cells := 0, slots := 0, locals := 123 }
set_option maxHeartbeats 4000000 in
set_option maxRecDepth 100000 in
theorem qo451 {p : Program} {l : Launch} {e : Env} {s : State} {m : MethodId} {args : Array Value} {below : List Frame} {meth : Method} {c : Code} {s₁ : State} {Q : State → Prop} {D : zk_D} {base : Nat} {Hb : Heap} (B : BodyLoose p l yX2_folded (headSpec (Jvm.Cond.code yX2_folded prog_4_method_6_code 2 (some .int) :: zg_tb) qR451) prog_4_method_6_code 2 (some .int) e s m args below meth c s₁) (hml : c.maxLocals = 2) (hK : zg_K D base Hb s) : zk_ok p l e (headSpec (Jvm.Cond.code yX2_folded prog_4_method_6_code 2 (some .int) :: zg_tb) qR451).room s m args below meth c Q qK D base Hb 2 prog_4_method_6_code qP451 qC451.2.2.2.2 := by
  have S : CallFix p m c prog_4_method_6_code 2 s args (Jvm.Cond.code yX2_folded prog_4_method_6_code 2 (some .int) :: zg_tb) RX2 := ⟨B.exec, B.bytes, hml, findClass_of_methodNamed B.named, atoms_spec (ws := (Jvm.Cond.code yX2_folded prog_4_method_6_code 2 (some .int) :: zg_tb)) B.pre⟩
  exact ⟨fun _ h => absurd h List.not_mem_nil,
    fun _ h => absurd h List.not_mem_nil,
    fun _ h => absurd h List.not_mem_nil,
    fun _ h => absurd h List.not_mem_nil,
    fun h => absurd rfl h,
    List.forall_mem_cons.mpr ⟨zg_kokS S (hK.2.2.2.2.2.2.2.2.2.1 _ (List.mem_of_getElem? (i := 3) rfl)) rfl (by decide) (by decide +kernel), List.forall_mem_cons.mpr ⟨zg_kokS S (hK.2.2.2.2.2.2.2.2.2.1 _ (List.mem_of_getElem? (i := 4) rfl)) rfl (by decide) (by decide +kernel), List.forall_mem_cons.mpr ⟨zg_kokS S (hK.2.2.2.2.2.2.2.2.2.1 _ (List.mem_of_getElem? (i := 4) rfl)) rfl (by decide) (by decide +kernel), fun _ h => absurd h List.not_mem_nil⟩⟩⟩,
    List.forall_mem_cons.mpr ⟨zg_callV (fun w h => List.mem_cons_of_mem _ h) zg_tb_all S hK zg_Km qm444 zw4_58 zy_yJ0_indexOf_0f7a4_V (ci := 13) (by decide +kernel) hK.2.2.2.2.2.2.2.1 ⟨rfl, rfl⟩ (by decide +kernel), List.forall_mem_cons.mpr ⟨zg_callV (fun w h => List.mem_cons_of_mem _ h) zg_tb_all S hK zg_Km qm446 zw4_60 zy_yJ0_length_8abf5_V (ci := 13) (by decide +kernel) hK.2.2.2.2.2.2.2.1 ⟨rfl, rfl⟩ (by decide +kernel), List.forall_mem_cons.mpr ⟨zg_callV (fun w h => List.mem_cons_of_mem _ h) zg_tb_all S hK zg_Km qm450 zw4_61 zy_yJ0_charAt_5068e_V (ci := 13) (by decide +kernel) hK.2.2.2.2.2.2.2.1 ⟨rfl, rfl⟩ (by decide +kernel), fun _ h => absurd h List.not_mem_nil⟩⟩⟩⟩
theorem qm451 {l : Launch} {D : zk_D} {base : Nat} {Hb : Heap} : zk_Met l qK D base Hb (zg_K D base Hb) yX2_folded (Jvm.Cond.code yX2_folded prog_4_method_6_code 2 (some .int) :: zg_tb) qR451 qC451 := zk_met (ws' := zg_tb) (P := qP451) (AT := zg_AT) (by decide +kernel) rfl rfl rfl qk451 (fun s hK => zg_wd hK) (fun p e s m args below meth c s₁ Q B hml hK => qo451 B hml hK) (fun p e s m args below meth c s₁ v G0 H0 B hml hK ha hp hF q hq => absurd hq List.not_mem_nil)
def qR452 : Room := { frames := 6, cells := 0, slots := 0, locals := 144 }
set_option maxHeartbeats 4000000 in
set_option maxRecDepth 100000 in
theorem qo452 {p : Program} {l : Launch} {e : Env} {s : State} {m : MethodId} {args : Array Value} {below : List Frame} {meth : Method} {c : Code} {s₁ : State} {Q : State → Prop} {D : zk_D} {base : Nat} {Hb : Heap} (B : BodyLoose p l yX2_see (headSpec (Jvm.Cond.code yX2_see prog_4_method_4_code 7 none :: zg_tb) qR452) prog_4_method_4_code 7 none e s m args below meth c s₁) (hml : c.maxLocals = 7) (hK : zg_K D base Hb s) : zk_ok p l e (headSpec (Jvm.Cond.code yX2_see prog_4_method_4_code 7 none :: zg_tb) qR452).room s m args below meth c Q qK D base Hb 7 prog_4_method_4_code qP452 qC452.2.2.2.2 := by
  have S : CallFix p m c prog_4_method_4_code 7 s args (Jvm.Cond.code yX2_see prog_4_method_4_code 7 none :: zg_tb) RX2 := ⟨B.exec, B.bytes, hml, findClass_of_methodNamed B.named, atoms_spec (ws := (Jvm.Cond.code yX2_see prog_4_method_4_code 7 none :: zg_tb)) B.pre⟩
  exact ⟨List.forall_mem_cons.mpr ⟨zg_gp S (hK.2.1 2 _ rfl) (fun w h => (List.mem_cons_of_mem _ (zc2 w h))) rfl zt2_1 (List.mem_cons_of_mem _ zw1_96) rfl, List.forall_mem_cons.mpr ⟨zg_gp S (hK.2.1 2 _ rfl) (fun w h => (List.mem_cons_of_mem _ (zc2 w h))) rfl zt2_2 (List.mem_cons_of_mem _ zw1_98) rfl, List.forall_mem_cons.mpr ⟨zg_gp S (hK.2.1 2 _ rfl) (fun w h => (List.mem_cons_of_mem _ (zc2 w h))) rfl zt2_3 (List.mem_cons_of_mem _ zw1_99) rfl, List.forall_mem_cons.mpr ⟨zg_gp S (hK.2.1 8 _ rfl) (fun w h => (List.mem_cons_of_mem _ (zc8 w h))) rfl zt8_1 (List.mem_cons_of_mem _ zw1_78) rfl, fun _ h => absurd h List.not_mem_nil⟩⟩⟩⟩,
    fun _ h => absurd h List.not_mem_nil,
    fun _ h => absurd h List.not_mem_nil,
    fun _ h => absurd h List.not_mem_nil,
    fun h => absurd rfl h,
    fun _ h => absurd h List.not_mem_nil,
    List.forall_mem_cons.mpr ⟨zg_callV (fun w h => List.mem_cons_of_mem _ h) zg_tb_all S hK zg_Km qm34 zw2_164 zy_yX8_at_V (ci := 8) (by decide +kernel) (hK.2.1 8 _ rfl).2.1 ⟨rfl, rfl⟩ (by decide +kernel), List.forall_mem_cons.mpr ⟨zg_callV (fun w h => List.mem_cons_of_mem _ h) zg_tb_all S hK zg_Km qm434 zw4_46 zy_yX2_take_V (ci := 2) (by decide +kernel) (hK.2.1 2 _ rfl).2.1 ⟨rfl, rfl⟩ (by decide +kernel), List.forall_mem_cons.mpr ⟨zg_callV (fun w h => List.mem_cons_of_mem _ h) zg_tb_all S hK zg_Km qm34 zw2_164 zy_yX8_at_V (ci := 8) (by decide +kernel) (hK.2.1 8 _ rfl).2.1 ⟨rfl, rfl⟩ (by decide +kernel), List.forall_mem_cons.mpr ⟨zg_callS (fun w h => List.mem_cons_of_mem _ h) zg_tb_all S hK zg_Km qm35 zw2_168 zy_yX2_hexOf_S (by decide +kernel) ⟨rfl, rfl⟩ (by decide +kernel), List.forall_mem_cons.mpr ⟨zg_callV (fun w h => List.mem_cons_of_mem _ h) zg_tb_all S hK zg_Km qm34 zw2_164 zy_yX8_at_V (ci := 8) (by decide +kernel) (hK.2.1 8 _ rfl).2.1 ⟨rfl, rfl⟩ (by decide +kernel), List.forall_mem_cons.mpr ⟨zg_callS (fun w h => List.mem_cons_of_mem _ h) zg_tb_all S hK zg_Km qm35 zw2_168 zy_yX2_hexOf_S (by decide +kernel) ⟨rfl, rfl⟩ (by decide +kernel), List.forall_mem_cons.mpr ⟨zg_callS (fun w h => List.mem_cons_of_mem _ h) zg_tb_all S hK zg_Km qm451 zw4_54 zy_yX2_folded_S (by decide +kernel) ⟨rfl, rfl⟩ (by decide +kernel), List.forall_mem_cons.mpr ⟨zg_callV (fun w h => List.mem_cons_of_mem _ h) zg_tb_all S hK zg_Km qm434 zw4_46 zy_yX2_take_V (ci := 2) (by decide +kernel) (hK.2.1 2 _ rfl).2.1 ⟨rfl, rfl⟩ (by decide +kernel), List.forall_mem_cons.mpr ⟨zg_callS (fun w h => List.mem_cons_of_mem _ h) zg_tb_all S hK zg_Km qm451 zw4_54 zy_yX2_folded_S (by decide +kernel) ⟨rfl, rfl⟩ (by decide +kernel), List.forall_mem_cons.mpr ⟨zg_callV (fun w h => List.mem_cons_of_mem _ h) zg_tb_all S hK zg_Km qm434 zw4_46 zy_yX2_take_V (ci := 2) (by decide +kernel) (hK.2.1 2 _ rfl).2.1 ⟨rfl, rfl⟩ (by decide +kernel), List.forall_mem_cons.mpr ⟨zg_callV (fun w h => List.mem_cons_of_mem _ h) zg_tb_all S hK zg_Km qm434 zw4_46 zy_yX2_take_V (ci := 2) (by decide +kernel) (hK.2.1 2 _ rfl).2.1 ⟨rfl, rfl⟩ (by decide +kernel), fun _ h => absurd h List.not_mem_nil⟩⟩⟩⟩⟩⟩⟩⟩⟩⟩⟩⟩
theorem qm452 {l : Launch} {D : zk_D} {base : Nat} {Hb : Heap} : zk_Met l qK D base Hb (zg_K D base Hb) yX2_see (Jvm.Cond.code yX2_see prog_4_method_4_code 7 none :: zg_tb) qR452 qC452 := zk_met (ws' := zg_tb) (P := qP452) (AT := zg_AT) (by decide +kernel) rfl rfl rfl qk452 (fun s hK => zg_wd hK) (fun p e s m args below meth c s₁ Q B hml hK => qo452 B hml hK) (fun p e s m args below meth c s₁ v G0 H0 B hml hK ha hp hF q hq => absurd hq List.not_mem_nil)
def qR454 : Room := { frames := 1, cells := 0, slots := 0, locals := 20 }
set_option maxHeartbeats 4000000 in
set_option maxRecDepth 100000 in
theorem qo454 {p : Program} {l : Launch} {e : Env} {s : State} {m : MethodId} {args : Array Value} {below : List Frame} {meth : Method} {c : Code} {s₁ : State} {Q : State → Prop} {D : zk_D} {base : Nat} {Hb : Heap} (B : BodyLoose p l yX10_lookAnew (headSpec (Jvm.Cond.code yX10_lookAnew prog_12_method_3_code 1 none :: zg_tb) qR454) prog_12_method_3_code 1 none e s m args below meth c s₁) (hml : c.maxLocals = 1) (hK : zg_K D base Hb s) : zk_ok p l e (headSpec (Jvm.Cond.code yX10_lookAnew prog_12_method_3_code 1 none :: zg_tb) qR454).room s m args below meth c Q qK D base Hb 1 prog_12_method_3_code qP454 qC454.2.2.2.2 := by
  have S : CallFix p m c prog_12_method_3_code 1 s args (Jvm.Cond.code yX10_lookAnew prog_12_method_3_code 1 none :: zg_tb) RX10 := ⟨B.exec, B.bytes, hml, findClass_of_methodNamed B.named, atoms_spec (ws := (Jvm.Cond.code yX10_lookAnew prog_12_method_3_code 1 none :: zg_tb)) B.pre⟩
  exact ⟨List.forall_mem_cons.mpr ⟨zg_gp S (hK.2.1 10 _ rfl) (fun w h => (List.mem_cons_of_mem _ (zc10 w h))) rfl zt10_5 (List.mem_cons_of_mem _ zw1_226) rfl, fun _ h => absurd h List.not_mem_nil⟩,
    fun _ h => absurd h List.not_mem_nil,
    fun _ h => absurd h List.not_mem_nil,
    fun _ h => absurd h List.not_mem_nil,
    fun h => absurd rfl h,
    fun _ h => absurd h List.not_mem_nil,
    fun _ h => absurd h List.not_mem_nil⟩
theorem qm454 {l : Launch} {D : zk_D} {base : Nat} {Hb : Heap} : zk_Met l qK D base Hb (zg_K D base Hb) yX10_lookAnew (Jvm.Cond.code yX10_lookAnew prog_12_method_3_code 1 none :: zg_tb) qR454 qC454 := zk_met (ws' := zg_tb) (P := qP454) (AT := zg_AT) (by decide +kernel) rfl rfl rfl qk454 (fun s hK => zg_wd hK) (fun p e s m args below meth c s₁ Q B hml hK => qo454 B hml hK) (fun p e s m args below meth c s₁ v G0 H0 B hml hK ha hp hF q hq => absurd hq List.not_mem_nil)
def qR456 : Room := { frames := 1, cells := 0, slots := 0, locals := 20 }
set_option maxHeartbeats 4000000 in
set_option maxRecDepth 100000 in
theorem qo456 {p : Program} {l : Launch} {e : Env} {s : State} {m : MethodId} {args : Array Value} {below : List Frame} {meth : Method} {c : Code} {s₁ : State} {Q : State → Prop} {D : zk_D} {base : Nat} {Hb : Heap} (B : BodyLoose p l yX9_init (headSpec (Jvm.Cond.code yX9_init prog_11_method_1_code 4 none :: zg_tb) qR456) prog_11_method_1_code 4 none e s m args below meth c s₁) (hml : c.maxLocals = 4) (hK : zg_K D base Hb s) : zk_ok p l e (headSpec (Jvm.Cond.code yX9_init prog_11_method_1_code 4 none :: zg_tb) qR456).room s m args below meth c Q qK D base Hb 4 prog_11_method_1_code qP456 qC456.2.2.2.2 := by
  have S : CallFix p m c prog_11_method_1_code 4 s args (Jvm.Cond.code yX9_init prog_11_method_1_code 4 none :: zg_tb) RX9 := ⟨B.exec, B.bytes, hml, findClass_of_methodNamed B.named, atoms_spec (ws := (Jvm.Cond.code yX9_init prog_11_method_1_code 4 none :: zg_tb)) B.pre⟩
  have hin2 : meth.name = "<init>" := (name_of_methodNamed B.named B.method).1
  exact ⟨List.forall_mem_cons.mpr ⟨zg_gpF S (hK.2.1 9 _ rfl) (fun w h => (List.mem_cons_of_mem _ (zc9 w h))) rfl hin2 zt9_0 (List.mem_cons_of_mem _ zw4_111) rfl, List.forall_mem_cons.mpr ⟨zg_gpF S (hK.2.1 9 _ rfl) (fun w h => (List.mem_cons_of_mem _ (zc9 w h))) rfl hin2 zt9_1 (List.mem_cons_of_mem _ zw4_115) rfl, fun _ h => absurd h List.not_mem_nil⟩⟩,
    fun _ h => absurd h List.not_mem_nil,
    fun _ h => absurd h List.not_mem_nil,
    fun _ h => absurd h List.not_mem_nil,
    fun h => absurd rfl h,
    fun _ h => absurd h List.not_mem_nil,
    List.forall_mem_cons.mpr ⟨zg_callO S (List.mem_cons_of_mem _ zw4_110) (List.mem_cons_of_mem _ zw1_29) (List.mem_cons_of_mem _ zw1_30) ⟨rfl, rfl⟩ (by decide +kernel), fun _ h => absurd h List.not_mem_nil⟩⟩
theorem qm456 {l : Launch} {D : zk_D} {base : Nat} {Hb : Heap} : zk_Met l qK D base Hb (zg_K D base Hb) yX9_init (Jvm.Cond.code yX9_init prog_11_method_1_code 4 none :: zg_tb) qR456 qC456 := zk_met (ws' := zg_tb) (P := qP456) (AT := zg_AT) (by decide +kernel) rfl rfl rfl qk456 (fun s hK => zg_wd hK) (fun p e s m args below meth c s₁ Q B hml hK => qo456 B hml hK) (fun p e s m args below meth c s₁ v G0 H0 B hml hK ha hp hF q hq => absurd hq List.not_mem_nil)
def qR457 : Room := { frames := 2, cells := 1, slots := 6, locals := 45 }
set_option maxHeartbeats 4000000 in
set_option maxRecDepth 100000 in
theorem qo457 {p : Program} {l : Launch} {e : Env} {s : State} {m : MethodId} {args : Array Value} {below : List Frame} {meth : Method} {c : Code} {s₁ : State} {Q : State → Prop} {D : zk_D} {base : Nat} {Hb : Heap} (B : BodyLoose p l yX10_find (headSpec (Jvm.Cond.code yX10_find prog_12_method_2_code 5 (some (.object "UnaskedLetters$Word")) :: zg_tb) qR457) prog_12_method_2_code 5 (some (.object "UnaskedLetters$Word")) e s m args below meth c s₁) (hml : c.maxLocals = 5) (hK : zg_K D base Hb s) : zk_ok p l e (headSpec (Jvm.Cond.code yX10_find prog_12_method_2_code 5 (some (.object "UnaskedLetters$Word")) :: zg_tb) qR457).room s m args below meth c Q qK D base Hb 5 prog_12_method_2_code qP457 qC457.2.2.2.2 := by
  have S : CallFix p m c prog_12_method_2_code 5 s args (Jvm.Cond.code yX10_find prog_12_method_2_code 5 (some (.object "UnaskedLetters$Word")) :: zg_tb) RX10 := ⟨B.exec, B.bytes, hml, findClass_of_methodNamed B.named, atoms_spec (ws := (Jvm.Cond.code yX10_find prog_12_method_2_code 5 (some (.object "UnaskedLetters$Word")) :: zg_tb)) B.pre⟩
  exact ⟨List.forall_mem_cons.mpr ⟨zg_gp4 S (hK.2.1 10 _ rfl) (fun w h => (List.mem_cons_of_mem _ (zc10 w h))) rfl zt10_0 (List.mem_cons_of_mem _ zw1_219), List.forall_mem_cons.mpr ⟨zg_gp4 S (hK.2.1 9 _ rfl) (fun w h => (List.mem_cons_of_mem _ (zc9 w h))) rfl zt9_0 (List.mem_cons_of_mem _ zw4_112), List.forall_mem_cons.mpr ⟨zg_gp4 S (hK.2.1 9 _ rfl) (fun w h => (List.mem_cons_of_mem _ (zc9 w h))) rfl zt9_1 (List.mem_cons_of_mem _ zw4_116), fun _ h => absurd h List.not_mem_nil⟩⟩⟩,
    List.forall_mem_cons.mpr ⟨zg_sokR (ci := 9) S (hK.2.2.2.1 (11, _) (List.mem_of_getElem? (i := 6) rfl)) (hK.2.2.2.2.2.1 _ (List.mem_of_getElem? (i := 0) rfl)) (hK.2.1 9 _ rfl).2.1 (by decide +kernel) (by decide +kernel), fun _ h => absurd h List.not_mem_nil⟩,
    List.forall_mem_cons.mpr ⟨zg_nokE (by decide +kernel) (zg_nok tyX9 S (hK.2.1 9 _ rfl) (fun w h => (List.mem_cons_of_mem _ (zc9 w h))) tyX9_ok (List.mem_cons_of_mem _ zw1_217) (List.mem_cons_of_mem _ zw4_106) (List.mem_cons_of_mem _ zw1_13) rfl (by decide +kernel)), fun _ h => absurd h List.not_mem_nil⟩,
    fun _ h => absurd h List.not_mem_nil,
    fun h => absurd rfl h,
    List.forall_mem_cons.mpr ⟨zg_kokL S (List.mem_cons_of_mem _ zw4_102) (by decide +kernel) (by decide +kernel), fun _ h => absurd h List.not_mem_nil⟩,
    List.forall_mem_cons.mpr ⟨zg_callS (fun w h => List.mem_cons_of_mem _ h) zg_tb_all S hK zg_Km qm455 zw4_103 zy_yJ9_floorMod_f86c9_S (by decide +kernel) ⟨rfl, rfl⟩ (by decide +kernel), List.forall_mem_cons.mpr ⟨zg_callI (fun w h => List.mem_cons_of_mem _ h) zg_tb_all S hK zg_Km qm456 zw4_107 zy_yX9_init_I rfl (ci := 9) (by decide +kernel) ⟨rfl, rfl⟩ (by decide +kernel), fun _ h => absurd h List.not_mem_nil⟩⟩⟩
theorem qm457 {l : Launch} {D : zk_D} {base : Nat} {Hb : Heap} : zk_Met l qK D base Hb (zg_K D base Hb) yX10_find (Jvm.Cond.code yX10_find prog_12_method_2_code 5 (some (.object "UnaskedLetters$Word")) :: zg_tb) qR457 qC457 := zk_met (ws' := zg_tb) (P := qP457) (AT := zg_AT) (by decide +kernel) rfl rfl rfl qk457 (fun s hK => zg_wd hK) (fun p e s m args below meth c s₁ Q B hml hK => qo457 B hml hK) (fun p e s m args below meth c s₁ v G0 H0 B hml hK ha hp hF q hq => absurd hq List.not_mem_nil)
def qR458 : Room := { frames := 1, cells := 0, slots := 0, locals := 20 }
set_option maxHeartbeats 4000000 in
set_option maxRecDepth 100000 in
theorem qo458 {p : Program} {l : Launch} {e : Env} {s : State} {m : MethodId} {args : Array Value} {below : List Frame} {meth : Method} {c : Code} {s₁ : State} {Q : State → Prop} {D : zk_D} {base : Nat} {Hb : Heap} (B : BodyLoose p l yX10_isNew (headSpec (Jvm.Cond.code yX10_isNew prog_12_method_4_code 2 (some .boolean) :: zg_tb) qR458) prog_12_method_4_code 2 (some .boolean) e s m args below meth c s₁) (hml : c.maxLocals = 2) (hK : zg_K D base Hb s) : zk_ok p l e (headSpec (Jvm.Cond.code yX10_isNew prog_12_method_4_code 2 (some .boolean) :: zg_tb) qR458).room s m args below meth c Q qK D base Hb 2 prog_12_method_4_code qP458 qC458.2.2.2.2 := by
  have S : CallFix p m c prog_12_method_4_code 2 s args (Jvm.Cond.code yX10_isNew prog_12_method_4_code 2 (some .boolean) :: zg_tb) RX10 := ⟨B.exec, B.bytes, hml, findClass_of_methodNamed B.named, atoms_spec (ws := (Jvm.Cond.code yX10_isNew prog_12_method_4_code 2 (some .boolean) :: zg_tb)) B.pre⟩
  exact ⟨List.forall_mem_cons.mpr ⟨zg_gp S (hK.2.1 9 _ rfl) (fun w h => (List.mem_cons_of_mem _ (zc9 w h))) rfl zt9_3 (List.mem_cons_of_mem _ zw4_118) rfl, List.forall_mem_cons.mpr ⟨zg_gp S (hK.2.1 10 _ rfl) (fun w h => (List.mem_cons_of_mem _ (zc10 w h))) rfl zt10_5 (List.mem_cons_of_mem _ zw1_226) rfl, fun _ h => absurd h List.not_mem_nil⟩⟩,
    fun _ h => absurd h List.not_mem_nil,
    fun _ h => absurd h List.not_mem_nil,
    fun _ h => absurd h List.not_mem_nil,
    fun h => absurd rfl h,
    fun _ h => absurd h List.not_mem_nil,
    fun _ h => absurd h List.not_mem_nil⟩
theorem qm458 {l : Launch} {D : zk_D} {base : Nat} {Hb : Heap} : zk_Met l qK D base Hb (zg_K D base Hb) yX10_isNew (Jvm.Cond.code yX10_isNew prog_12_method_4_code 2 (some .boolean) :: zg_tb) qR458 qC458 := zk_met (ws' := zg_tb) (P := qP458) (AT := zg_AT) (by decide +kernel) rfl rfl rfl qk458 (fun s hK => zg_wd hK) (fun p e s m args below meth c s₁ Q B hml hK => qo458 B hml hK) (fun p e s m args below meth c s₁ v G0 H0 B hml hK ha hp hF q hq => absurd hq List.not_mem_nil)
def qR459 : Room := { frames := 3, cells := 164, slots := 1446, locals := 69 }
set_option maxHeartbeats 4000000 in
set_option maxRecDepth 100000 in
theorem qo459 {p : Program} {l : Launch} {e : Env} {s : State} {m : MethodId} {args : Array Value} {below : List Frame} {meth : Method} {c : Code} {s₁ : State} {Q : State → Prop} {D : zk_D} {base : Nat} {Hb : Heap} (B : BodyLoose p l yX11_takeWords (headSpec (Jvm.Cond.code yX11_takeWords prog_1_method_46_code 5 none :: zg_tb) qR459) prog_1_method_46_code 5 none e s m args below meth c s₁) (hml : c.maxLocals = 5) (hK : zg_K D base Hb s) : zk_ok p l e (headSpec (Jvm.Cond.code yX11_takeWords prog_1_method_46_code 5 none :: zg_tb) qR459).room s m args below meth c Q qK D base Hb 5 prog_1_method_46_code qP459 qC459.2.2.2.2 := by
  have S : CallFix p m c prog_1_method_46_code 5 s args (Jvm.Cond.code yX11_takeWords prog_1_method_46_code 5 none :: zg_tb) RX11 := ⟨B.exec, B.bytes, hml, findClass_of_methodNamed B.named, atoms_spec (ws := (Jvm.Cond.code yX11_takeWords prog_1_method_46_code 5 none :: zg_tb)) B.pre⟩
  exact ⟨List.forall_mem_cons.mpr ⟨zg_gp4 S (hK.2.1 11 _ rfl) (fun w h => (List.mem_cons_of_mem _ (zc11 w h))) rfl zt11_2 (List.mem_cons_of_mem _ zw2_55), List.forall_mem_cons.mpr ⟨zg_gp S (hK.2.1 2 _ rfl) (fun w h => (List.mem_cons_of_mem _ (zc2 w h))) rfl zt2_1 (List.mem_cons_of_mem _ zw1_97) rfl, List.forall_mem_cons.mpr ⟨zg_gp S (hK.2.1 1 _ rfl) (fun w h => (List.mem_cons_of_mem _ (zc1 w h))) rfl zt1_10 (List.mem_cons_of_mem _ zw3_233) rfl, List.forall_mem_cons.mpr ⟨zg_gp S (hK.2.1 1 _ rfl) (fun w h => (List.mem_cons_of_mem _ (zc1 w h))) rfl zt1_11 (List.mem_cons_of_mem _ zw3_236) rfl, List.forall_mem_cons.mpr ⟨zg_gp S (hK.2.1 1 _ rfl) (fun w h => (List.mem_cons_of_mem _ (zc1 w h))) rfl zt1_12 (List.mem_cons_of_mem _ zw3_237) rfl, List.forall_mem_cons.mpr ⟨zg_gp4 S (hK.2.1 11 _ rfl) (fun w h => (List.mem_cons_of_mem _ (zc11 w h))) rfl zt11_6 (List.mem_cons_of_mem _ zw2_59), List.forall_mem_cons.mpr ⟨zg_gp4 S (hK.2.1 2 _ rfl) (fun w h => (List.mem_cons_of_mem _ (zc2 w h))) rfl zt2_0 (List.mem_cons_of_mem _ zw1_95), List.forall_mem_cons.mpr ⟨zg_gp S (hK.2.1 1 _ rfl) (fun w h => (List.mem_cons_of_mem _ (zc1 w h))) rfl zt1_13 (List.mem_cons_of_mem _ zw4_0) rfl, fun _ h => absurd h List.not_mem_nil⟩⟩⟩⟩⟩⟩⟩⟩,
    List.forall_mem_cons.mpr ⟨zg_sokR (ci := 9) S (hK.2.2.2.1 (11, _) (List.mem_of_getElem? (i := 6) rfl)) (hK.2.2.2.2.2.1 _ (List.mem_of_getElem? (i := 0) rfl)) (hK.2.1 9 _ rfl).2.1 (by decide +kernel) (by decide +kernel), fun _ h => absurd h List.not_mem_nil⟩,
    fun _ h => absurd h List.not_mem_nil,
    List.forall_mem_cons.mpr ⟨zg_nakE (tag := 11) (by decide +kernel) (zg_nakR S (hK.2.2.2.1 (11, _) (List.mem_of_getElem? (i := 6) rfl)) (List.mem_cons_of_mem _ zw4_93) (hK.2.2.2.2.2.1 _ (List.mem_of_getElem? (i := 0) rfl)) (by decide +kernel) rfl), List.forall_mem_cons.mpr ⟨zg_nakE (tag := 11) (by decide +kernel) (zg_nakR S (hK.2.2.2.1 (11, _) (List.mem_of_getElem? (i := 6) rfl)) (List.mem_cons_of_mem _ zw4_93) (hK.2.2.2.2.2.1 _ (List.mem_of_getElem? (i := 0) rfl)) (by decide +kernel) rfl), List.forall_mem_cons.mpr ⟨zg_nakE (tag := 0) (by decide +kernel) (zg_nak (atype := .int) S (hK.2.2.2.1 (0, _) (List.mem_of_getElem? (i := 0) rfl)) (List.mem_cons_of_mem _ zw1_70) (by decide +kernel) rfl rfl), fun _ h => absurd h List.not_mem_nil⟩⟩⟩,
    fun _ => Nat.le_of_ble_eq_true rfl,
    fun _ h => absurd h List.not_mem_nil,
    List.forall_mem_cons.mpr ⟨zg_callV (fun w h => List.mem_cons_of_mem _ h) zg_tb_all S hK zg_Km qm454 zw4_94 zy_yX10_lookAnew_V (ci := 10) (by decide +kernel) (hK.2.1 10 _ rfl).2.1 ⟨rfl, rfl⟩ (by decide +kernel), List.forall_mem_cons.mpr ⟨zg_callV (fun w h => List.mem_cons_of_mem _ h) zg_tb_all S hK zg_Km qm457 zw4_98 zy_yX10_find_V (ci := 10) (by decide +kernel) (hK.2.1 10 _ rfl).2.1 ⟨rfl, rfl⟩ (by decide +kernel), List.forall_mem_cons.mpr ⟨zg_callV (fun w h => List.mem_cons_of_mem _ h) zg_tb_all S hK zg_Km qm458 zw4_134 zy_yX10_isNew_V (ci := 10) (by decide +kernel) (hK.2.1 10 _ rfl).2.1 ⟨rfl, rfl⟩ (by decide +kernel), fun _ h => absurd h List.not_mem_nil⟩⟩⟩⟩
theorem qm459 {l : Launch} {D : zk_D} {base : Nat} {Hb : Heap} : zk_Met l qK D base Hb (zg_K D base Hb) yX11_takeWords (Jvm.Cond.code yX11_takeWords prog_1_method_46_code 5 none :: zg_tb) qR459 qC459 :=
  zk_met (ws' := zg_tb) (P := qP459) (AT := zg_AT) (by decide +kernel) rfl rfl rfl qk459 (fun s hK => zg_wd hK) (fun p e s m args below meth c s₁ Q B hml hK => qo459 B hml hK) (fun p e s m args below meth c s₁ v G0 H0 B hml hK ha hp0 hF0 q hq G H locs ls vs v' hp he hl hF hL => by
    have hq := List.mem_singleton.mp hq
    subst hq
    exact zk_turns (P := qP459) (C := qC459) (pc := 40) (T := 1) (U := 6) (c0 := 3) (s0 := 480) (n := 160) (st := qX459.2.1) (mz := (160, none, some 22)) B.exec B.bytes (zg_wd hK) (qo459 B hml hK) rfl rfl B.returns B.notSynchronized (fun t h => h) qt459 (by decide +kernel) (by decide +kernel) (by decide +kernel) (by decide +kernel) (by decide +kernel) 160 G H locs ls vs v' (zk_mb_ok hF (by decide +kernel)) (Nat.le_refl _) hp he hl hF hL)
def qR460 : Room := { frames := 7, cells := 168, slots := 1635, locals := 170 }
set_option maxHeartbeats 4000000 in
set_option maxRecDepth 100000 in
theorem qo460 {p : Program} {l : Launch} {e : Env} {s : State} {m : MethodId} {args : Array Value} {below : List Frame} {meth : Method} {c : Code} {s₁ : State} {Q : State → Prop} {D : zk_D} {base : Nat} {Hb : Heap} (B : BodyLoose p l yX11_write (headSpec (Jvm.Cond.code yX11_write prog_1_method_15_code 6 (some .int) :: zg_tb) qR460) prog_1_method_15_code 6 (some .int) e s m args below meth c s₁) (hml : c.maxLocals = 6) (hK : zg_K D base Hb s) : zk_ok p l e (headSpec (Jvm.Cond.code yX11_write prog_1_method_15_code 6 (some .int) :: zg_tb) qR460).room s m args below meth c Q qK D base Hb 6 prog_1_method_15_code qP460 qC460.2.2.2.2 := by
  have S : CallFix p m c prog_1_method_15_code 6 s args (Jvm.Cond.code yX11_write prog_1_method_15_code 6 (some .int) :: zg_tb) RX11 := ⟨B.exec, B.bytes, hml, findClass_of_methodNamed B.named, atoms_spec (ws := (Jvm.Cond.code yX11_write prog_1_method_15_code 6 (some .int) :: zg_tb)) B.pre⟩
  exact ⟨List.forall_mem_cons.mpr ⟨zg_gp4 S (hK.2.1 11 _ rfl) (fun w h => (List.mem_cons_of_mem _ (zc11 w h))) rfl zt11_0 (List.mem_cons_of_mem _ zw2_53), List.forall_mem_cons.mpr ⟨zg_gp S (hK.2.1 11 _ rfl) (fun w h => (List.mem_cons_of_mem _ (zc11 w h))) rfl zt11_15 (List.mem_cons_of_mem _ zw2_68) rfl, List.forall_mem_cons.mpr ⟨zg_gp4 S (hK.2.1 11 _ rfl) (fun w h => (List.mem_cons_of_mem _ (zc11 w h))) rfl zt11_2 (List.mem_cons_of_mem _ zw2_55), List.forall_mem_cons.mpr ⟨zg_gp4 S (hK.2.1 11 _ rfl) (fun w h => (List.mem_cons_of_mem _ (zc11 w h))) rfl zt11_1 (List.mem_cons_of_mem _ zw2_54), List.forall_mem_cons.mpr ⟨zg_gp S (hK.2.1 11 _ rfl) (fun w h => (List.mem_cons_of_mem _ (zc11 w h))) rfl zt11_13 (List.mem_cons_of_mem _ zw2_66) rfl, List.forall_mem_cons.mpr ⟨zg_gp4 S (hK.2.1 2 _ rfl) (fun w h => (List.mem_cons_of_mem _ (zc2 w h))) rfl zt2_0 (List.mem_cons_of_mem _ zw1_95), List.forall_mem_cons.mpr ⟨zg_gp S (hK.2.1 2 _ rfl) (fun w h => (List.mem_cons_of_mem _ (zc2 w h))) rfl zt2_1 (List.mem_cons_of_mem _ zw1_97) rfl, List.forall_mem_cons.mpr ⟨zg_gp S (hK.2.1 1 _ rfl) (fun w h => (List.mem_cons_of_mem _ (zc1 w h))) rfl zt1_9 (List.mem_cons_of_mem _ zw3_231) rfl, List.forall_mem_cons.mpr ⟨zg_gp S (hK.2.1 8 _ rfl) (fun w h => (List.mem_cons_of_mem _ (zc8 w h))) rfl zt8_1 (List.mem_cons_of_mem _ zw1_81) rfl, List.forall_mem_cons.mpr ⟨zg_gp4 S (hK.2.1 11 _ rfl) (fun w h => (List.mem_cons_of_mem _ (zc11 w h))) rfl zt11_7 (List.mem_cons_of_mem _ zw2_60), fun _ h => absurd h List.not_mem_nil⟩⟩⟩⟩⟩⟩⟩⟩⟩⟩,
    List.forall_mem_cons.mpr ⟨zg_sokR (ci := 1) S (hK.2.2.2.1 (12, _) (List.mem_of_getElem? (i := 7) rfl)) (hK.2.2.2.2.2.1 _ (List.mem_of_getElem? (i := 1) rfl)) (hK.2.1 1 _ rfl).2.1 (by decide +kernel) (by decide +kernel), fun _ h => absurd h List.not_mem_nil⟩,
    List.forall_mem_cons.mpr ⟨zg_nokE (by decide +kernel) (zg_nok tyX1 S (hK.2.1 1 _ rfl) (fun w h => (List.mem_cons_of_mem _ (zc1 w h))) tyX1_ok (List.mem_cons_of_mem _ zw2_0) (List.mem_cons_of_mem _ zw3_208) (List.mem_cons_of_mem _ zw1_21) rfl (by decide +kernel)), fun _ h => absurd h List.not_mem_nil⟩,
    fun _ h => absurd h List.not_mem_nil,
    fun h => absurd rfl h,
    fun _ h => absurd h List.not_mem_nil,
    List.forall_mem_cons.mpr ⟨zg_callV (fun w h => List.mem_cons_of_mem _ h) zg_tb_all S hK zg_Km qm431 zw3_204 zy_yX4_hasName_V (ci := 4) (by decide +kernel) (hK.2.1 4 _ rfl).2.1 ⟨rfl, rfl⟩ (by decide +kernel), List.forall_mem_cons.mpr ⟨zg_callV (fun w h => List.mem_cons_of_mem _ h) zg_tb_all S hK zg_Km qm431 zw3_204 zy_yX4_hasName_V (ci := 4) (by decide +kernel) (hK.2.1 4 _ rfl).2.1 ⟨rfl, rfl⟩ (by decide +kernel), List.forall_mem_cons.mpr ⟨zg_callV (fun w h => List.mem_cons_of_mem _ h) zg_tb_all S hK zg_Km qm37 zw2_160 zy_yX2_faultOf_V (ci := 2) (by decide +kernel) (hK.2.1 2 _ rfl).2.1 ⟨rfl, rfl⟩ (by decide +kernel), List.forall_mem_cons.mpr ⟨zg_callI (fun w h => List.mem_cons_of_mem _ h) zg_tb_all S hK zg_Km qm432 zw3_209 zy_yX1_init_I rfl (ci := 1) (by decide +kernel) ⟨rfl, rfl⟩ (by decide +kernel), List.forall_mem_cons.mpr ⟨zg_callV (fun w h => List.mem_cons_of_mem _ h) zg_tb_all S hK zg_Km qm452 zw4_42 zy_yX2_see_V (ci := 2) (by decide +kernel) (hK.2.1 2 _ rfl).2.1 ⟨rfl, rfl⟩ (by decide +kernel), List.forall_mem_cons.mpr ⟨zg_callS (fun w h => List.mem_cons_of_mem _ h) zg_tb_all S hK zg_Km qm453 zw4_81 zy_yJ7_copyOf_c38d5_S (by decide +kernel) ⟨rfl, rfl⟩ (by decide +kernel), List.forall_mem_cons.mpr ⟨zg_callV (fun w h => List.mem_cons_of_mem _ h) zg_tb_all S hK zg_Km qm452 zw4_42 zy_yX2_see_V (ci := 2) (by decide +kernel) (hK.2.1 2 _ rfl).2.1 ⟨rfl, rfl⟩ (by decide +kernel), List.forall_mem_cons.mpr ⟨zg_callV (fun w h => List.mem_cons_of_mem _ h) zg_tb_all S hK zg_Km qm459 zw4_89 zy_yX11_takeWords_V (ci := 11) (by decide +kernel) (hK.2.1 11 _ rfl).2.1 ⟨rfl, rfl⟩ (by decide +kernel), fun _ h => absurd h List.not_mem_nil⟩⟩⟩⟩⟩⟩⟩⟩⟩
theorem qm460 {l : Launch} {D : zk_D} {base : Nat} {Hb : Heap} : zk_Met l qK D base Hb (zg_K D base Hb) yX11_write (Jvm.Cond.code yX11_write prog_1_method_15_code 6 (some .int) :: zg_tb) qR460 qC460 := zk_met (ws' := zg_tb) (P := qP460) (AT := zg_AT) (by decide +kernel) rfl rfl rfl qk460 (fun s hK => zg_wd hK) (fun p e s m args below meth c s₁ Q B hml hK => qo460 B hml hK) (fun p e s m args below meth c s₁ v G0 H0 B hml hK ha hp hF q hq => absurd hq List.not_mem_nil)
def qR461 : Room := { frames := 1, cells := 0, slots := 0, locals := 20 }
set_option maxHeartbeats 4000000 in
set_option maxRecDepth 100000 in
theorem qo461 {p : Program} {l : Launch} {e : Env} {s : State} {m : MethodId} {args : Array Value} {below : List Frame} {meth : Method} {c : Code} {s₁ : State} {Q : State → Prop} {D : zk_D} {base : Nat} {Hb : Heap} (B : BodyLoose p l yX12_in (headSpec (Jvm.Cond.code yX12_in prog_14_method_1_code 3 (some .boolean) :: zg_tb) qR461) prog_14_method_1_code 3 (some .boolean) e s m args below meth c s₁) (hml : c.maxLocals = 3) (hK : zg_K D base Hb s) : zk_ok p l e (headSpec (Jvm.Cond.code yX12_in prog_14_method_1_code 3 (some .boolean) :: zg_tb) qR461).room s m args below meth c Q qK D base Hb 3 prog_14_method_1_code qP461 qC461.2.2.2.2 := by
  have S : CallFix p m c prog_14_method_1_code 3 s args (Jvm.Cond.code yX12_in prog_14_method_1_code 3 (some .boolean) :: zg_tb) RX12 := ⟨B.exec, B.bytes, hml, findClass_of_methodNamed B.named, atoms_spec (ws := (Jvm.Cond.code yX12_in prog_14_method_1_code 3 (some .boolean) :: zg_tb)) B.pre⟩
  exact ⟨fun _ h => absurd h List.not_mem_nil,
    fun _ h => absurd h List.not_mem_nil,
    fun _ h => absurd h List.not_mem_nil,
    fun _ h => absurd h List.not_mem_nil,
    fun h => absurd rfl h,
    fun _ h => absurd h List.not_mem_nil,
    fun _ h => absurd h List.not_mem_nil⟩
theorem qm461 {l : Launch} {D : zk_D} {base : Nat} {Hb : Heap} : zk_Met l qK D base Hb (zg_K D base Hb) yX12_in (Jvm.Cond.code yX12_in prog_14_method_1_code 3 (some .boolean) :: zg_tb) qR461 qC461 := zk_met (ws' := zg_tb) (P := qP461) (AT := zg_AT) (by decide +kernel) rfl rfl rfl qk461 (fun s hK => zg_wd hK) (fun p e s m args below meth c s₁ Q B hml hK => qo461 B hml hK) (fun p e s m args below meth c s₁ v G0 H0 B hml hK ha hp hF q hq => absurd hq List.not_mem_nil)
def qR462 : Room := { frames := 2, cells := 0, slots := 0, locals := 42 }
set_option maxHeartbeats 4000000 in
set_option maxRecDepth 100000 in
theorem qo462 {p : Program} {l : Launch} {e : Env} {s : State} {m : MethodId} {args : Array Value} {below : List Frame} {meth : Method} {c : Code} {s₁ : State} {Q : State → Prop} {D : zk_D} {base : Nat} {Hb : Heap} (B : BodyLoose p l yX12_isName (headSpec (Jvm.Cond.code yX12_isName prog_14_method_5_code 2 (some .boolean) :: zg_tb) qR462) prog_14_method_5_code 2 (some .boolean) e s m args below meth c s₁) (hml : c.maxLocals = 2) (hK : zg_K D base Hb s) : zk_ok p l e (headSpec (Jvm.Cond.code yX12_isName prog_14_method_5_code 2 (some .boolean) :: zg_tb) qR462).room s m args below meth c Q qK D base Hb 2 prog_14_method_5_code qP462 qC462.2.2.2.2 := by
  have S : CallFix p m c prog_14_method_5_code 2 s args (Jvm.Cond.code yX12_isName prog_14_method_5_code 2 (some .boolean) :: zg_tb) RX12 := ⟨B.exec, B.bytes, hml, findClass_of_methodNamed B.named, atoms_spec (ws := (Jvm.Cond.code yX12_isName prog_14_method_5_code 2 (some .boolean) :: zg_tb)) B.pre⟩
  exact ⟨List.forall_mem_cons.mpr ⟨zg_gp S (hK.2.1 12 _ rfl) (fun w h => (List.mem_cons_of_mem _ (zc12 w h))) rfl zt12_7 (List.mem_cons_of_mem _ zw5_166) rfl, fun _ h => absurd h List.not_mem_nil⟩,
    fun _ h => absurd h List.not_mem_nil,
    fun _ h => absurd h List.not_mem_nil,
    fun _ h => absurd h List.not_mem_nil,
    fun h => absurd rfl h,
    fun _ h => absurd h List.not_mem_nil,
    List.forall_mem_cons.mpr ⟨zg_callS (fun w h => List.mem_cons_of_mem _ h) zg_tb_all S hK zg_Km qm461 zw6_145 zy_yX12_in_S (by decide +kernel) ⟨rfl, rfl⟩ (by decide +kernel), fun _ h => absurd h List.not_mem_nil⟩⟩
theorem qm462 {l : Launch} {D : zk_D} {base : Nat} {Hb : Heap} : zk_Met l qK D base Hb (zg_K D base Hb) yX12_isName (Jvm.Cond.code yX12_isName prog_14_method_5_code 2 (some .boolean) :: zg_tb) qR462 qC462 := zk_met (ws' := zg_tb) (P := qP462) (AT := zg_AT) (by decide +kernel) rfl rfl rfl qk462 (fun s hK => zg_wd hK) (fun p e s m args below meth c s₁ Q B hml hK => qo462 B hml hK) (fun p e s m args below meth c s₁ v G0 H0 B hml hK ha hp hF q hq => absurd hq List.not_mem_nil)
def qR463 : Room := { frames := 1, cells := 0, slots := 0, locals := 20 }
set_option maxHeartbeats 4000000 in
set_option maxRecDepth 100000 in
theorem qo463 {p : Program} {l : Launch} {e : Env} {s : State} {m : MethodId} {args : Array Value} {below : List Frame} {meth : Method} {c : Code} {s₁ : State} {Q : State → Prop} {D : zk_D} {base : Nat} {Hb : Heap} (B : BodyLoose p l yX12_in (headSpec (Jvm.Cond.code yX12_in prog_14_method_1_code 3 (some .boolean) :: zg_tb) qR463) prog_14_method_1_code 3 (some .boolean) e s m args below meth c s₁) (hml : c.maxLocals = 3) (hK : zg_K D base Hb s) : zk_ok p l e (headSpec (Jvm.Cond.code yX12_in prog_14_method_1_code 3 (some .boolean) :: zg_tb) qR463).room s m args below meth c Q qK D base Hb 3 prog_14_method_1_code qP463 qC463.2.2.2.2 := by
  have S : CallFix p m c prog_14_method_1_code 3 s args (Jvm.Cond.code yX12_in prog_14_method_1_code 3 (some .boolean) :: zg_tb) RX12 := ⟨B.exec, B.bytes, hml, findClass_of_methodNamed B.named, atoms_spec (ws := (Jvm.Cond.code yX12_in prog_14_method_1_code 3 (some .boolean) :: zg_tb)) B.pre⟩
  exact ⟨fun _ h => absurd h List.not_mem_nil,
    fun _ h => absurd h List.not_mem_nil,
    fun _ h => absurd h List.not_mem_nil,
    fun _ h => absurd h List.not_mem_nil,
    fun h => absurd rfl h,
    fun _ h => absurd h List.not_mem_nil,
    fun _ h => absurd h List.not_mem_nil⟩
theorem qm463 {l : Launch} {D : zk_D} {base : Nat} {Hb : Heap} : zk_Met l qK D base Hb (zg_K D base Hb) yX12_in (Jvm.Cond.code yX12_in prog_14_method_1_code 3 (some .boolean) :: zg_tb) qR463 qC463 := zk_met (ws' := zg_tb) (P := qP463) (AT := zg_AT) (by decide +kernel) rfl rfl rfl qk463 (fun s hK => zg_wd hK) (fun p e s m args below meth c s₁ Q B hml hK => qo463 B hml hK) (fun p e s m args below meth c s₁ v G0 H0 B hml hK ha hp hF q hq => absurd hq List.not_mem_nil)
def qR464 : Room := { frames := 2, cells := 0, slots := 0, locals := 40 }
set_option maxHeartbeats 4000000 in
set_option maxRecDepth 100000 in
theorem qo464 {p : Program} {l : Launch} {e : Env} {s : State} {m : MethodId} {args : Array Value} {below : List Frame} {meth : Method} {c : Code} {s₁ : State} {Q : State → Prop} {D : zk_D} {base : Nat} {Hb : Heap} (B : BodyLoose p l yX12_codeOf (headSpec (Jvm.Cond.code yX12_codeOf prog_14_method_53_code 1 (some .int) :: zg_tb) qR464) prog_14_method_53_code 1 (some .int) e s m args below meth c s₁) (hml : c.maxLocals = 1) (hK : zg_K D base Hb s) : zk_ok p l e (headSpec (Jvm.Cond.code yX12_codeOf prog_14_method_53_code 1 (some .int) :: zg_tb) qR464).room s m args below meth c Q qK D base Hb 1 prog_14_method_53_code qP464 qC464.2.2.2.2 := by
  have S : CallFix p m c prog_14_method_53_code 1 s args (Jvm.Cond.code yX12_codeOf prog_14_method_53_code 1 (some .int) :: zg_tb) RX12 := ⟨B.exec, B.bytes, hml, findClass_of_methodNamed B.named, atoms_spec (ws := (Jvm.Cond.code yX12_codeOf prog_14_method_53_code 1 (some .int) :: zg_tb)) B.pre⟩
  exact ⟨fun _ h => absurd h List.not_mem_nil,
    fun _ h => absurd h List.not_mem_nil,
    fun _ h => absurd h List.not_mem_nil,
    fun _ h => absurd h List.not_mem_nil,
    fun h => absurd rfl h,
    fun _ h => absurd h List.not_mem_nil,
    List.forall_mem_cons.mpr ⟨zg_callS (fun w h => List.mem_cons_of_mem _ h) zg_tb_all S hK zg_Km qm171 zw6_210 zy_yX12_isFigure_S (by decide +kernel) ⟨rfl, rfl⟩ (by decide +kernel), fun _ h => absurd h List.not_mem_nil⟩⟩
theorem qm464 {l : Launch} {D : zk_D} {base : Nat} {Hb : Heap} : zk_Met l qK D base Hb (zg_K D base Hb) yX12_codeOf (Jvm.Cond.code yX12_codeOf prog_14_method_53_code 1 (some .int) :: zg_tb) qR464 qC464 := zk_met (ws' := zg_tb) (P := qP464) (AT := zg_AT) (by decide +kernel) rfl rfl rfl qk464 (fun s hK => zg_wd hK) (fun p e s m args below meth c s₁ Q B hml hK => qo464 B hml hK) (fun p e s m args below meth c s₁ v G0 H0 B hml hK ha hp hF q hq => absurd hq List.not_mem_nil)
def qR465 : Room := { frames := 3, cells := 0, slots := 0, locals := 60 }
set_option maxHeartbeats 4000000 in
set_option maxRecDepth 100000 in
theorem qo465 {p : Program} {l : Launch} {e : Env} {s : State} {m : MethodId} {args : Array Value} {below : List Frame} {meth : Method} {c : Code} {s₁ : State} {Q : State → Prop} {D : zk_D} {base : Nat} {Hb : Heap} (B : BodyLoose p l yX12_cutUp (headSpec (Jvm.Cond.code yX12_cutUp prog_14_method_54_code 7 (some .int) :: zg_tb) qR465) prog_14_method_54_code 7 (some .int) e s m args below meth c s₁) (hml : c.maxLocals = 7) (hK : zg_K D base Hb s) : zk_ok p l e (headSpec (Jvm.Cond.code yX12_cutUp prog_14_method_54_code 7 (some .int) :: zg_tb) qR465).room s m args below meth c Q qK D base Hb 7 prog_14_method_54_code qP465 qC465.2.2.2.2 := by
  have S : CallFix p m c prog_14_method_54_code 7 s args (Jvm.Cond.code yX12_cutUp prog_14_method_54_code 7 (some .int) :: zg_tb) RX12 := ⟨B.exec, B.bytes, hml, findClass_of_methodNamed B.named, atoms_spec (ws := (Jvm.Cond.code yX12_cutUp prog_14_method_54_code 7 (some .int) :: zg_tb)) B.pre⟩
  exact ⟨fun _ h => absurd h List.not_mem_nil,
    fun _ h => absurd h List.not_mem_nil,
    fun _ h => absurd h List.not_mem_nil,
    fun _ h => absurd h List.not_mem_nil,
    fun h => absurd rfl h,
    List.forall_mem_cons.mpr ⟨zg_kokL S (List.mem_cons_of_mem _ zw7_72) (by decide +kernel) (by decide +kernel), fun _ h => absurd h List.not_mem_nil⟩,
    List.forall_mem_cons.mpr ⟨zg_callS (fun w h => List.mem_cons_of_mem _ h) zg_tb_all S hK zg_Km qm172 zw6_207 zy_yX12_isWord_S (by decide +kernel) ⟨rfl, rfl⟩ (by decide +kernel), List.forall_mem_cons.mpr ⟨zg_callS (fun w h => List.mem_cons_of_mem _ h) zg_tb_all S hK zg_Km qm464 zw7_73 zy_yX12_codeOf_S (by decide +kernel) ⟨rfl, rfl⟩ (by decide +kernel), fun _ h => absurd h List.not_mem_nil⟩⟩⟩
theorem qm465 {l : Launch} {D : zk_D} {base : Nat} {Hb : Heap} : zk_Met l qK D base Hb (zg_K D base Hb) yX12_cutUp (Jvm.Cond.code yX12_cutUp prog_14_method_54_code 7 (some .int) :: zg_tb) qR465 qC465 := zk_met (ws' := zg_tb) (P := qP465) (AT := zg_AT) (by decide +kernel) rfl rfl rfl qk465 (fun s hK => zg_wd hK) (fun p e s m args below meth c s₁ Q B hml hK => qo465 B hml hK) (fun p e s m args below meth c s₁ v G0 H0 B hml hK ha hp hF q hq => absurd hq List.not_mem_nil)
def qR466 : Room := { frames := 3, cells := 0, slots := 0, locals := 60 }
set_option maxHeartbeats 4000000 in
set_option maxRecDepth 100000 in
theorem qo466 {p : Program} {l : Launch} {e : Env} {s : State} {m : MethodId} {args : Array Value} {below : List Frame} {meth : Method} {c : Code} {s₁ : State} {Q : State → Prop} {D : zk_D} {base : Nat} {Hb : Heap} (B : BodyLoose p l yX12_cutUp (headSpec (Jvm.Cond.code yX12_cutUp prog_14_method_54_code 7 (some .int) :: zg_tb) qR466) prog_14_method_54_code 7 (some .int) e s m args below meth c s₁) (hml : c.maxLocals = 7) (hK : zg_K D base Hb s) : zk_ok p l e (headSpec (Jvm.Cond.code yX12_cutUp prog_14_method_54_code 7 (some .int) :: zg_tb) qR466).room s m args below meth c Q qK D base Hb 7 prog_14_method_54_code qP466 qC466.2.2.2.2 := by
  have S : CallFix p m c prog_14_method_54_code 7 s args (Jvm.Cond.code yX12_cutUp prog_14_method_54_code 7 (some .int) :: zg_tb) RX12 := ⟨B.exec, B.bytes, hml, findClass_of_methodNamed B.named, atoms_spec (ws := (Jvm.Cond.code yX12_cutUp prog_14_method_54_code 7 (some .int) :: zg_tb)) B.pre⟩
  exact ⟨fun _ h => absurd h List.not_mem_nil,
    fun _ h => absurd h List.not_mem_nil,
    fun _ h => absurd h List.not_mem_nil,
    fun _ h => absurd h List.not_mem_nil,
    fun h => absurd rfl h,
    List.forall_mem_cons.mpr ⟨zg_kokL S (List.mem_cons_of_mem _ zw7_72) (by decide +kernel) (by decide +kernel), fun _ h => absurd h List.not_mem_nil⟩,
    List.forall_mem_cons.mpr ⟨zg_callS (fun w h => List.mem_cons_of_mem _ h) zg_tb_all S hK zg_Km qm172 zw6_207 zy_yX12_isWord_S (by decide +kernel) ⟨rfl, rfl⟩ (by decide +kernel), List.forall_mem_cons.mpr ⟨zg_callS (fun w h => List.mem_cons_of_mem _ h) zg_tb_all S hK zg_Km qm464 zw7_73 zy_yX12_codeOf_S (by decide +kernel) ⟨rfl, rfl⟩ (by decide +kernel), fun _ h => absurd h List.not_mem_nil⟩⟩⟩
theorem qm466 {l : Launch} {D : zk_D} {base : Nat} {Hb : Heap} : zk_Met l qK D base Hb (zg_K D base Hb) yX12_cutUp (Jvm.Cond.code yX12_cutUp prog_14_method_54_code 7 (some .int) :: zg_tb) qR466 qC466 := zk_met (ws' := zg_tb) (P := qP466) (AT := zg_AT) (by decide +kernel) rfl rfl rfl qk466 (fun s hK => zg_wd hK) (fun p e s m args below meth c s₁ Q B hml hK => qo466 B hml hK) (fun p e s m args below meth c s₁ v G0 H0 B hml hK ha hp hF q hq => absurd hq List.not_mem_nil)
def qR467 : Room := { frames := 18, cells := 0, slots := 0, locals := 371 }
set_option maxHeartbeats 4000000 in
set_option maxRecDepth 100000 in
theorem qo467 {p : Program} {l : Launch} {e : Env} {s : State} {m : MethodId} {args : Array Value} {below : List Frame} {meth : Method} {c : Code} {s₁ : State} {Q : State → Prop} {D : zk_D} {base : Nat} {Hb : Heap} (B : BodyLoose p l yX12_write (headSpec (Jvm.Cond.code yX12_write prog_14_method_55_code 6 (some .int) :: zg_tb) qR467) prog_14_method_55_code 6 (some .int) e s m args below meth c s₁) (hml : c.maxLocals = 6) (hK : zg_K D base Hb s) : zk_ok p l e (headSpec (Jvm.Cond.code yX12_write prog_14_method_55_code 6 (some .int) :: zg_tb) qR467).room s m args below meth c Q qK D base Hb 6 prog_14_method_55_code qP467 qC467.2.2.2.2 := by
  have S : CallFix p m c prog_14_method_55_code 6 s args (Jvm.Cond.code yX12_write prog_14_method_55_code 6 (some .int) :: zg_tb) RX12 := ⟨B.exec, B.bytes, hml, findClass_of_methodNamed B.named, atoms_spec (ws := (Jvm.Cond.code yX12_write prog_14_method_55_code 6 (some .int) :: zg_tb)) B.pre⟩
  exact ⟨List.forall_mem_cons.mpr ⟨zg_gp S (hK.2.1 12 _ rfl) (fun w h => (List.mem_cons_of_mem _ (zc12 w h))) rfl zt12_44 (List.mem_cons_of_mem _ zw5_203) rfl, List.forall_mem_cons.mpr ⟨zg_gp4 S (hK.2.1 12 _ rfl) (fun w h => (List.mem_cons_of_mem _ (zc12 w h))) rfl zt12_33 (List.mem_cons_of_mem _ zw5_192), List.forall_mem_cons.mpr ⟨zg_gp4 S (hK.2.1 12 _ rfl) (fun w h => (List.mem_cons_of_mem _ (zc12 w h))) rfl zt12_13 (List.mem_cons_of_mem _ zw5_172), List.forall_mem_cons.mpr ⟨zg_gp S (hK.2.1 12 _ rfl) (fun w h => (List.mem_cons_of_mem _ (zc12 w h))) rfl zt12_15 (List.mem_cons_of_mem _ zw5_174) rfl, List.forall_mem_cons.mpr ⟨zg_gp4 S (hK.2.1 12 _ rfl) (fun w h => (List.mem_cons_of_mem _ (zc12 w h))) rfl zt12_31 (List.mem_cons_of_mem _ zw5_190), List.forall_mem_cons.mpr ⟨zg_gp4 S (hK.2.1 12 _ rfl) (fun w h => (List.mem_cons_of_mem _ (zc12 w h))) rfl zt12_34 (List.mem_cons_of_mem _ zw5_193), List.forall_mem_cons.mpr ⟨zg_gp4 S (hK.2.1 12 _ rfl) (fun w h => (List.mem_cons_of_mem _ (zc12 w h))) rfl zt12_14 (List.mem_cons_of_mem _ zw5_173), List.forall_mem_cons.mpr ⟨zg_gp S (hK.2.1 12 _ rfl) (fun w h => (List.mem_cons_of_mem _ (zc12 w h))) rfl zt12_16 (List.mem_cons_of_mem _ zw5_175) rfl, List.forall_mem_cons.mpr ⟨zg_gp4 S (hK.2.1 12 _ rfl) (fun w h => (List.mem_cons_of_mem _ (zc12 w h))) rfl zt12_32 (List.mem_cons_of_mem _ zw5_191), List.forall_mem_cons.mpr ⟨zg_gp4 S (hK.2.1 12 _ rfl) (fun w h => (List.mem_cons_of_mem _ (zc12 w h))) rfl zt12_35 (List.mem_cons_of_mem _ zw5_194), List.forall_mem_cons.mpr ⟨zg_gp4 S (hK.2.1 12 _ rfl) (fun w h => (List.mem_cons_of_mem _ (zc12 w h))) rfl zt12_36 (List.mem_cons_of_mem _ zw5_195), List.forall_mem_cons.mpr ⟨zg_gp4 S (hK.2.1 12 _ rfl) (fun w h => (List.mem_cons_of_mem _ (zc12 w h))) rfl zt12_37 (List.mem_cons_of_mem _ zw5_196), List.forall_mem_cons.mpr ⟨zg_gp4 S (hK.2.1 12 _ rfl) (fun w h => (List.mem_cons_of_mem _ (zc12 w h))) rfl zt12_38 (List.mem_cons_of_mem _ zw5_197), List.forall_mem_cons.mpr ⟨zg_gp4 S (hK.2.1 12 _ rfl) (fun w h => (List.mem_cons_of_mem _ (zc12 w h))) rfl zt12_39 (List.mem_cons_of_mem _ zw5_198), List.forall_mem_cons.mpr ⟨zg_gp S (hK.2.1 12 _ rfl) (fun w h => (List.mem_cons_of_mem _ (zc12 w h))) rfl zt12_0 (List.mem_cons_of_mem _ zw5_159) rfl, List.forall_mem_cons.mpr ⟨zg_gp4 S (hK.2.1 12 _ rfl) (fun w h => (List.mem_cons_of_mem _ (zc12 w h))) rfl zt12_42 (List.mem_cons_of_mem _ zw5_201), List.forall_mem_cons.mpr ⟨zg_gp4 S (hK.2.1 12 _ rfl) (fun w h => (List.mem_cons_of_mem _ (zc12 w h))) rfl zt12_43 (List.mem_cons_of_mem _ zw5_202), List.forall_mem_cons.mpr ⟨zg_gp S (hK.2.1 12 _ rfl) (fun w h => (List.mem_cons_of_mem _ (zc12 w h))) rfl zt12_9 (List.mem_cons_of_mem _ zw5_168) rfl, fun _ h => absurd h List.not_mem_nil⟩⟩⟩⟩⟩⟩⟩⟩⟩⟩⟩⟩⟩⟩⟩⟩⟩⟩,
    fun _ h => absurd h List.not_mem_nil,
    fun _ h => absurd h List.not_mem_nil,
    fun _ h => absurd h List.not_mem_nil,
    fun h => absurd rfl h,
    fun _ h => absurd h List.not_mem_nil,
    List.forall_mem_cons.mpr ⟨zg_callV (fun w h => List.mem_cons_of_mem _ h) zg_tb_all S hK zg_Km qm462 zw6_160 zy_yX12_isName_V (ci := 12) (by decide +kernel) (hK.2.1 12 _ rfl).2.1 ⟨rfl, rfl⟩ (by decide +kernel), List.forall_mem_cons.mpr ⟨zg_callV (fun w h => List.mem_cons_of_mem _ h) zg_tb_all S hK zg_Km qm462 zw6_160 zy_yX12_isName_V (ci := 12) (by decide +kernel) (hK.2.1 12 _ rfl).2.1 ⟨rfl, rfl⟩ (by decide +kernel), List.forall_mem_cons.mpr ⟨zg_callS (fun w h => List.mem_cons_of_mem _ h) zg_tb_all S hK zg_Km qm463 zw6_145 zy_yX12_in_S (by decide +kernel) ⟨rfl, rfl⟩ (by decide +kernel), List.forall_mem_cons.mpr ⟨zg_callV (fun w h => List.mem_cons_of_mem _ h) zg_tb_all S hK zg_Km qm194 zw6_179 zy_yX12_textFault_V (ci := 12) (by decide +kernel) (hK.2.1 12 _ rfl).2.1 ⟨rfl, rfl⟩ (by decide +kernel), List.forall_mem_cons.mpr ⟨zg_callS (fun w h => List.mem_cons_of_mem _ h) zg_tb_all S hK zg_Km qm465 zw7_69 zy_yX12_cutUp_S (by decide +kernel) ⟨rfl, rfl⟩ (by decide +kernel), List.forall_mem_cons.mpr ⟨zg_callS (fun w h => List.mem_cons_of_mem _ h) zg_tb_all S hK zg_Km qm466 zw7_69 zy_yX12_cutUp_S (by decide +kernel) ⟨rfl, rfl⟩ (by decide +kernel), fun _ h => absurd h List.not_mem_nil⟩⟩⟩⟩⟩⟩⟩
theorem qm467 {l : Launch} {D : zk_D} {base : Nat} {Hb : Heap} : zk_Met l qK D base Hb (zg_K D base Hb) yX12_write (Jvm.Cond.code yX12_write prog_14_method_55_code 6 (some .int) :: zg_tb) qR467 qC467 := zk_met (ws' := zg_tb) (P := qP467) (AT := zg_AT) (by decide +kernel) rfl rfl rfl qk467 (fun s hK => zg_wd hK) (fun p e s m args below meth c s₁ Q B hml hK => qo467 B hml hK) (fun p e s m args below meth c s₁ v G0 H0 B hml hK ha hp hF q hq => absurd hq List.not_mem_nil)
def qR468 : Room := { frames := 1, cells := 0, slots := 0, locals := 20 }
set_option maxHeartbeats 4000000 in
set_option maxRecDepth 100000 in
theorem qo468 {p : Program} {l : Launch} {e : Env} {s : State} {m : MethodId} {args : Array Value} {below : List Frame} {meth : Method} {c : Code} {s₁ : State} {Q : State → Prop} {D : zk_D} {base : Nat} {Hb : Heap} (B : BodyLoose p l yX11_letterAt (headSpec (Jvm.Cond.code yX11_letterAt prog_1_method_42_code 2 (some (.object "UnaskedLetters$Letter")) :: zg_tb) qR468) prog_1_method_42_code 2 (some (.object "UnaskedLetters$Letter")) e s m args below meth c s₁) (hml : c.maxLocals = 2) (hK : zg_K D base Hb s) : zk_ok p l e (headSpec (Jvm.Cond.code yX11_letterAt prog_1_method_42_code 2 (some (.object "UnaskedLetters$Letter")) :: zg_tb) qR468).room s m args below meth c Q qK D base Hb 2 prog_1_method_42_code qP468 qC468.2.2.2.2 := by
  have S : CallFix p m c prog_1_method_42_code 2 s args (Jvm.Cond.code yX11_letterAt prog_1_method_42_code 2 (some (.object "UnaskedLetters$Letter")) :: zg_tb) RX11 := ⟨B.exec, B.bytes, hml, findClass_of_methodNamed B.named, atoms_spec (ws := (Jvm.Cond.code yX11_letterAt prog_1_method_42_code 2 (some (.object "UnaskedLetters$Letter")) :: zg_tb)) B.pre⟩
  exact ⟨List.forall_mem_cons.mpr ⟨zg_gp S (hK.2.1 11 _ rfl) (fun w h => (List.mem_cons_of_mem _ (zc11 w h))) rfl zt11_15 (List.mem_cons_of_mem _ zw2_68) rfl, List.forall_mem_cons.mpr ⟨zg_gp4 S (hK.2.1 11 _ rfl) (fun w h => (List.mem_cons_of_mem _ (zc11 w h))) rfl zt11_7 (List.mem_cons_of_mem _ zw2_60), fun _ h => absurd h List.not_mem_nil⟩⟩,
    fun _ h => absurd h List.not_mem_nil,
    fun _ h => absurd h List.not_mem_nil,
    fun _ h => absurd h List.not_mem_nil,
    fun h => absurd rfl h,
    fun _ h => absurd h List.not_mem_nil,
    fun _ h => absurd h List.not_mem_nil⟩
theorem qm468 {l : Launch} {D : zk_D} {base : Nat} {Hb : Heap} : zk_Met l qK D base Hb (zg_K D base Hb) yX11_letterAt (Jvm.Cond.code yX11_letterAt prog_1_method_42_code 2 (some (.object "UnaskedLetters$Letter")) :: zg_tb) qR468 qC468 := zk_met (ws' := zg_tb) (P := qP468) (AT := zg_AT) (by decide +kernel) rfl rfl rfl qk468 (fun s hK => zg_wd hK) (fun p e s m args below meth c s₁ Q B hml hK => qo468 B hml hK) (fun p e s m args below meth c s₁ v G0 H0 B hml hK ha hp hF q hq => absurd hq List.not_mem_nil)
def qR469 : Room := { frames := 2, cells := 0, slots := 0, locals := 41 }
set_option maxHeartbeats 4000000 in
set_option maxRecDepth 100000 in
theorem qo469 {p : Program} {l : Launch} {e : Env} {s : State} {m : MethodId} {args : Array Value} {below : List Frame} {meth : Method} {c : Code} {s₁ : State} {Q : State → Prop} {D : zk_D} {base : Nat} {Hb : Heap} (B : BodyLoose p l yX11_words (headSpec (Jvm.Cond.code yX11_words prog_1_method_16_code 4 (some .int) :: zg_tb) qR469) prog_1_method_16_code 4 (some .int) e s m args below meth c s₁) (hml : c.maxLocals = 4) (hK : zg_K D base Hb s) : zk_ok p l e (headSpec (Jvm.Cond.code yX11_words prog_1_method_16_code 4 (some .int) :: zg_tb) qR469).room s m args below meth c Q qK D base Hb 4 prog_1_method_16_code qP469 qC469.2.2.2.2 := by
  have S : CallFix p m c prog_1_method_16_code 4 s args (Jvm.Cond.code yX11_words prog_1_method_16_code 4 (some .int) :: zg_tb) RX11 := ⟨B.exec, B.bytes, hml, findClass_of_methodNamed B.named, atoms_spec (ws := (Jvm.Cond.code yX11_words prog_1_method_16_code 4 (some .int) :: zg_tb)) B.pre⟩
  exact ⟨List.forall_mem_cons.mpr ⟨zg_gp S (hK.2.1 1 _ rfl) (fun w h => (List.mem_cons_of_mem _ (zc1 w h))) rfl zt1_9 (List.mem_cons_of_mem _ zw3_231) rfl, List.forall_mem_cons.mpr ⟨zg_gp S (hK.2.1 1 _ rfl) (fun w h => (List.mem_cons_of_mem _ (zc1 w h))) rfl zt1_10 (List.mem_cons_of_mem _ zw3_233) rfl, fun _ h => absurd h List.not_mem_nil⟩⟩,
    fun _ h => absurd h List.not_mem_nil,
    fun _ h => absurd h List.not_mem_nil,
    fun _ h => absurd h List.not_mem_nil,
    fun h => absurd rfl h,
    fun _ h => absurd h List.not_mem_nil,
    List.forall_mem_cons.mpr ⟨zg_callV (fun w h => List.mem_cons_of_mem _ h) zg_tb_all S hK zg_Km qm468 zw4_142 zy_yX11_letterAt_V (ci := 11) (by decide +kernel) (hK.2.1 11 _ rfl).2.1 ⟨rfl, rfl⟩ (by decide +kernel), fun _ h => absurd h List.not_mem_nil⟩⟩
theorem qm469 {l : Launch} {D : zk_D} {base : Nat} {Hb : Heap} : zk_Met l qK D base Hb (zg_K D base Hb) yX11_words (Jvm.Cond.code yX11_words prog_1_method_16_code 4 (some .int) :: zg_tb) qR469 qC469 := zk_met (ws' := zg_tb) (P := qP469) (AT := zg_AT) (by decide +kernel) rfl rfl rfl qk469 (fun s hK => zg_wd hK) (fun p e s m args below meth c s₁ Q B hml hK => qo469 B hml hK) (fun p e s m args below meth c s₁ v G0 H0 B hml hK ha hp hF q hq => absurd hq List.not_mem_nil)
def qR470 : Room := { frames := 1, cells := 0, slots := 0, locals := 20 }
set_option maxHeartbeats 4000000 in
set_option maxRecDepth 100000 in
theorem qo470 {p : Program} {l : Launch} {e : Env} {s : State} {m : MethodId} {args : Array Value} {below : List Frame} {meth : Method} {c : Code} {s₁ : State} {Q : State → Prop} {D : zk_D} {base : Nat} {Hb : Heap} (B : BodyLoose p l yX12_in (headSpec (Jvm.Cond.code yX12_in prog_14_method_1_code 3 (some .boolean) :: zg_tb) qR470) prog_14_method_1_code 3 (some .boolean) e s m args below meth c s₁) (hml : c.maxLocals = 3) (hK : zg_K D base Hb s) : zk_ok p l e (headSpec (Jvm.Cond.code yX12_in prog_14_method_1_code 3 (some .boolean) :: zg_tb) qR470).room s m args below meth c Q qK D base Hb 3 prog_14_method_1_code qP470 qC470.2.2.2.2 := by
  have S : CallFix p m c prog_14_method_1_code 3 s args (Jvm.Cond.code yX12_in prog_14_method_1_code 3 (some .boolean) :: zg_tb) RX12 := ⟨B.exec, B.bytes, hml, findClass_of_methodNamed B.named, atoms_spec (ws := (Jvm.Cond.code yX12_in prog_14_method_1_code 3 (some .boolean) :: zg_tb)) B.pre⟩
  exact ⟨fun _ h => absurd h List.not_mem_nil,
    fun _ h => absurd h List.not_mem_nil,
    fun _ h => absurd h List.not_mem_nil,
    fun _ h => absurd h List.not_mem_nil,
    fun h => absurd rfl h,
    fun _ h => absurd h List.not_mem_nil,
    fun _ h => absurd h List.not_mem_nil⟩
theorem qm470 {l : Launch} {D : zk_D} {base : Nat} {Hb : Heap} : zk_Met l qK D base Hb (zg_K D base Hb) yX12_in (Jvm.Cond.code yX12_in prog_14_method_1_code 3 (some .boolean) :: zg_tb) qR470 qC470 := zk_met (ws' := zg_tb) (P := qP470) (AT := zg_AT) (by decide +kernel) rfl rfl rfl qk470 (fun s hK => zg_wd hK) (fun p e s m args below meth c s₁ Q B hml hK => qo470 B hml hK) (fun p e s m args below meth c s₁ v G0 H0 B hml hK ha hp hF q hq => absurd hq List.not_mem_nil)
def qR471 : Room := { frames := 2, cells := 0, slots := 0, locals := 42 }
set_option maxHeartbeats 4000000 in
set_option maxRecDepth 100000 in
theorem qo471 {p : Program} {l : Launch} {e : Env} {s : State} {m : MethodId} {args : Array Value} {below : List Frame} {meth : Method} {c : Code} {s₁ : State} {Q : State → Prop} {D : zk_D} {base : Nat} {Hb : Heap} (B : BodyLoose p l yX12_isLetter (headSpec (Jvm.Cond.code yX12_isLetter prog_14_method_52_code 2 (some .boolean) :: zg_tb) qR471) prog_14_method_52_code 2 (some .boolean) e s m args below meth c s₁) (hml : c.maxLocals = 2) (hK : zg_K D base Hb s) : zk_ok p l e (headSpec (Jvm.Cond.code yX12_isLetter prog_14_method_52_code 2 (some .boolean) :: zg_tb) qR471).room s m args below meth c Q qK D base Hb 2 prog_14_method_52_code qP471 qC471.2.2.2.2 := by
  have S : CallFix p m c prog_14_method_52_code 2 s args (Jvm.Cond.code yX12_isLetter prog_14_method_52_code 2 (some .boolean) :: zg_tb) RX12 := ⟨B.exec, B.bytes, hml, findClass_of_methodNamed B.named, atoms_spec (ws := (Jvm.Cond.code yX12_isLetter prog_14_method_52_code 2 (some .boolean) :: zg_tb)) B.pre⟩
  exact ⟨List.forall_mem_cons.mpr ⟨zg_gp S (hK.2.1 12 _ rfl) (fun w h => (List.mem_cons_of_mem _ (zc12 w h))) rfl zt12_44 (List.mem_cons_of_mem _ zw5_203) rfl, fun _ h => absurd h List.not_mem_nil⟩,
    fun _ h => absurd h List.not_mem_nil,
    fun _ h => absurd h List.not_mem_nil,
    fun _ h => absurd h List.not_mem_nil,
    fun h => absurd rfl h,
    fun _ h => absurd h List.not_mem_nil,
    List.forall_mem_cons.mpr ⟨zg_callS (fun w h => List.mem_cons_of_mem _ h) zg_tb_all S hK zg_Km qm470 zw6_145 zy_yX12_in_S (by decide +kernel) ⟨rfl, rfl⟩ (by decide +kernel), fun _ h => absurd h List.not_mem_nil⟩⟩
theorem qm471 {l : Launch} {D : zk_D} {base : Nat} {Hb : Heap} : zk_Met l qK D base Hb (zg_K D base Hb) yX12_isLetter (Jvm.Cond.code yX12_isLetter prog_14_method_52_code 2 (some .boolean) :: zg_tb) qR471 qC471 := zk_met (ws' := zg_tb) (P := qP471) (AT := zg_AT) (by decide +kernel) rfl rfl rfl qk471 (fun s hK => zg_wd hK) (fun p e s m args below meth c s₁ Q B hml hK => qo471 B hml hK) (fun p e s m args below meth c s₁ v G0 H0 B hml hK ha hp hF q hq => absurd hq List.not_mem_nil)
def qR472 : Room := { frames := 1, cells := 0, slots := 0, locals := 20 }
set_option maxHeartbeats 4000000 in
set_option maxRecDepth 100000 in
theorem qo472 {p : Program} {l : Launch} {e : Env} {s : State} {m : MethodId} {args : Array Value} {below : List Frame} {meth : Method} {c : Code} {s₁ : State} {Q : State → Prop} {D : zk_D} {base : Nat} {Hb : Heap} (B : BodyLoose p l yX12_in (headSpec (Jvm.Cond.code yX12_in prog_14_method_1_code 3 (some .boolean) :: zg_tb) qR472) prog_14_method_1_code 3 (some .boolean) e s m args below meth c s₁) (hml : c.maxLocals = 3) (hK : zg_K D base Hb s) : zk_ok p l e (headSpec (Jvm.Cond.code yX12_in prog_14_method_1_code 3 (some .boolean) :: zg_tb) qR472).room s m args below meth c Q qK D base Hb 3 prog_14_method_1_code qP472 qC472.2.2.2.2 := by
  have S : CallFix p m c prog_14_method_1_code 3 s args (Jvm.Cond.code yX12_in prog_14_method_1_code 3 (some .boolean) :: zg_tb) RX12 := ⟨B.exec, B.bytes, hml, findClass_of_methodNamed B.named, atoms_spec (ws := (Jvm.Cond.code yX12_in prog_14_method_1_code 3 (some .boolean) :: zg_tb)) B.pre⟩
  exact ⟨fun _ h => absurd h List.not_mem_nil,
    fun _ h => absurd h List.not_mem_nil,
    fun _ h => absurd h List.not_mem_nil,
    fun _ h => absurd h List.not_mem_nil,
    fun h => absurd rfl h,
    fun _ h => absurd h List.not_mem_nil,
    fun _ h => absurd h List.not_mem_nil⟩
theorem qm472 {l : Launch} {D : zk_D} {base : Nat} {Hb : Heap} : zk_Met l qK D base Hb (zg_K D base Hb) yX12_in (Jvm.Cond.code yX12_in prog_14_method_1_code 3 (some .boolean) :: zg_tb) qR472 qC472 := zk_met (ws' := zg_tb) (P := qP472) (AT := zg_AT) (by decide +kernel) rfl rfl rfl qk472 (fun s hK => zg_wd hK) (fun p e s m args below meth c s₁ Q B hml hK => qo472 B hml hK) (fun p e s m args below meth c s₁ v G0 H0 B hml hK ha hp hF q hq => absurd hq List.not_mem_nil)
def qR473 : Room := { frames := 3, cells := 0, slots := 0, locals := 63 }
set_option maxHeartbeats 4000000 in
set_option maxRecDepth 100000 in
theorem qo473 {p : Program} {l : Launch} {e : Env} {s : State} {m : MethodId} {args : Array Value} {below : List Frame} {meth : Method} {c : Code} {s₁ : State} {Q : State → Prop} {D : zk_D} {base : Nat} {Hb : Heap} (B : BodyLoose p l yX12_words (headSpec (Jvm.Cond.code yX12_words prog_14_method_56_code 3 (some .int) :: zg_tb) qR473) prog_14_method_56_code 3 (some .int) e s m args below meth c s₁) (hml : c.maxLocals = 3) (hK : zg_K D base Hb s) : zk_ok p l e (headSpec (Jvm.Cond.code yX12_words prog_14_method_56_code 3 (some .int) :: zg_tb) qR473).room s m args below meth c Q qK D base Hb 3 prog_14_method_56_code qP473 qC473.2.2.2.2 := by
  have S : CallFix p m c prog_14_method_56_code 3 s args (Jvm.Cond.code yX12_words prog_14_method_56_code 3 (some .int) :: zg_tb) RX12 := ⟨B.exec, B.bytes, hml, findClass_of_methodNamed B.named, atoms_spec (ws := (Jvm.Cond.code yX12_words prog_14_method_56_code 3 (some .int) :: zg_tb)) B.pre⟩
  exact ⟨List.forall_mem_cons.mpr ⟨zg_gp4 S (hK.2.1 12 _ rfl) (fun w h => (List.mem_cons_of_mem _ (zc12 w h))) rfl zt12_33 (List.mem_cons_of_mem _ zw5_192), List.forall_mem_cons.mpr ⟨zg_gp4 S (hK.2.1 12 _ rfl) (fun w h => (List.mem_cons_of_mem _ (zc12 w h))) rfl zt12_34 (List.mem_cons_of_mem _ zw5_193), fun _ h => absurd h List.not_mem_nil⟩⟩,
    fun _ h => absurd h List.not_mem_nil,
    fun _ h => absurd h List.not_mem_nil,
    fun _ h => absurd h List.not_mem_nil,
    fun h => absurd rfl h,
    fun _ h => absurd h List.not_mem_nil,
    List.forall_mem_cons.mpr ⟨zg_callV (fun w h => List.mem_cons_of_mem _ h) zg_tb_all S hK zg_Km qm471 zw7_80 zy_yX12_isLetter_V (ci := 12) (by decide +kernel) (hK.2.1 12 _ rfl).2.1 ⟨rfl, rfl⟩ (by decide +kernel), List.forall_mem_cons.mpr ⟨zg_callS (fun w h => List.mem_cons_of_mem _ h) zg_tb_all S hK zg_Km qm472 zw6_145 zy_yX12_in_S (by decide +kernel) ⟨rfl, rfl⟩ (by decide +kernel), fun _ h => absurd h List.not_mem_nil⟩⟩⟩
theorem qm473 {l : Launch} {D : zk_D} {base : Nat} {Hb : Heap} : zk_Met l qK D base Hb (zg_K D base Hb) yX12_words (Jvm.Cond.code yX12_words prog_14_method_56_code 3 (some .int) :: zg_tb) qR473 qC473 := zk_met (ws' := zg_tb) (P := qP473) (AT := zg_AT) (by decide +kernel) rfl rfl rfl qk473 (fun s hK => zg_wd hK) (fun p e s m args below meth c s₁ Q B hml hK => qo473 B hml hK) (fun p e s m args below meth c s₁ v G0 H0 B hml hK ha hp hF q hq => absurd hq List.not_mem_nil)
def qR474 : Room := { frames := 1, cells := 0, slots := 0, locals := 20 }
set_option maxHeartbeats 4000000 in
set_option maxRecDepth 100000 in
theorem qo474 {p : Program} {l : Launch} {e : Env} {s : State} {m : MethodId} {args : Array Value} {below : List Frame} {meth : Method} {c : Code} {s₁ : State} {Q : State → Prop} {D : zk_D} {base : Nat} {Hb : Heap} (B : BodyLoose p l yX9_byteOf (headSpec (Jvm.Cond.code yX9_byteOf prog_11_method_5_code 7 (some .int) :: zg_tb) qR474) prog_11_method_5_code 7 (some .int) e s m args below meth c s₁) (hml : c.maxLocals = 7) (hK : zg_K D base Hb s) : zk_ok p l e (headSpec (Jvm.Cond.code yX9_byteOf prog_11_method_5_code 7 (some .int) :: zg_tb) qR474).room s m args below meth c Q qK D base Hb 7 prog_11_method_5_code qP474 qC474.2.2.2.2 := by
  have S : CallFix p m c prog_11_method_5_code 7 s args (Jvm.Cond.code yX9_byteOf prog_11_method_5_code 7 (some .int) :: zg_tb) RX9 := ⟨B.exec, B.bytes, hml, findClass_of_methodNamed B.named, atoms_spec (ws := (Jvm.Cond.code yX9_byteOf prog_11_method_5_code 7 (some .int) :: zg_tb)) B.pre⟩
  exact ⟨fun _ h => absurd h List.not_mem_nil,
    fun _ h => absurd h List.not_mem_nil,
    fun _ h => absurd h List.not_mem_nil,
    fun _ h => absurd h List.not_mem_nil,
    fun h => absurd rfl h,
    List.forall_mem_cons.mpr ⟨zg_kokL S (List.mem_cons_of_mem _ zw4_53) (by decide +kernel) (by decide +kernel), List.forall_mem_cons.mpr ⟨zg_kokL S (List.mem_cons_of_mem _ zw4_53) (by decide +kernel) (by decide +kernel), List.forall_mem_cons.mpr ⟨zg_kokL S (List.mem_cons_of_mem _ zw4_53) (by decide +kernel) (by decide +kernel), fun _ h => absurd h List.not_mem_nil⟩⟩⟩,
    fun _ h => absurd h List.not_mem_nil⟩
theorem qm474 {l : Launch} {D : zk_D} {base : Nat} {Hb : Heap} : zk_Met l qK D base Hb (zg_K D base Hb) yX9_byteOf (Jvm.Cond.code yX9_byteOf prog_11_method_5_code 7 (some .int) :: zg_tb) qR474 qC474 := zk_met (ws' := zg_tb) (P := qP474) (AT := zg_AT) (by decide +kernel) rfl rfl rfl qk474 (fun s hK => zg_wd hK) (fun p e s m args below meth c s₁ Q B hml hK => qo474 B hml hK) (fun p e s m args below meth c s₁ v G0 H0 B hml hK ha hp hF q hq => absurd hq List.not_mem_nil)
def qR475 : Room := { frames := 2, cells := 0, slots := 0, locals := 46 }
set_option maxHeartbeats 4000000 in
set_option maxRecDepth 100000 in
theorem qo475 {p : Program} {l : Launch} {e : Env} {s : State} {m : MethodId} {args : Array Value} {below : List Frame} {meth : Method} {c : Code} {s₁ : State} {Q : State → Prop} {D : zk_D} {base : Nat} {Hb : Heap} (B : BodyLoose p l yX11_read (headSpec (Jvm.Cond.code yX11_read prog_1_method_17_code 6 (some .int) :: zg_tb) qR475) prog_1_method_17_code 6 (some .int) e s m args below meth c s₁) (hml : c.maxLocals = 6) (hK : zg_K D base Hb s) : zk_ok p l e (headSpec (Jvm.Cond.code yX11_read prog_1_method_17_code 6 (some .int) :: zg_tb) qR475).room s m args below meth c Q qK D base Hb 6 prog_1_method_17_code qP475 qC475.2.2.2.2 := by
  have S : CallFix p m c prog_1_method_17_code 6 s args (Jvm.Cond.code yX11_read prog_1_method_17_code 6 (some .int) :: zg_tb) RX11 := ⟨B.exec, B.bytes, hml, findClass_of_methodNamed B.named, atoms_spec (ws := (Jvm.Cond.code yX11_read prog_1_method_17_code 6 (some .int) :: zg_tb)) B.pre⟩
  exact ⟨List.forall_mem_cons.mpr ⟨zg_gp S (hK.2.1 1 _ rfl) (fun w h => (List.mem_cons_of_mem _ (zc1 w h))) rfl zt1_9 (List.mem_cons_of_mem _ zw3_231) rfl, List.forall_mem_cons.mpr ⟨zg_gp S (hK.2.1 1 _ rfl) (fun w h => (List.mem_cons_of_mem _ (zc1 w h))) rfl zt1_10 (List.mem_cons_of_mem _ zw3_233) rfl, List.forall_mem_cons.mpr ⟨zg_gp4 S (hK.2.1 9 _ rfl) (fun w h => (List.mem_cons_of_mem _ (zc9 w h))) rfl zt9_0 (List.mem_cons_of_mem _ zw4_114), fun _ h => absurd h List.not_mem_nil⟩⟩⟩,
    fun _ h => absurd h List.not_mem_nil,
    fun _ h => absurd h List.not_mem_nil,
    fun _ h => absurd h List.not_mem_nil,
    fun h => absurd rfl h,
    fun _ h => absurd h List.not_mem_nil,
    List.forall_mem_cons.mpr ⟨zg_callV (fun w h => List.mem_cons_of_mem _ h) zg_tb_all S hK zg_Km qm468 zw4_142 zy_yX11_letterAt_V (ci := 11) (by decide +kernel) (hK.2.1 11 _ rfl).2.1 ⟨rfl, rfl⟩ (by decide +kernel), List.forall_mem_cons.mpr ⟨zg_callS (fun w h => List.mem_cons_of_mem _ h) zg_tb_all S hK zg_Km qm474 zw4_150 zy_yX9_byteOf_S (by decide +kernel) ⟨rfl, rfl⟩ (by decide +kernel), List.forall_mem_cons.mpr ⟨zg_callS (fun w h => List.mem_cons_of_mem _ h) zg_tb_all S hK zg_Km qm474 zw4_150 zy_yX9_byteOf_S (by decide +kernel) ⟨rfl, rfl⟩ (by decide +kernel), fun _ h => absurd h List.not_mem_nil⟩⟩⟩⟩
theorem qm475 {l : Launch} {D : zk_D} {base : Nat} {Hb : Heap} : zk_Met l qK D base Hb (zg_K D base Hb) yX11_read (Jvm.Cond.code yX11_read prog_1_method_17_code 6 (some .int) :: zg_tb) qR475 qC475 := zk_met (ws' := zg_tb) (P := qP475) (AT := zg_AT) (by decide +kernel) rfl rfl rfl qk475 (fun s hK => zg_wd hK) (fun p e s m args below meth c s₁ Q B hml hK => qo475 B hml hK) (fun p e s m args below meth c s₁ v G0 H0 B hml hK ha hp hF q hq => absurd hq List.not_mem_nil)
def qR476 : Room := { frames := 1, cells := 0, slots := 0, locals := 20 }
set_option maxHeartbeats 4000000 in
set_option maxRecDepth 100000 in
theorem qo476 {p : Program} {l : Launch} {e : Env} {s : State} {m : MethodId} {args : Array Value} {below : List Frame} {meth : Method} {c : Code} {s₁ : State} {Q : State → Prop} {D : zk_D} {base : Nat} {Hb : Heap} (B : BodyLoose p l yX12_in (headSpec (Jvm.Cond.code yX12_in prog_14_method_1_code 3 (some .boolean) :: zg_tb) qR476) prog_14_method_1_code 3 (some .boolean) e s m args below meth c s₁) (hml : c.maxLocals = 3) (hK : zg_K D base Hb s) : zk_ok p l e (headSpec (Jvm.Cond.code yX12_in prog_14_method_1_code 3 (some .boolean) :: zg_tb) qR476).room s m args below meth c Q qK D base Hb 3 prog_14_method_1_code qP476 qC476.2.2.2.2 := by
  have S : CallFix p m c prog_14_method_1_code 3 s args (Jvm.Cond.code yX12_in prog_14_method_1_code 3 (some .boolean) :: zg_tb) RX12 := ⟨B.exec, B.bytes, hml, findClass_of_methodNamed B.named, atoms_spec (ws := (Jvm.Cond.code yX12_in prog_14_method_1_code 3 (some .boolean) :: zg_tb)) B.pre⟩
  exact ⟨fun _ h => absurd h List.not_mem_nil,
    fun _ h => absurd h List.not_mem_nil,
    fun _ h => absurd h List.not_mem_nil,
    fun _ h => absurd h List.not_mem_nil,
    fun h => absurd rfl h,
    fun _ h => absurd h List.not_mem_nil,
    fun _ h => absurd h List.not_mem_nil⟩
theorem qm476 {l : Launch} {D : zk_D} {base : Nat} {Hb : Heap} : zk_Met l qK D base Hb (zg_K D base Hb) yX12_in (Jvm.Cond.code yX12_in prog_14_method_1_code 3 (some .boolean) :: zg_tb) qR476 qC476 := zk_met (ws' := zg_tb) (P := qP476) (AT := zg_AT) (by decide +kernel) rfl rfl rfl qk476 (fun s hK => zg_wd hK) (fun p e s m args below meth c s₁ Q B hml hK => qo476 B hml hK) (fun p e s m args below meth c s₁ v G0 H0 B hml hK ha hp hF q hq => absurd hq List.not_mem_nil)
def qR477 : Room := { frames := 1, cells := 0, slots := 0, locals := 20 }
set_option maxHeartbeats 4000000 in
set_option maxRecDepth 100000 in
theorem qo477 {p : Program} {l : Launch} {e : Env} {s : State} {m : MethodId} {args : Array Value} {below : List Frame} {meth : Method} {c : Code} {s₁ : State} {Q : State → Prop} {D : zk_D} {base : Nat} {Hb : Heap} (B : BodyLoose p l yX12_wordAt (headSpec (Jvm.Cond.code yX12_wordAt prog_14_method_57_code 4 (some .long) :: zg_tb) qR477) prog_14_method_57_code 4 (some .long) e s m args below meth c s₁) (hml : c.maxLocals = 4) (hK : zg_K D base Hb s) : zk_ok p l e (headSpec (Jvm.Cond.code yX12_wordAt prog_14_method_57_code 4 (some .long) :: zg_tb) qR477).room s m args below meth c Q qK D base Hb 4 prog_14_method_57_code qP477 qC477.2.2.2.2 := by
  have S : CallFix p m c prog_14_method_57_code 4 s args (Jvm.Cond.code yX12_wordAt prog_14_method_57_code 4 (some .long) :: zg_tb) RX12 := ⟨B.exec, B.bytes, hml, findClass_of_methodNamed B.named, atoms_spec (ws := (Jvm.Cond.code yX12_wordAt prog_14_method_57_code 4 (some .long) :: zg_tb)) B.pre⟩
  exact ⟨List.forall_mem_cons.mpr ⟨zg_gp4 S (hK.2.1 12 _ rfl) (fun w h => (List.mem_cons_of_mem _ (zc12 w h))) rfl zt12_31 (List.mem_cons_of_mem _ zw5_190), List.forall_mem_cons.mpr ⟨zg_gp4 S (hK.2.1 12 _ rfl) (fun w h => (List.mem_cons_of_mem _ (zc12 w h))) rfl zt12_32 (List.mem_cons_of_mem _ zw5_191), fun _ h => absurd h List.not_mem_nil⟩⟩,
    fun _ h => absurd h List.not_mem_nil,
    fun _ h => absurd h List.not_mem_nil,
    fun _ h => absurd h List.not_mem_nil,
    fun h => absurd rfl h,
    fun _ h => absurd h List.not_mem_nil,
    fun _ h => absurd h List.not_mem_nil⟩
theorem qm477 {l : Launch} {D : zk_D} {base : Nat} {Hb : Heap} : zk_Met l qK D base Hb (zg_K D base Hb) yX12_wordAt (Jvm.Cond.code yX12_wordAt prog_14_method_57_code 4 (some .long) :: zg_tb) qR477 qC477 := zk_met (ws' := zg_tb) (P := qP477) (AT := zg_AT) (by decide +kernel) rfl rfl rfl qk477 (fun s hK => zg_wd hK) (fun p e s m args below meth c s₁ Q B hml hK => qo477 B hml hK) (fun p e s m args below meth c s₁ v G0 H0 B hml hK ha hp hF q hq => absurd hq List.not_mem_nil)
def qR478 : Room := { frames := 4, cells := 0, slots := 0, locals := 85 }
set_option maxHeartbeats 4000000 in
set_option maxRecDepth 100000 in
theorem qo478 {p : Program} {l : Launch} {e : Env} {s : State} {m : MethodId} {args : Array Value} {below : List Frame} {meth : Method} {c : Code} {s₁ : State} {Q : State → Prop} {D : zk_D} {base : Nat} {Hb : Heap} (B : BodyLoose p l yX12_read (headSpec (Jvm.Cond.code yX12_read prog_14_method_58_code 10 (some .int) :: zg_tb) qR478) prog_14_method_58_code 10 (some .int) e s m args below meth c s₁) (hml : c.maxLocals = 10) (hK : zg_K D base Hb s) : zk_ok p l e (headSpec (Jvm.Cond.code yX12_read prog_14_method_58_code 10 (some .int) :: zg_tb) qR478).room s m args below meth c Q qK D base Hb 10 prog_14_method_58_code qP478 qC478.2.2.2.2 := by
  have S : CallFix p m c prog_14_method_58_code 10 s args (Jvm.Cond.code yX12_read prog_14_method_58_code 10 (some .int) :: zg_tb) RX12 := ⟨B.exec, B.bytes, hml, findClass_of_methodNamed B.named, atoms_spec (ws := (Jvm.Cond.code yX12_read prog_14_method_58_code 10 (some .int) :: zg_tb)) B.pre⟩
  exact ⟨fun _ h => absurd h List.not_mem_nil,
    fun _ h => absurd h List.not_mem_nil,
    fun _ h => absurd h List.not_mem_nil,
    fun _ h => absurd h List.not_mem_nil,
    fun h => absurd rfl h,
    List.forall_mem_cons.mpr ⟨zg_kokL S (List.mem_cons_of_mem _ zw7_72) (by decide +kernel) (by decide +kernel), List.forall_mem_cons.mpr ⟨zg_kokL S (List.mem_cons_of_mem _ zw7_72) (by decide +kernel) (by decide +kernel), List.forall_mem_cons.mpr ⟨zg_kokL S (List.mem_cons_of_mem _ zw7_72) (by decide +kernel) (by decide +kernel), fun _ h => absurd h List.not_mem_nil⟩⟩⟩,
    List.forall_mem_cons.mpr ⟨zg_callV (fun w h => List.mem_cons_of_mem _ h) zg_tb_all S hK zg_Km qm473 zw7_88 zy_yX12_words_V (ci := 12) (by decide +kernel) (hK.2.1 12 _ rfl).2.1 ⟨rfl, rfl⟩ (by decide +kernel), List.forall_mem_cons.mpr ⟨zg_callS (fun w h => List.mem_cons_of_mem _ h) zg_tb_all S hK zg_Km qm476 zw6_145 zy_yX12_in_S (by decide +kernel) ⟨rfl, rfl⟩ (by decide +kernel), List.forall_mem_cons.mpr ⟨zg_callV (fun w h => List.mem_cons_of_mem _ h) zg_tb_all S hK zg_Km qm477 zw7_89 zy_yX12_wordAt_V (ci := 12) (by decide +kernel) (hK.2.1 12 _ rfl).2.1 ⟨rfl, rfl⟩ (by decide +kernel), fun _ h => absurd h List.not_mem_nil⟩⟩⟩⟩
theorem qm478 {l : Launch} {D : zk_D} {base : Nat} {Hb : Heap} : zk_Met l qK D base Hb (zg_K D base Hb) yX12_read (Jvm.Cond.code yX12_read prog_14_method_58_code 10 (some .int) :: zg_tb) qR478 qC478 := zk_met (ws' := zg_tb) (P := qP478) (AT := zg_AT) (by decide +kernel) rfl rfl rfl qk478 (fun s hK => zg_wd hK) (fun p e s m args below meth c s₁ Q B hml hK => qo478 B hml hK) (fun p e s m args below meth c s₁ v G0 H0 B hml hK ha hp hF q hq => absurd hq List.not_mem_nil)
def qR479 : Room := { frames := 1, cells := 0, slots := 0, locals := 20 }
set_option maxHeartbeats 4000000 in
set_option maxRecDepth 100000 in
theorem qo479 {p : Program} {l : Launch} {e : Env} {s : State} {m : MethodId} {args : Array Value} {below : List Frame} {meth : Method} {c : Code} {s₁ : State} {Q : State → Prop} {D : zk_D} {base : Nat} {Hb : Heap} (B : BodyLoose p l yJ9_min_7cf53 (headSpec (Jvm.Cond.code yJ9_min_7cf53 prog_18_method_69_code 2 (some .int) :: zg_tb) qR479) prog_18_method_69_code 2 (some .int) e s m args below meth c s₁) (hml : c.maxLocals = 2) (hK : zg_K D base Hb s) : zk_ok p l e (headSpec (Jvm.Cond.code yJ9_min_7cf53 prog_18_method_69_code 2 (some .int) :: zg_tb) qR479).room s m args below meth c Q qK D base Hb 2 prog_18_method_69_code qP479 qC479.2.2.2.2 := by
  have S : CallFix p m c prog_18_method_69_code 2 s args (Jvm.Cond.code yJ9_min_7cf53 prog_18_method_69_code 2 (some .int) :: zg_tb) RJ9 := ⟨B.exec, B.bytes, hml, findClass_of_methodNamed B.named, atoms_spec (ws := (Jvm.Cond.code yJ9_min_7cf53 prog_18_method_69_code 2 (some .int) :: zg_tb)) B.pre⟩
  exact ⟨fun _ h => absurd h List.not_mem_nil,
    fun _ h => absurd h List.not_mem_nil,
    fun _ h => absurd h List.not_mem_nil,
    fun _ h => absurd h List.not_mem_nil,
    fun h => absurd rfl h,
    fun _ h => absurd h List.not_mem_nil,
    fun _ h => absurd h List.not_mem_nil⟩
theorem qm479 {l : Launch} {D : zk_D} {base : Nat} {Hb : Heap} : zk_Met l qK D base Hb (zg_K D base Hb) yJ9_min_7cf53 (Jvm.Cond.code yJ9_min_7cf53 prog_18_method_69_code 2 (some .int) :: zg_tb) qR479 qC479 := zk_metF (ws' := zg_tb) (P := qP479) (AT := zg_AT) (by decide +kernel) rfl rfl rfl qk479 (fun s hK => zg_wd hK) (fun p e s m args below meth c s₁ Q B hml hK => qo479 B hml hK) (fun p e s m args below meth c s₁ v G0 H0 B hml hK ha hp hF q hq => absurd hq List.not_mem_nil)
def qR480 : Room := { frames := 2, cells := 0, slots := 0, locals := 41 }
set_option maxHeartbeats 4000000 in
set_option maxRecDepth 100000 in
theorem qo480 {p : Program} {l : Launch} {e : Env} {s : State} {m : MethodId} {args : Array Value} {below : List Frame} {meth : Method} {c : Code} {s₁ : State} {Q : State → Prop} {D : zk_D} {base : Nat} {Hb : Heap} (B : BodyLoose p l yX11_unlike (headSpec (Jvm.Cond.code yX11_unlike prog_1_method_18_code 5 (some .int) :: zg_tb) qR480) prog_1_method_18_code 5 (some .int) e s m args below meth c s₁) (hml : c.maxLocals = 5) (hK : zg_K D base Hb s) : zk_ok p l e (headSpec (Jvm.Cond.code yX11_unlike prog_1_method_18_code 5 (some .int) :: zg_tb) qR480).room s m args below meth c Q qK D base Hb 5 prog_1_method_18_code qP480 qC480.2.2.2.2 := by
  have S : CallFix p m c prog_1_method_18_code 5 s args (Jvm.Cond.code yX11_unlike prog_1_method_18_code 5 (some .int) :: zg_tb) RX11 := ⟨B.exec, B.bytes, hml, findClass_of_methodNamed B.named, atoms_spec (ws := (Jvm.Cond.code yX11_unlike prog_1_method_18_code 5 (some .int) :: zg_tb)) B.pre⟩
  exact ⟨List.forall_mem_cons.mpr ⟨zg_gp S (hK.2.1 1 _ rfl) (fun w h => (List.mem_cons_of_mem _ (zc1 w h))) rfl zt1_9 (List.mem_cons_of_mem _ zw3_231) rfl, List.forall_mem_cons.mpr ⟨zg_gp S (hK.2.1 1 _ rfl) (fun w h => (List.mem_cons_of_mem _ (zc1 w h))) rfl zt1_10 (List.mem_cons_of_mem _ zw3_233) rfl, List.forall_mem_cons.mpr ⟨zg_gp4 S (hK.2.1 9 _ rfl) (fun w h => (List.mem_cons_of_mem _ (zc9 w h))) rfl zt9_0 (List.mem_cons_of_mem _ zw4_114), fun _ h => absurd h List.not_mem_nil⟩⟩⟩,
    fun _ h => absurd h List.not_mem_nil,
    fun _ h => absurd h List.not_mem_nil,
    fun _ h => absurd h List.not_mem_nil,
    fun h => absurd rfl h,
    fun _ h => absurd h List.not_mem_nil,
    List.forall_mem_cons.mpr ⟨zg_callV (fun w h => List.mem_cons_of_mem _ h) zg_tb_all S hK zg_Km qm468 zw4_142 zy_yX11_letterAt_V (ci := 11) (by decide +kernel) (hK.2.1 11 _ rfl).2.1 ⟨rfl, rfl⟩ (by decide +kernel), List.forall_mem_cons.mpr ⟨zg_callS (fun w h => List.mem_cons_of_mem _ h) zg_tb_all S hK zg_Km qm479 zw3_147 zy_yJ9_min_7cf53_S (by decide +kernel) ⟨rfl, rfl⟩ (by decide +kernel), fun _ h => absurd h List.not_mem_nil⟩⟩⟩
theorem qm480 {l : Launch} {D : zk_D} {base : Nat} {Hb : Heap} : zk_Met l qK D base Hb (zg_K D base Hb) yX11_unlike (Jvm.Cond.code yX11_unlike prog_1_method_18_code 5 (some .int) :: zg_tb) qR480 qC480 := zk_met (ws' := zg_tb) (P := qP480) (AT := zg_AT) (by decide +kernel) rfl rfl rfl qk480 (fun s hK => zg_wd hK) (fun p e s m args below meth c s₁ Q B hml hK => qo480 B hml hK) (fun p e s m args below meth c s₁ v G0 H0 B hml hK ha hp hF q hq => absurd hq List.not_mem_nil)
def qR481 : Room := { frames := 1, cells := 0, slots := 0, locals := 20 }
set_option maxHeartbeats 4000000 in
set_option maxRecDepth 100000 in
theorem qo481 {p : Program} {l : Launch} {e : Env} {s : State} {m : MethodId} {args : Array Value} {below : List Frame} {meth : Method} {c : Code} {s₁ : State} {Q : State → Prop} {D : zk_D} {base : Nat} {Hb : Heap} (B : BodyLoose p l yJ9_min_7cf53 (headSpec (Jvm.Cond.code yJ9_min_7cf53 prog_18_method_69_code 2 (some .int) :: zg_tb) qR481) prog_18_method_69_code 2 (some .int) e s m args below meth c s₁) (hml : c.maxLocals = 2) (hK : zg_K D base Hb s) : zk_ok p l e (headSpec (Jvm.Cond.code yJ9_min_7cf53 prog_18_method_69_code 2 (some .int) :: zg_tb) qR481).room s m args below meth c Q qK D base Hb 2 prog_18_method_69_code qP481 qC481.2.2.2.2 := by
  have S : CallFix p m c prog_18_method_69_code 2 s args (Jvm.Cond.code yJ9_min_7cf53 prog_18_method_69_code 2 (some .int) :: zg_tb) RJ9 := ⟨B.exec, B.bytes, hml, findClass_of_methodNamed B.named, atoms_spec (ws := (Jvm.Cond.code yJ9_min_7cf53 prog_18_method_69_code 2 (some .int) :: zg_tb)) B.pre⟩
  exact ⟨fun _ h => absurd h List.not_mem_nil,
    fun _ h => absurd h List.not_mem_nil,
    fun _ h => absurd h List.not_mem_nil,
    fun _ h => absurd h List.not_mem_nil,
    fun h => absurd rfl h,
    fun _ h => absurd h List.not_mem_nil,
    fun _ h => absurd h List.not_mem_nil⟩
theorem qm481 {l : Launch} {D : zk_D} {base : Nat} {Hb : Heap} : zk_Met l qK D base Hb (zg_K D base Hb) yJ9_min_7cf53 (Jvm.Cond.code yJ9_min_7cf53 prog_18_method_69_code 2 (some .int) :: zg_tb) qR481 qC481 := zk_metF (ws' := zg_tb) (P := qP481) (AT := zg_AT) (by decide +kernel) rfl rfl rfl qk481 (fun s hK => zg_wd hK) (fun p e s m args below meth c s₁ Q B hml hK => qo481 B hml hK) (fun p e s m args below meth c s₁ v G0 H0 B hml hK ha hp hF q hq => absurd hq List.not_mem_nil)
def qR482 : Room := { frames := 3, cells := 0, slots := 0, locals := 63 }
set_option maxHeartbeats 4000000 in
set_option maxRecDepth 100000 in
theorem qo482 {p : Program} {l : Launch} {e : Env} {s : State} {m : MethodId} {args : Array Value} {below : List Frame} {meth : Method} {c : Code} {s₁ : State} {Q : State → Prop} {D : zk_D} {base : Nat} {Hb : Heap} (B : BodyLoose p l yX12_unlike (headSpec (Jvm.Cond.code yX12_unlike prog_14_method_59_code 4 (some .int) :: zg_tb) qR482) prog_14_method_59_code 4 (some .int) e s m args below meth c s₁) (hml : c.maxLocals = 4) (hK : zg_K D base Hb s) : zk_ok p l e (headSpec (Jvm.Cond.code yX12_unlike prog_14_method_59_code 4 (some .int) :: zg_tb) qR482).room s m args below meth c Q qK D base Hb 4 prog_14_method_59_code qP482 qC482.2.2.2.2 := by
  have S : CallFix p m c prog_14_method_59_code 4 s args (Jvm.Cond.code yX12_unlike prog_14_method_59_code 4 (some .int) :: zg_tb) RX12 := ⟨B.exec, B.bytes, hml, findClass_of_methodNamed B.named, atoms_spec (ws := (Jvm.Cond.code yX12_unlike prog_14_method_59_code 4 (some .int) :: zg_tb)) B.pre⟩
  exact ⟨List.forall_mem_cons.mpr ⟨zg_gp4 S (hK.2.1 12 _ rfl) (fun w h => (List.mem_cons_of_mem _ (zc12 w h))) rfl zt12_33 (List.mem_cons_of_mem _ zw5_192), List.forall_mem_cons.mpr ⟨zg_gp4 S (hK.2.1 12 _ rfl) (fun w h => (List.mem_cons_of_mem _ (zc12 w h))) rfl zt12_34 (List.mem_cons_of_mem _ zw5_193), fun _ h => absurd h List.not_mem_nil⟩⟩,
    fun _ h => absurd h List.not_mem_nil,
    fun _ h => absurd h List.not_mem_nil,
    fun _ h => absurd h List.not_mem_nil,
    fun h => absurd rfl h,
    fun _ h => absurd h List.not_mem_nil,
    List.forall_mem_cons.mpr ⟨zg_callV (fun w h => List.mem_cons_of_mem _ h) zg_tb_all S hK zg_Km qm471 zw7_80 zy_yX12_isLetter_V (ci := 12) (by decide +kernel) (hK.2.1 12 _ rfl).2.1 ⟨rfl, rfl⟩ (by decide +kernel), List.forall_mem_cons.mpr ⟨zg_callS (fun w h => List.mem_cons_of_mem _ h) zg_tb_all S hK zg_Km qm481 zw7_97 zy_yJ9_min_7cf53_S (by decide +kernel) ⟨rfl, rfl⟩ (by decide +kernel), List.forall_mem_cons.mpr ⟨zg_callV (fun w h => List.mem_cons_of_mem _ h) zg_tb_all S hK zg_Km qm477 zw7_89 zy_yX12_wordAt_V (ci := 12) (by decide +kernel) (hK.2.1 12 _ rfl).2.1 ⟨rfl, rfl⟩ (by decide +kernel), List.forall_mem_cons.mpr ⟨zg_callV (fun w h => List.mem_cons_of_mem _ h) zg_tb_all S hK zg_Km qm477 zw7_89 zy_yX12_wordAt_V (ci := 12) (by decide +kernel) (hK.2.1 12 _ rfl).2.1 ⟨rfl, rfl⟩ (by decide +kernel), fun _ h => absurd h List.not_mem_nil⟩⟩⟩⟩⟩
theorem qm482 {l : Launch} {D : zk_D} {base : Nat} {Hb : Heap} : zk_Met l qK D base Hb (zg_K D base Hb) yX12_unlike (Jvm.Cond.code yX12_unlike prog_14_method_59_code 4 (some .int) :: zg_tb) qR482 qC482 := zk_met (ws' := zg_tb) (P := qP482) (AT := zg_AT) (by decide +kernel) rfl rfl rfl qk482 (fun s hK => zg_wd hK) (fun p e s m args below meth c s₁ Q B hml hK => qo482 B hml hK) (fun p e s m args below meth c s₁ v G0 H0 B hml hK ha hp hF q hq => absurd hq List.not_mem_nil)
def qR483 : Room := { frames := 2, cells := 0, slots := 0, locals := 41 }
set_option maxHeartbeats 4000000 in
set_option maxRecDepth 100000 in
theorem qo483 {p : Program} {l : Launch} {e : Env} {s : State} {m : MethodId} {args : Array Value} {below : List Frame} {meth : Method} {c : Code} {s₁ : State} {Q : State → Prop} {D : zk_D} {base : Nat} {Hb : Heap} (B : BodyLoose p l yX11_letter (headSpec (Jvm.Cond.code yX11_letter prog_1_method_19_code 4 (some .int) :: zg_tb) qR483) prog_1_method_19_code 4 (some .int) e s m args below meth c s₁) (hml : c.maxLocals = 4) (hK : zg_K D base Hb s) : zk_ok p l e (headSpec (Jvm.Cond.code yX11_letter prog_1_method_19_code 4 (some .int) :: zg_tb) qR483).room s m args below meth c Q qK D base Hb 4 prog_1_method_19_code qP483 qC483.2.2.2.2 := by
  have S : CallFix p m c prog_1_method_19_code 4 s args (Jvm.Cond.code yX11_letter prog_1_method_19_code 4 (some .int) :: zg_tb) RX11 := ⟨B.exec, B.bytes, hml, findClass_of_methodNamed B.named, atoms_spec (ws := (Jvm.Cond.code yX11_letter prog_1_method_19_code 4 (some .int) :: zg_tb)) B.pre⟩
  exact ⟨List.forall_mem_cons.mpr ⟨zg_gp S (hK.2.1 1 _ rfl) (fun w h => (List.mem_cons_of_mem _ (zc1 w h))) rfl zt1_5 (List.mem_cons_of_mem _ zw3_224) rfl, List.forall_mem_cons.mpr ⟨zg_gp S (hK.2.1 1 _ rfl) (fun w h => (List.mem_cons_of_mem _ (zc1 w h))) rfl zt1_6 (List.mem_cons_of_mem _ zw3_226) rfl, List.forall_mem_cons.mpr ⟨zg_gp S (hK.2.1 1 _ rfl) (fun w h => (List.mem_cons_of_mem _ (zc1 w h))) rfl zt1_7 (List.mem_cons_of_mem _ zw3_228) rfl, List.forall_mem_cons.mpr ⟨zg_gp4 S (hK.2.1 1 _ rfl) (fun w h => (List.mem_cons_of_mem _ (zc1 w h))) rfl zt1_4 (List.mem_cons_of_mem _ zw3_222), List.forall_mem_cons.mpr ⟨zg_gp4 S (hK.2.1 1 _ rfl) (fun w h => (List.mem_cons_of_mem _ (zc1 w h))) rfl zt1_0 (List.mem_cons_of_mem _ zw3_214), List.forall_mem_cons.mpr ⟨zg_gp4 S (hK.2.1 1 _ rfl) (fun w h => (List.mem_cons_of_mem _ (zc1 w h))) rfl zt1_1 (List.mem_cons_of_mem _ zw3_216), fun _ h => absurd h List.not_mem_nil⟩⟩⟩⟩⟩⟩,
    fun _ h => absurd h List.not_mem_nil,
    fun _ h => absurd h List.not_mem_nil,
    fun _ h => absurd h List.not_mem_nil,
    fun h => absurd rfl h,
    fun _ h => absurd h List.not_mem_nil,
    List.forall_mem_cons.mpr ⟨zg_callV (fun w h => List.mem_cons_of_mem _ h) zg_tb_all S hK zg_Km qm468 zw4_142 zy_yX11_letterAt_V (ci := 11) (by decide +kernel) (hK.2.1 11 _ rfl).2.1 ⟨rfl, rfl⟩ (by decide +kernel), fun _ h => absurd h List.not_mem_nil⟩⟩
theorem qm483 {l : Launch} {D : zk_D} {base : Nat} {Hb : Heap} : zk_Met l qK D base Hb (zg_K D base Hb) yX11_letter (Jvm.Cond.code yX11_letter prog_1_method_19_code 4 (some .int) :: zg_tb) qR483 qC483 := zk_met (ws' := zg_tb) (P := qP483) (AT := zg_AT) (by decide +kernel) rfl rfl rfl qk483 (fun s hK => zg_wd hK) (fun p e s m args below meth c s₁ Q B hml hK => qo483 B hml hK) (fun p e s m args below meth c s₁ v G0 H0 B hml hK ha hp hF q hq => absurd hq List.not_mem_nil)
def qR484 : Room := { frames := 3, cells := 0, slots := 0, locals := 63 }
set_option maxHeartbeats 4000000 in
set_option maxRecDepth 100000 in
theorem qo484 {p : Program} {l : Launch} {e : Env} {s : State} {m : MethodId} {args : Array Value} {below : List Frame} {meth : Method} {c : Code} {s₁ : State} {Q : State → Prop} {D : zk_D} {base : Nat} {Hb : Heap} (B : BodyLoose p l yX12_letter (headSpec (Jvm.Cond.code yX12_letter prog_14_method_60_code 3 (some .int) :: zg_tb) qR484) prog_14_method_60_code 3 (some .int) e s m args below meth c s₁) (hml : c.maxLocals = 3) (hK : zg_K D base Hb s) : zk_ok p l e (headSpec (Jvm.Cond.code yX12_letter prog_14_method_60_code 3 (some .int) :: zg_tb) qR484).room s m args below meth c Q qK D base Hb 3 prog_14_method_60_code qP484 qC484.2.2.2.2 := by
  have S : CallFix p m c prog_14_method_60_code 3 s args (Jvm.Cond.code yX12_letter prog_14_method_60_code 3 (some .int) :: zg_tb) RX12 := ⟨B.exec, B.bytes, hml, findClass_of_methodNamed B.named, atoms_spec (ws := (Jvm.Cond.code yX12_letter prog_14_method_60_code 3 (some .int) :: zg_tb)) B.pre⟩
  exact ⟨List.forall_mem_cons.mpr ⟨zg_gp4 S (hK.2.1 12 _ rfl) (fun w h => (List.mem_cons_of_mem _ (zc12 w h))) rfl zt12_40 (List.mem_cons_of_mem _ zw5_199), List.forall_mem_cons.mpr ⟨zg_gp4 S (hK.2.1 12 _ rfl) (fun w h => (List.mem_cons_of_mem _ (zc12 w h))) rfl zt12_41 (List.mem_cons_of_mem _ zw5_200), List.forall_mem_cons.mpr ⟨zg_gp4 S (hK.2.1 12 _ rfl) (fun w h => (List.mem_cons_of_mem _ (zc12 w h))) rfl zt12_42 (List.mem_cons_of_mem _ zw5_201), List.forall_mem_cons.mpr ⟨zg_gp4 S (hK.2.1 12 _ rfl) (fun w h => (List.mem_cons_of_mem _ (zc12 w h))) rfl zt12_39 (List.mem_cons_of_mem _ zw5_198), List.forall_mem_cons.mpr ⟨zg_gp4 S (hK.2.1 12 _ rfl) (fun w h => (List.mem_cons_of_mem _ (zc12 w h))) rfl zt12_35 (List.mem_cons_of_mem _ zw5_194), List.forall_mem_cons.mpr ⟨zg_gp4 S (hK.2.1 12 _ rfl) (fun w h => (List.mem_cons_of_mem _ (zc12 w h))) rfl zt12_36 (List.mem_cons_of_mem _ zw5_195), fun _ h => absurd h List.not_mem_nil⟩⟩⟩⟩⟩⟩,
    fun _ h => absurd h List.not_mem_nil,
    fun _ h => absurd h List.not_mem_nil,
    fun _ h => absurd h List.not_mem_nil,
    fun h => absurd rfl h,
    fun _ h => absurd h List.not_mem_nil,
    List.forall_mem_cons.mpr ⟨zg_callV (fun w h => List.mem_cons_of_mem _ h) zg_tb_all S hK zg_Km qm471 zw7_80 zy_yX12_isLetter_V (ci := 12) (by decide +kernel) (hK.2.1 12 _ rfl).2.1 ⟨rfl, rfl⟩ (by decide +kernel), fun _ h => absurd h List.not_mem_nil⟩⟩
theorem qm484 {l : Launch} {D : zk_D} {base : Nat} {Hb : Heap} : zk_Met l qK D base Hb (zg_K D base Hb) yX12_letter (Jvm.Cond.code yX12_letter prog_14_method_60_code 3 (some .int) :: zg_tb) qR484 qC484 := zk_met (ws' := zg_tb) (P := qP484) (AT := zg_AT) (by decide +kernel) rfl rfl rfl qk484 (fun s hK => zg_wd hK) (fun p e s m args below meth c s₁ Q B hml hK => qo484 B hml hK) (fun p e s m args below meth c s₁ v G0 H0 B hml hK ha hp hF q hq => absurd hq List.not_mem_nil)
def qR485 : Room := { frames := 2, cells := 0, slots := 0, locals := 41 }
set_option maxHeartbeats 4000000 in
set_option maxRecDepth 100000 in
theorem qo485 {p : Program} {l : Launch} {e : Env} {s : State} {m : MethodId} {args : Array Value} {below : List Frame} {meth : Method} {c : Code} {s₁ : State} {Q : State → Prop} {D : zk_D} {base : Nat} {Hb : Heap} (B : BodyLoose p l yX11_why (headSpec (Jvm.Cond.code yX11_why prog_1_method_20_code 3 (some .int) :: zg_tb) qR485) prog_1_method_20_code 3 (some .int) e s m args below meth c s₁) (hml : c.maxLocals = 3) (hK : zg_K D base Hb s) : zk_ok p l e (headSpec (Jvm.Cond.code yX11_why prog_1_method_20_code 3 (some .int) :: zg_tb) qR485).room s m args below meth c Q qK D base Hb 3 prog_1_method_20_code qP485 qC485.2.2.2.2 := by
  have S : CallFix p m c prog_1_method_20_code 3 s args (Jvm.Cond.code yX11_why prog_1_method_20_code 3 (some .int) :: zg_tb) RX11 := ⟨B.exec, B.bytes, hml, findClass_of_methodNamed B.named, atoms_spec (ws := (Jvm.Cond.code yX11_why prog_1_method_20_code 3 (some .int) :: zg_tb)) B.pre⟩
  exact ⟨List.forall_mem_cons.mpr ⟨zg_gp S (hK.2.1 1 _ rfl) (fun w h => (List.mem_cons_of_mem _ (zc1 w h))) rfl zt1_8 (List.mem_cons_of_mem _ zw3_230) rfl, fun _ h => absurd h List.not_mem_nil⟩,
    fun _ h => absurd h List.not_mem_nil,
    fun _ h => absurd h List.not_mem_nil,
    fun _ h => absurd h List.not_mem_nil,
    fun h => absurd rfl h,
    fun _ h => absurd h List.not_mem_nil,
    List.forall_mem_cons.mpr ⟨zg_callV (fun w h => List.mem_cons_of_mem _ h) zg_tb_all S hK zg_Km qm468 zw4_142 zy_yX11_letterAt_V (ci := 11) (by decide +kernel) (hK.2.1 11 _ rfl).2.1 ⟨rfl, rfl⟩ (by decide +kernel), fun _ h => absurd h List.not_mem_nil⟩⟩
theorem qm485 {l : Launch} {D : zk_D} {base : Nat} {Hb : Heap} : zk_Met l qK D base Hb (zg_K D base Hb) yX11_why (Jvm.Cond.code yX11_why prog_1_method_20_code 3 (some .int) :: zg_tb) qR485 qC485 := zk_met (ws' := zg_tb) (P := qP485) (AT := zg_AT) (by decide +kernel) rfl rfl rfl qk485 (fun s hK => zg_wd hK) (fun p e s m args below meth c s₁ Q B hml hK => qo485 B hml hK) (fun p e s m args below meth c s₁ v G0 H0 B hml hK ha hp hF q hq => absurd hq List.not_mem_nil)
def qR486 : Room := { frames := 3, cells := 0, slots := 0, locals := 63 }
set_option maxHeartbeats 4000000 in
set_option maxRecDepth 100000 in
theorem qo486 {p : Program} {l : Launch} {e : Env} {s : State} {m : MethodId} {args : Array Value} {below : List Frame} {meth : Method} {c : Code} {s₁ : State} {Q : State → Prop} {D : zk_D} {base : Nat} {Hb : Heap} (B : BodyLoose p l yX12_why (headSpec (Jvm.Cond.code yX12_why prog_14_method_61_code 2 (some .int) :: zg_tb) qR486) prog_14_method_61_code 2 (some .int) e s m args below meth c s₁) (hml : c.maxLocals = 2) (hK : zg_K D base Hb s) : zk_ok p l e (headSpec (Jvm.Cond.code yX12_why prog_14_method_61_code 2 (some .int) :: zg_tb) qR486).room s m args below meth c Q qK D base Hb 2 prog_14_method_61_code qP486 qC486.2.2.2.2 := by
  have S : CallFix p m c prog_14_method_61_code 2 s args (Jvm.Cond.code yX12_why prog_14_method_61_code 2 (some .int) :: zg_tb) RX12 := ⟨B.exec, B.bytes, hml, findClass_of_methodNamed B.named, atoms_spec (ws := (Jvm.Cond.code yX12_why prog_14_method_61_code 2 (some .int) :: zg_tb)) B.pre⟩
  exact ⟨List.forall_mem_cons.mpr ⟨zg_gp4 S (hK.2.1 12 _ rfl) (fun w h => (List.mem_cons_of_mem _ (zc12 w h))) rfl zt12_43 (List.mem_cons_of_mem _ zw5_202), fun _ h => absurd h List.not_mem_nil⟩,
    fun _ h => absurd h List.not_mem_nil,
    fun _ h => absurd h List.not_mem_nil,
    fun _ h => absurd h List.not_mem_nil,
    fun h => absurd rfl h,
    fun _ h => absurd h List.not_mem_nil,
    List.forall_mem_cons.mpr ⟨zg_callV (fun w h => List.mem_cons_of_mem _ h) zg_tb_all S hK zg_Km qm471 zw7_80 zy_yX12_isLetter_V (ci := 12) (by decide +kernel) (hK.2.1 12 _ rfl).2.1 ⟨rfl, rfl⟩ (by decide +kernel), fun _ h => absurd h List.not_mem_nil⟩⟩
theorem qm486 {l : Launch} {D : zk_D} {base : Nat} {Hb : Heap} : zk_Met l qK D base Hb (zg_K D base Hb) yX12_why (Jvm.Cond.code yX12_why prog_14_method_61_code 2 (some .int) :: zg_tb) qR486 qC486 := zk_met (ws' := zg_tb) (P := qP486) (AT := zg_AT) (by decide +kernel) rfl rfl rfl qk486 (fun s hK => zg_wd hK) (fun p e s m args below meth c s₁ Q B hml hK => qo486 B hml hK) (fun p e s m args below meth c s₁ v G0 H0 B hml hK ha hp hF q hq => absurd hq List.not_mem_nil)
