/-! CONTRACTS MET: found by wip/an (python). -/
noncomputable section
set_option maxRecDepth 100000 in
def qR41 : Room := { frames := 1, cells := 0, slots := 0, locals := 20 }
set_option maxHeartbeats 4000000 in
set_option maxRecDepth 100000 in
theorem qo41 {p : Program} {l : Launch} {e : Env} {s : State} {m : MethodId} {args : Array Value} {below : List Frame} {meth : Method} {c : Code} {s₁ : State} {Q : State → Prop} {D : zk_D} {base : Nat} {Hb : Heap} (B : BodyLoose p l yJ9_max_7cf53 (headSpec (Jvm.Cond.code yJ9_max_7cf53 prog_18_method_65_code 2 (some .int) :: zg_tb) qR41) prog_18_method_65_code 2 (some .int) e s m args below meth c s₁) (hml : c.maxLocals = 2) (hK : zg_K D base Hb s) : zk_ok p l e (headSpec (Jvm.Cond.code yJ9_max_7cf53 prog_18_method_65_code 2 (some .int) :: zg_tb) qR41).room s m args below meth c Q qK D base Hb 2 prog_18_method_65_code qP41 qC41.2.2.2.2 := by
  have S : CallFix p m c prog_18_method_65_code 2 s args (Jvm.Cond.code yJ9_max_7cf53 prog_18_method_65_code 2 (some .int) :: zg_tb) RJ9 := ⟨B.exec, B.bytes, hml, findClass_of_methodNamed B.named, atoms_spec (ws := (Jvm.Cond.code yJ9_max_7cf53 prog_18_method_65_code 2 (some .int) :: zg_tb)) B.pre⟩
  exact ⟨fun _ h => absurd h List.not_mem_nil,
    fun _ h => absurd h List.not_mem_nil,
    fun _ h => absurd h List.not_mem_nil,
    fun _ h => absurd h List.not_mem_nil,
    fun h => absurd rfl h,
    fun _ h => absurd h List.not_mem_nil,
    fun _ h => absurd h List.not_mem_nil⟩
set_option maxRecDepth 100000 in
theorem zpf_yJ9_max_7cf53 : plainFor yJ9_max_7cf53 = true := by decide +kernel
set_option maxRecDepth 100000 in
theorem qm41 {l : Launch} {D : zk_D} {base : Nat} {Hb : Heap} : zk_Met l qK D base Hb (zg_K D base Hb) yJ9_max_7cf53 (Jvm.Cond.code yJ9_max_7cf53 prog_18_method_65_code 2 (some .int) :: zg_tb) qR41 qC41 := zk_metF (ws' := zg_tb) (P := qP41) (AT := zg_AT) zpf_yJ9_max_7cf53 rfl rfl rfl qk41 (fun s hK => zg_wd hK) (fun p e s m args below meth c s₁ Q B hml hK => qo41 B hml hK) (fun p e s m args below meth c s₁ v G0 H0 B hml hK ha hp hF q hq => absurd hq List.not_mem_nil)
set_option maxRecDepth 100000 in
def qR42 : Room := { frames := 1, cells := 0, slots := 0, locals := 20 }
set_option maxHeartbeats 4000000 in
set_option maxRecDepth 100000 in
theorem qo42 {p : Program} {l : Launch} {e : Env} {s : State} {m : MethodId} {args : Array Value} {below : List Frame} {meth : Method} {c : Code} {s₁ : State} {Q : State → Prop} {D : zk_D} {base : Nat} {Hb : Heap} (B : BodyLoose p l yJ9_min_7cf53 (headSpec (Jvm.Cond.code yJ9_min_7cf53 prog_18_method_69_code 2 (some .int) :: zg_tb) qR42) prog_18_method_69_code 2 (some .int) e s m args below meth c s₁) (hml : c.maxLocals = 2) (hK : zg_K D base Hb s) : zk_ok p l e (headSpec (Jvm.Cond.code yJ9_min_7cf53 prog_18_method_69_code 2 (some .int) :: zg_tb) qR42).room s m args below meth c Q qK D base Hb 2 prog_18_method_69_code qP42 qC42.2.2.2.2 := by
  have S : CallFix p m c prog_18_method_69_code 2 s args (Jvm.Cond.code yJ9_min_7cf53 prog_18_method_69_code 2 (some .int) :: zg_tb) RJ9 := ⟨B.exec, B.bytes, hml, findClass_of_methodNamed B.named, atoms_spec (ws := (Jvm.Cond.code yJ9_min_7cf53 prog_18_method_69_code 2 (some .int) :: zg_tb)) B.pre⟩
  exact ⟨fun _ h => absurd h List.not_mem_nil,
    fun _ h => absurd h List.not_mem_nil,
    fun _ h => absurd h List.not_mem_nil,
    fun _ h => absurd h List.not_mem_nil,
    fun h => absurd rfl h,
    fun _ h => absurd h List.not_mem_nil,
    fun _ h => absurd h List.not_mem_nil⟩
set_option maxRecDepth 100000 in
theorem zpf_yJ9_min_7cf53 : plainFor yJ9_min_7cf53 = true := by decide +kernel
set_option maxRecDepth 100000 in
theorem qm42 {l : Launch} {D : zk_D} {base : Nat} {Hb : Heap} : zk_Met l qK D base Hb (zg_K D base Hb) yJ9_min_7cf53 (Jvm.Cond.code yJ9_min_7cf53 prog_18_method_69_code 2 (some .int) :: zg_tb) qR42 qC42 := zk_metF (ws' := zg_tb) (P := qP42) (AT := zg_AT) zpf_yJ9_min_7cf53 rfl rfl rfl qk42 (fun s hK => zg_wd hK) (fun p e s m args below meth c s₁ Q B hml hK => qo42 B hml hK) (fun p e s m args below meth c s₁ v G0 H0 B hml hK ha hp hF q hq => absurd hq List.not_mem_nil)
set_option maxRecDepth 100000 in
def qR43 : Room := { frames := 1, cells := 0, slots := 0, locals := 20 }
set_option maxHeartbeats 4000000 in
set_option maxRecDepth 100000 in
theorem qo43 {p : Program} {l : Launch} {e : Env} {s : State} {m : MethodId} {args : Array Value} {below : List Frame} {meth : Method} {c : Code} {s₁ : State} {Q : State → Prop} {D : zk_D} {base : Nat} {Hb : Heap} (B : BodyLoose p l yJ1_indexOfChar_4cfef (headSpec (Jvm.Cond.code yJ1_indexOfChar_4cfef prog_20_method_23_code 6 (some .int) :: zg_tb) qR43) prog_20_method_23_code 6 (some .int) e s m args below meth c s₁) (hml : c.maxLocals = 6) (hK : zg_K D base Hb s) : zk_ok p l e (headSpec (Jvm.Cond.code yJ1_indexOfChar_4cfef prog_20_method_23_code 6 (some .int) :: zg_tb) qR43).room s m args below meth c Q qK D base Hb 6 prog_20_method_23_code qP43 qC43.2.2.2.2 := by
  have S : CallFix p m c prog_20_method_23_code 6 s args (Jvm.Cond.code yJ1_indexOfChar_4cfef prog_20_method_23_code 6 (some .int) :: zg_tb) RJ1 := ⟨B.exec, B.bytes, hml, findClass_of_methodNamed B.named, atoms_spec (ws := (Jvm.Cond.code yJ1_indexOfChar_4cfef prog_20_method_23_code 6 (some .int) :: zg_tb)) B.pre⟩
  exact ⟨fun _ h => absurd h List.not_mem_nil,
    fun _ h => absurd h List.not_mem_nil,
    fun _ h => absurd h List.not_mem_nil,
    fun _ h => absurd h List.not_mem_nil,
    fun h => absurd rfl h,
    fun _ h => absurd h List.not_mem_nil,
    fun _ h => absurd h List.not_mem_nil⟩
set_option maxRecDepth 100000 in
theorem qm43 {l : Launch} {D : zk_D} {base : Nat} {Hb : Heap} : zk_Met l qK D base Hb (zg_K D base Hb) yJ1_indexOfChar_4cfef (Jvm.Cond.code yJ1_indexOfChar_4cfef prog_20_method_23_code 6 (some .int) :: zg_tb) qR43 qC43 := zk_met (ws' := zg_tb) (P := qP43) (AT := zg_AT) zpn_J1 rfl rfl rfl qk43 (fun s hK => zg_wd hK) (fun p e s m args below meth c s₁ Q B hml hK => qo43 B hml hK) (fun p e s m args below meth c s₁ v G0 H0 B hml hK ha hp hF q hq => absurd hq List.not_mem_nil)
set_option maxRecDepth 100000 in
def qR44 : Room := { frames := 2, cells := 0, slots := 0, locals := 45 }
set_option maxHeartbeats 4000000 in
set_option maxRecDepth 100000 in
theorem qo44 {p : Program} {l : Launch} {e : Env} {s : State} {m : MethodId} {args : Array Value} {below : List Frame} {meth : Method} {c : Code} {s₁ : State} {Q : State → Prop} {D : zk_D} {base : Nat} {Hb : Heap} (B : BodyLoose p l yJ1_indexOf_4cfef (headSpec (Jvm.Cond.code yJ1_indexOf_4cfef prog_20_method_22_code 4 (some .int) :: zg_tb) qR44) prog_20_method_22_code 4 (some .int) e s m args below meth c s₁) (hml : c.maxLocals = 4) (hK : zg_K D base Hb s) : zk_ok p l e (headSpec (Jvm.Cond.code yJ1_indexOf_4cfef prog_20_method_22_code 4 (some .int) :: zg_tb) qR44).room s m args below meth c Q qK D base Hb 4 prog_20_method_22_code qP44 qC44.2.2.2.2 := by
  have S : CallFix p m c prog_20_method_22_code 4 s args (Jvm.Cond.code yJ1_indexOf_4cfef prog_20_method_22_code 4 (some .int) :: zg_tb) RJ1 := ⟨B.exec, B.bytes, hml, findClass_of_methodNamed B.named, atoms_spec (ws := (Jvm.Cond.code yJ1_indexOf_4cfef prog_20_method_22_code 4 (some .int) :: zg_tb)) B.pre⟩
  exact ⟨fun _ h => absurd h List.not_mem_nil,
    fun _ h => absurd h List.not_mem_nil,
    fun _ h => absurd h List.not_mem_nil,
    fun _ h => absurd h List.not_mem_nil,
    fun h => absurd rfl h,
    fun _ h => absurd h List.not_mem_nil,
    List.forall_mem_cons.mpr ⟨zg_callS (fun w h => List.mem_cons_of_mem _ h) zg_tb_all S hK zg_Km qm40 zw2_204 zy_yJ1_canEncode_9a6ad_S (by decide +kernel) ⟨rfl, rfl⟩ (zk_dg_ok qdo_20_22 (by decide +kernel)), List.forall_mem_cons.mpr ⟨zg_callS (fun w h => List.mem_cons_of_mem _ h) zg_tb_all S hK zg_Km qm41 zw2_207 zy_yJ9_max_7cf53_S (by decide +kernel) ⟨rfl, rfl⟩ (zk_dg_ok qdo_20_22 (by decide +kernel)), List.forall_mem_cons.mpr ⟨zg_callS (fun w h => List.mem_cons_of_mem _ h) zg_tb_all S hK zg_Km qm42 zw2_210 zy_yJ9_min_7cf53_S (by decide +kernel) ⟨rfl, rfl⟩ (zk_dg_ok qdo_20_22 (by decide +kernel)), List.forall_mem_cons.mpr ⟨zg_callS (fun w h => List.mem_cons_of_mem _ h) zg_tb_all S hK zg_Km qm43 zw2_213 zy_yJ1_indexOfChar_4cfef_S (by decide +kernel) ⟨rfl, rfl⟩ (zk_dg_ok qdo_20_22 (by decide +kernel)), fun _ h => absurd h List.not_mem_nil⟩⟩⟩⟩⟩
set_option maxRecDepth 100000 in
theorem qm44 {l : Launch} {D : zk_D} {base : Nat} {Hb : Heap} : zk_Met l qK D base Hb (zg_K D base Hb) yJ1_indexOf_4cfef (Jvm.Cond.code yJ1_indexOf_4cfef prog_20_method_22_code 4 (some .int) :: zg_tb) qR44 qC44 := zk_met (ws' := zg_tb) (P := qP44) (AT := zg_AT) zpn_J1 rfl rfl rfl qk44 (fun s hK => zg_wd hK) (fun p e s m args below meth c s₁ Q B hml hK => qo44 B hml hK) (fun p e s m args below meth c s₁ v G0 H0 B hml hK ha hp hF q hq => absurd hq List.not_mem_nil)
set_option maxRecDepth 100000 in
def qR45 : Room := { frames := 3, cells := 0, slots := 0, locals := 68 }
set_option maxHeartbeats 4000000 in
set_option maxRecDepth 100000 in
theorem qo45 {p : Program} {l : Launch} {e : Env} {s : State} {m : MethodId} {args : Array Value} {below : List Frame} {meth : Method} {c : Code} {s₁ : State} {Q : State → Prop} {D : zk_D} {base : Nat} {Hb : Heap} (B : BodyLoose p l yJ0_indexOf_7cf53 (headSpec (Jvm.Cond.code yJ0_indexOf_7cf53 prog_19_method_80_code 3 (some .int) :: zg_tb) qR45) prog_19_method_80_code 3 (some .int) e s m args below meth c s₁) (hml : c.maxLocals = 3) (hK : zg_K D base Hb s) : zk_ok p l e (headSpec (Jvm.Cond.code yJ0_indexOf_7cf53 prog_19_method_80_code 3 (some .int) :: zg_tb) qR45).room s m args below meth c Q qK D base Hb 3 prog_19_method_80_code qP45 qC45.2.2.2.2 := by
  have S : CallFix p m c prog_19_method_80_code 3 s args (Jvm.Cond.code yJ0_indexOf_7cf53 prog_19_method_80_code 3 (some .int) :: zg_tb) RJ0 := ⟨B.exec, B.bytes, hml, findClass_of_methodNamed B.named, atoms_spec (ws := (Jvm.Cond.code yJ0_indexOf_7cf53 prog_19_method_80_code 3 (some .int) :: zg_tb)) B.pre⟩
  exact ⟨List.forall_mem_cons.mpr ⟨⟨zg_gokS S (hK.2.2.2.2.2.2.2.2.1 _ (List.mem_of_getElem? (i := 0) rfl)) (List.mem_cons_of_mem _ zw8_57), zg_pok4⟩, fun _ h => absurd h List.not_mem_nil⟩,
    fun _ h => absurd h List.not_mem_nil,
    fun _ h => absurd h List.not_mem_nil,
    fun _ h => absurd h List.not_mem_nil,
    fun h => absurd rfl h,
    fun _ h => absurd h List.not_mem_nil,
    List.forall_mem_cons.mpr ⟨zg_callV (fun w h => List.mem_cons_of_mem _ h) zg_tb_all S hK zg_Km qm37 zw2_196 zy_yJ0_isLatin1_aae02_V (ci := 13) (by decide +kernel) hK.2.2.2.2.2.2.2.1 ⟨rfl, rfl⟩ (zk_dg_ok qdo_19_80 (by decide +kernel)), List.forall_mem_cons.mpr ⟨zg_callV (fun w h => List.mem_cons_of_mem _ h) zg_tb_all S hK zg_Km qm39 zw2_200 zy_yJ0_length_8abf5_V (ci := 13) (by decide +kernel) hK.2.2.2.2.2.2.2.1 ⟨rfl, rfl⟩ (zk_dg_ok qdo_19_80 (by decide +kernel)), List.forall_mem_cons.mpr ⟨zg_callS (fun w h => List.mem_cons_of_mem _ h) zg_tb_all S hK zg_Km qm44 zw2_201 zy_yJ1_indexOf_4cfef_S (by decide +kernel) ⟨rfl, rfl⟩ (zk_dg_ok qdo_19_80 (by decide +kernel)), fun _ h => absurd h List.not_mem_nil⟩⟩⟩⟩
set_option maxRecDepth 100000 in
theorem qm45 {l : Launch} {D : zk_D} {base : Nat} {Hb : Heap} : zk_Met l qK D base Hb (zg_K D base Hb) yJ0_indexOf_7cf53 (Jvm.Cond.code yJ0_indexOf_7cf53 prog_19_method_80_code 3 (some .int) :: zg_tb) qR45 qC45 := zk_met (ws' := zg_tb) (P := qP45) (AT := zg_AT) zpn_J0 rfl rfl rfl qk45 (fun s hK => zg_wd hK) (fun p e s m args below meth c s₁ Q B hml hK => qo45 B hml hK) (fun p e s m args below meth c s₁ v G0 H0 B hml hK ha hp hF q hq => absurd hq List.not_mem_nil)
set_option maxRecDepth 100000 in
def qR46 : Room := { frames := 4, cells := 0, slots := 0, locals := 90 }
set_option maxHeartbeats 4000000 in
set_option maxRecDepth 100000 in
theorem qo46 {p : Program} {l : Launch} {e : Env} {s : State} {m : MethodId} {args : Array Value} {below : List Frame} {meth : Method} {c : Code} {s₁ : State} {Q : State → Prop} {D : zk_D} {base : Nat} {Hb : Heap} (B : BodyLoose p l yJ0_indexOf_0f7a4 (headSpec (Jvm.Cond.code yJ0_indexOf_0f7a4 prog_19_method_79_code 2 (some .int) :: zg_tb) qR46) prog_19_method_79_code 2 (some .int) e s m args below meth c s₁) (hml : c.maxLocals = 2) (hK : zg_K D base Hb s) : zk_ok p l e (headSpec (Jvm.Cond.code yJ0_indexOf_0f7a4 prog_19_method_79_code 2 (some .int) :: zg_tb) qR46).room s m args below meth c Q qK D base Hb 2 prog_19_method_79_code qP46 qC46.2.2.2.2 := by
  have S : CallFix p m c prog_19_method_79_code 2 s args (Jvm.Cond.code yJ0_indexOf_0f7a4 prog_19_method_79_code 2 (some .int) :: zg_tb) RJ0 := ⟨B.exec, B.bytes, hml, findClass_of_methodNamed B.named, atoms_spec (ws := (Jvm.Cond.code yJ0_indexOf_0f7a4 prog_19_method_79_code 2 (some .int) :: zg_tb)) B.pre⟩
  exact ⟨fun _ h => absurd h List.not_mem_nil,
    fun _ h => absurd h List.not_mem_nil,
    fun _ h => absurd h List.not_mem_nil,
    fun _ h => absurd h List.not_mem_nil,
    fun h => absurd rfl h,
    fun _ h => absurd h List.not_mem_nil,
    List.forall_mem_cons.mpr ⟨zg_callV (fun w h => List.mem_cons_of_mem _ h) zg_tb_all S hK zg_Km qm45 zw2_192 zy_yJ0_indexOf_7cf53_V (ci := 13) (by decide +kernel) hK.2.2.2.2.2.2.2.1 ⟨rfl, rfl⟩ (zk_dg_ok qdo_19_79 (by decide +kernel)), fun _ h => absurd h List.not_mem_nil⟩⟩
set_option maxRecDepth 100000 in
theorem qm46 {l : Launch} {D : zk_D} {base : Nat} {Hb : Heap} : zk_Met l qK D base Hb (zg_K D base Hb) yJ0_indexOf_0f7a4 (Jvm.Cond.code yJ0_indexOf_0f7a4 prog_19_method_79_code 2 (some .int) :: zg_tb) qR46 qC46 := zk_met (ws' := zg_tb) (P := qP46) (AT := zg_AT) zpn_J0 rfl rfl rfl qk46 (fun s hK => zg_wd hK) (fun p e s m args below meth c s₁ Q B hml hK => qo46 B hml hK) (fun p e s m args below meth c s₁ v G0 H0 B hml hK ha hp hF q hq => absurd hq List.not_mem_nil)
set_option maxRecDepth 100000 in
def qR47 : Room := { frames := 1, cells := 0, slots := 0, locals := 20 }
set_option maxHeartbeats 4000000 in
set_option maxRecDepth 100000 in
theorem qo47 {p : Program} {l : Launch} {e : Env} {s : State} {m : MethodId} {args : Array Value} {below : List Frame} {meth : Method} {c : Code} {s₁ : State} {Q : State → Prop} {D : zk_D} {base : Nat} {Hb : Heap} (B : BodyLoose p l yX6_add (headSpec (Jvm.Cond.code yX6_add prog_8_method_6_code 2 none :: zg_tb) qR47) prog_8_method_6_code 2 none e s m args below meth c s₁) (hml : c.maxLocals = 2) (hK : zg_K D base Hb s) : zk_ok p l e (headSpec (Jvm.Cond.code yX6_add prog_8_method_6_code 2 none :: zg_tb) qR47).room s m args below meth c Q qK D base Hb 2 prog_8_method_6_code qP47 qC47.2.2.2.2 := by
  have S : CallFix p m c prog_8_method_6_code 2 s args (Jvm.Cond.code yX6_add prog_8_method_6_code 2 none :: zg_tb) RX6 := ⟨B.exec, B.bytes, hml, findClass_of_methodNamed B.named, atoms_spec (ws := (Jvm.Cond.code yX6_add prog_8_method_6_code 2 none :: zg_tb)) B.pre⟩
  exact ⟨List.forall_mem_cons.mpr ⟨zg_gp S (hK.2.1 6 _ rfl) (fun w h => (List.mem_cons_of_mem _ (zc6 w h))) rfl zt6_2 (List.mem_cons_of_mem _ zw1_118) rfl, List.forall_mem_cons.mpr ⟨zg_gp4 S (hK.2.1 6 _ rfl) (fun w h => (List.mem_cons_of_mem _ (zc6 w h))) rfl zt6_0 (List.mem_cons_of_mem _ zw1_116), fun _ h => absurd h List.not_mem_nil⟩⟩,
    fun _ h => absurd h List.not_mem_nil,
    fun _ h => absurd h List.not_mem_nil,
    fun _ h => absurd h List.not_mem_nil,
    fun h => absurd rfl h,
    fun _ h => absurd h List.not_mem_nil,
    fun _ h => absurd h List.not_mem_nil⟩
set_option maxRecDepth 100000 in
theorem qm47 {l : Launch} {D : zk_D} {base : Nat} {Hb : Heap} : zk_Met l qK D base Hb (zg_K D base Hb) yX6_add (Jvm.Cond.code yX6_add prog_8_method_6_code 2 none :: zg_tb) qR47 qC47 := zk_met (ws' := zg_tb) (P := qP47) (AT := zg_AT) zpn_X6 rfl rfl rfl qk47 (fun s hK => zg_wd hK) (fun p e s m args below meth c s₁ Q B hml hK => qo47 B hml hK) (fun p e s m args below meth c s₁ v G0 H0 B hml hK ha hp hF q hq => absurd hq List.not_mem_nil)
set_option maxRecDepth 100000 in
def qR48 : Room := { frames := 3, cells := 0, slots := 0, locals := 61 }
set_option maxHeartbeats 4000000 in
set_option maxRecDepth 100000 in
theorem qo48 {p : Program} {l : Launch} {e : Env} {s : State} {m : MethodId} {args : Array Value} {below : List Frame} {meth : Method} {c : Code} {s₁ : State} {Q : State → Prop} {D : zk_D} {base : Nat} {Hb : Heap} (B : BodyLoose p l yX6_pass (headSpec (Jvm.Cond.code yX6_pass prog_8_method_5_code 2 (some .boolean) :: zg_tb) qR48) prog_8_method_5_code 2 (some .boolean) e s m args below meth c s₁) (hml : c.maxLocals = 2) (hK : zg_K D base Hb s) : zk_ok p l e (headSpec (Jvm.Cond.code yX6_pass prog_8_method_5_code 2 (some .boolean) :: zg_tb) qR48).room s m args below meth c Q qK D base Hb 2 prog_8_method_5_code qP48 qC48.2.2.2.2 := by
  have S : CallFix p m c prog_8_method_5_code 2 s args (Jvm.Cond.code yX6_pass prog_8_method_5_code 2 (some .boolean) :: zg_tb) RX6 := ⟨B.exec, B.bytes, hml, findClass_of_methodNamed B.named, atoms_spec (ws := (Jvm.Cond.code yX6_pass prog_8_method_5_code 2 (some .boolean) :: zg_tb)) B.pre⟩
  exact ⟨List.forall_mem_cons.mpr ⟨zg_gp S (hK.2.1 6 _ rfl) (fun w h => (List.mem_cons_of_mem _ (zc6 w h))) rfl zt6_3 (List.mem_cons_of_mem _ zw1_119) rfl, fun _ h => absurd h List.not_mem_nil⟩,
    fun _ h => absurd h List.not_mem_nil,
    fun _ h => absurd h List.not_mem_nil,
    fun _ h => absurd h List.not_mem_nil,
    fun h => absurd rfl h,
    fun _ h => absurd h List.not_mem_nil,
    List.forall_mem_cons.mpr ⟨zg_callV (fun w h => List.mem_cons_of_mem _ h) zg_tb_all S hK zg_Km qm36 zw2_183 zy_yX6_ahead_V (ci := 6) (by decide +kernel) (hK.2.1 6 _ rfl).2.1 ⟨rfl, rfl⟩ (zk_dg_ok qdo_8_5 (by decide +kernel)), fun _ h => absurd h List.not_mem_nil⟩⟩
set_option maxRecDepth 100000 in
theorem qm48 {l : Launch} {D : zk_D} {base : Nat} {Hb : Heap} : zk_Met l qK D base Hb (zg_K D base Hb) yX6_pass (Jvm.Cond.code yX6_pass prog_8_method_5_code 2 (some .boolean) :: zg_tb) qR48 qC48 := zk_met (ws' := zg_tb) (P := qP48) (AT := zg_AT) zpn_X6 rfl rfl rfl qk48 (fun s hK => zg_wd hK) (fun p e s m args below meth c s₁ Q B hml hK => qo48 B hml hK) (fun p e s m args below meth c s₁ v G0 H0 B hml hK ha hp hF q hq => absurd hq List.not_mem_nil)
set_option maxRecDepth 100000 in
def qR49 : Room := { frames := 2, cells := 0, slots := 0, locals := 41 }
set_option maxHeartbeats 4000000 in
set_option maxRecDepth 100000 in
theorem qo49 {p : Program} {l : Launch} {e : Env} {s : State} {m : MethodId} {args : Array Value} {below : List Frame} {meth : Method} {c : Code} {s₁ : State} {Q : State → Prop} {D : zk_D} {base : Nat} {Hb : Heap} (B : BodyLoose p l yX6_readNumber (headSpec (Jvm.Cond.code yX6_readNumber prog_8_method_15_code 3 (some .boolean) :: zg_tb) qR49) prog_8_method_15_code 3 (some .boolean) e s m args below meth c s₁) (hml : c.maxLocals = 3) (hK : zg_K D base Hb s) : zk_ok p l e (headSpec (Jvm.Cond.code yX6_readNumber prog_8_method_15_code 3 (some .boolean) :: zg_tb) qR49).room s m args below meth c Q qK D base Hb 3 prog_8_method_15_code qP49 qC49.2.2.2.2 := by
  have S : CallFix p m c prog_8_method_15_code 3 s args (Jvm.Cond.code yX6_readNumber prog_8_method_15_code 3 (some .boolean) :: zg_tb) RX6 := ⟨B.exec, B.bytes, hml, findClass_of_methodNamed B.named, atoms_spec (ws := (Jvm.Cond.code yX6_readNumber prog_8_method_15_code 3 (some .boolean) :: zg_tb)) B.pre⟩
  exact ⟨List.forall_mem_cons.mpr ⟨zg_gp S (hK.2.1 6 _ rfl) (fun w h => (List.mem_cons_of_mem _ (zc6 w h))) rfl zt6_3 (List.mem_cons_of_mem _ zw1_119) rfl, List.forall_mem_cons.mpr ⟨zg_gp S (hK.2.1 6 _ rfl) (fun w h => (List.mem_cons_of_mem _ (zc6 w h))) rfl zt6_1 (List.mem_cons_of_mem _ zw1_117) rfl, List.forall_mem_cons.mpr ⟨zg_gp S (hK.2.1 8 _ rfl) (fun w h => (List.mem_cons_of_mem _ (zc8 w h))) rfl zt8_1 (List.mem_cons_of_mem _ zw1_80) rfl, fun _ h => absurd h List.not_mem_nil⟩⟩⟩,
    fun _ h => absurd h List.not_mem_nil,
    fun _ h => absurd h List.not_mem_nil,
    fun _ h => absurd h List.not_mem_nil,
    fun h => absurd rfl h,
    fun _ h => absurd h List.not_mem_nil,
    List.forall_mem_cons.mpr ⟨zg_callV (fun w h => List.mem_cons_of_mem _ h) zg_tb_all S hK zg_Km qm32 zw2_178 zy_yX8_at_V (ci := 8) (by decide +kernel) (hK.2.1 8 _ rfl).2.1 ⟨rfl, rfl⟩ (zk_dg_ok qdo_8_15 (by decide +kernel)), List.forall_mem_cons.mpr ⟨zg_callV (fun w h => List.mem_cons_of_mem _ h) zg_tb_all S hK zg_Km qm32 zw2_178 zy_yX8_at_V (ci := 8) (by decide +kernel) (hK.2.1 8 _ rfl).2.1 ⟨rfl, rfl⟩ (zk_dg_ok qdo_8_15 (by decide +kernel)), List.forall_mem_cons.mpr ⟨zg_callV (fun w h => List.mem_cons_of_mem _ h) zg_tb_all S hK zg_Km qm32 zw2_178 zy_yX8_at_V (ci := 8) (by decide +kernel) (hK.2.1 8 _ rfl).2.1 ⟨rfl, rfl⟩ (zk_dg_ok qdo_8_15 (by decide +kernel)), List.forall_mem_cons.mpr ⟨zg_callV (fun w h => List.mem_cons_of_mem _ h) zg_tb_all S hK zg_Km qm47 zw3_25 zy_yX6_add_V (ci := 6) (by decide +kernel) (hK.2.1 6 _ rfl).2.1 ⟨rfl, rfl⟩ (zk_dg_ok qdo_8_15 (by decide +kernel)), fun _ h => absurd h List.not_mem_nil⟩⟩⟩⟩⟩
set_option maxRecDepth 100000 in
theorem qm49 {l : Launch} {D : zk_D} {base : Nat} {Hb : Heap} : zk_Met l qK D base Hb (zg_K D base Hb) yX6_readNumber (Jvm.Cond.code yX6_readNumber prog_8_method_15_code 3 (some .boolean) :: zg_tb) qR49 qC49 := zk_met (ws' := zg_tb) (P := qP49) (AT := zg_AT) zpn_X6 rfl rfl rfl qk49 (fun s hK => zg_wd hK) (fun p e s m args below meth c s₁ Q B hml hK => qo49 B hml hK) (fun p e s m args below meth c s₁ v G0 H0 B hml hK ha hp hF q hq => absurd hq List.not_mem_nil)
set_option maxRecDepth 100000 in
def qR50 : Room := { frames := 1, cells := 0, slots := 0, locals := 20 }
set_option maxHeartbeats 4000000 in
set_option maxRecDepth 100000 in
theorem qo50 {p : Program} {l : Launch} {e : Env} {s : State} {m : MethodId} {args : Array Value} {below : List Frame} {meth : Method} {c : Code} {s₁ : State} {Q : State → Prop} {D : zk_D} {base : Nat} {Hb : Heap} (B : BodyLoose p l yJ0_isLatin1_aae02 (headSpec (Jvm.Cond.code yJ0_isLatin1_aae02 prog_19_method_154_code 1 (some .boolean) :: zg_tb) qR50) prog_19_method_154_code 1 (some .boolean) e s m args below meth c s₁) (hml : c.maxLocals = 1) (hK : zg_K D base Hb s) : zk_ok p l e (headSpec (Jvm.Cond.code yJ0_isLatin1_aae02 prog_19_method_154_code 1 (some .boolean) :: zg_tb) qR50).room s m args below meth c Q qK D base Hb 1 prog_19_method_154_code qP50 qC50.2.2.2.2 := by
  have S : CallFix p m c prog_19_method_154_code 1 s args (Jvm.Cond.code yJ0_isLatin1_aae02 prog_19_method_154_code 1 (some .boolean) :: zg_tb) RJ0 := ⟨B.exec, B.bytes, hml, findClass_of_methodNamed B.named, atoms_spec (ws := (Jvm.Cond.code yJ0_isLatin1_aae02 prog_19_method_154_code 1 (some .boolean) :: zg_tb)) B.pre⟩
  exact ⟨List.forall_mem_cons.mpr ⟨⟨zg_gokS S (hK.2.2.2.2.2.2.2.2.1 _ (List.mem_of_getElem? (i := 1) rfl)) (List.mem_cons_of_mem _ zw8_58), zg_pok4⟩, fun _ h => absurd h List.not_mem_nil⟩,
    fun _ h => absurd h List.not_mem_nil,
    fun _ h => absurd h List.not_mem_nil,
    fun _ h => absurd h List.not_mem_nil,
    fun h => absurd rfl h,
    List.forall_mem_cons.mpr ⟨zg_kokG S (hK.2.2.2.2.2.2.2.2.2.2.1 _ (List.mem_of_getElem? (i := 0) rfl)) (List.mem_cons_of_mem _ zw1_144) (by decide +kernel) (zk_dg_ok qdo_19_154 (by decide +kernel)), fun _ h => absurd h List.not_mem_nil⟩,
    fun _ h => absurd h List.not_mem_nil⟩
set_option maxRecDepth 100000 in
theorem qm50 {l : Launch} {D : zk_D} {base : Nat} {Hb : Heap} : zk_Met l qK D base Hb (zg_K D base Hb) yJ0_isLatin1_aae02 (Jvm.Cond.code yJ0_isLatin1_aae02 prog_19_method_154_code 1 (some .boolean) :: zg_tb) qR50 qC50 := zk_met (ws' := zg_tb) (P := qP50) (AT := zg_AT) zpn_J0 rfl rfl rfl qk50 (fun s hK => zg_wd hK) (fun p e s m args below meth c s₁ Q B hml hK => qo50 B hml hK) (fun p e s m args below meth c s₁ v G0 H0 B hml hK ha hp hF q hq => absurd hq List.not_mem_nil)
set_option maxRecDepth 100000 in
def qR51 : Room := { frames := 1, cells := 0, slots := 0, locals := 20 }
set_option maxHeartbeats 4000000 in
set_option maxRecDepth 100000 in
theorem qo51 {p : Program} {l : Launch} {e : Env} {s : State} {m : MethodId} {args : Array Value} {below : List Frame} {meth : Method} {c : Code} {s₁ : State} {Q : State → Prop} {D : zk_D} {base : Nat} {Hb : Heap} (B : BodyLoose p l yJ0_coder_7d493 (headSpec (Jvm.Cond.code yJ0_coder_7d493 prog_19_method_152_code 1 (some .byte) :: zg_tb) qR51) prog_19_method_152_code 1 (some .byte) e s m args below meth c s₁) (hml : c.maxLocals = 1) (hK : zg_K D base Hb s) : zk_ok p l e (headSpec (Jvm.Cond.code yJ0_coder_7d493 prog_19_method_152_code 1 (some .byte) :: zg_tb) qR51).room s m args below meth c Q qK D base Hb 1 prog_19_method_152_code qP51 qC51.2.2.2.2 := by
  have S : CallFix p m c prog_19_method_152_code 1 s args (Jvm.Cond.code yJ0_coder_7d493 prog_19_method_152_code 1 (some .byte) :: zg_tb) RJ0 := ⟨B.exec, B.bytes, hml, findClass_of_methodNamed B.named, atoms_spec (ws := (Jvm.Cond.code yJ0_coder_7d493 prog_19_method_152_code 1 (some .byte) :: zg_tb)) B.pre⟩
  exact ⟨List.forall_mem_cons.mpr ⟨⟨zg_gokS S (hK.2.2.2.2.2.2.2.2.1 _ (List.mem_of_getElem? (i := 1) rfl)) (List.mem_cons_of_mem _ zw8_58), zg_pok4⟩, fun _ h => absurd h List.not_mem_nil⟩,
    fun _ h => absurd h List.not_mem_nil,
    fun _ h => absurd h List.not_mem_nil,
    fun _ h => absurd h List.not_mem_nil,
    fun h => absurd rfl h,
    List.forall_mem_cons.mpr ⟨zg_kokG S (hK.2.2.2.2.2.2.2.2.2.2.1 _ (List.mem_of_getElem? (i := 0) rfl)) (List.mem_cons_of_mem _ zw1_144) (by decide +kernel) (zk_dg_ok qdo_19_152 (by decide +kernel)), fun _ h => absurd h List.not_mem_nil⟩,
    fun _ h => absurd h List.not_mem_nil⟩
set_option maxRecDepth 100000 in
theorem qm51 {l : Launch} {D : zk_D} {base : Nat} {Hb : Heap} : zk_Met l qK D base Hb (zg_K D base Hb) yJ0_coder_7d493 (Jvm.Cond.code yJ0_coder_7d493 prog_19_method_152_code 1 (some .byte) :: zg_tb) qR51 qC51 := zk_met (ws' := zg_tb) (P := qP51) (AT := zg_AT) zpn_J0 rfl rfl rfl qk51 (fun s hK => zg_wd hK) (fun p e s m args below meth c s₁ Q B hml hK => qo51 B hml hK) (fun p e s m args below meth c s₁ v G0 H0 B hml hK ha hp hF q hq => absurd hq List.not_mem_nil)
set_option maxRecDepth 100000 in
def qR52 : Room := { frames := 2, cells := 0, slots := 0, locals := 40 }
set_option maxHeartbeats 4000000 in
set_option maxRecDepth 100000 in
theorem qo52 {p : Program} {l : Launch} {e : Env} {s : State} {m : MethodId} {args : Array Value} {below : List Frame} {meth : Method} {c : Code} {s₁ : State} {Q : State → Prop} {D : zk_D} {base : Nat} {Hb : Heap} (B : BodyLoose p l yJ0_length_8abf5 (headSpec (Jvm.Cond.code yJ0_length_8abf5 prog_19_method_54_code 1 (some .int) :: zg_tb) qR52) prog_19_method_54_code 1 (some .int) e s m args below meth c s₁) (hml : c.maxLocals = 1) (hK : zg_K D base Hb s) : zk_ok p l e (headSpec (Jvm.Cond.code yJ0_length_8abf5 prog_19_method_54_code 1 (some .int) :: zg_tb) qR52).room s m args below meth c Q qK D base Hb 1 prog_19_method_54_code qP52 qC52.2.2.2.2 := by
  have S : CallFix p m c prog_19_method_54_code 1 s args (Jvm.Cond.code yJ0_length_8abf5 prog_19_method_54_code 1 (some .int) :: zg_tb) RJ0 := ⟨B.exec, B.bytes, hml, findClass_of_methodNamed B.named, atoms_spec (ws := (Jvm.Cond.code yJ0_length_8abf5 prog_19_method_54_code 1 (some .int) :: zg_tb)) B.pre⟩
  exact ⟨List.forall_mem_cons.mpr ⟨⟨zg_gokS S (hK.2.2.2.2.2.2.2.2.1 _ (List.mem_of_getElem? (i := 0) rfl)) (List.mem_cons_of_mem _ zw8_57), zg_pok4⟩, fun _ h => absurd h List.not_mem_nil⟩,
    fun _ h => absurd h List.not_mem_nil,
    fun _ h => absurd h List.not_mem_nil,
    fun _ h => absurd h List.not_mem_nil,
    fun h => absurd rfl h,
    fun _ h => absurd h List.not_mem_nil,
    List.forall_mem_cons.mpr ⟨zg_callV (fun w h => List.mem_cons_of_mem _ h) zg_tb_all S hK zg_Km qm51 zw1_140 zy_yJ0_coder_7d493_V (ci := 13) (by decide +kernel) hK.2.2.2.2.2.2.2.1 ⟨rfl, rfl⟩ (zk_dg_ok qdo_19_54 (by decide +kernel)), fun _ h => absurd h List.not_mem_nil⟩⟩
set_option maxRecDepth 100000 in
theorem qm52 {l : Launch} {D : zk_D} {base : Nat} {Hb : Heap} : zk_Met l qK D base Hb (zg_K D base Hb) yJ0_length_8abf5 (Jvm.Cond.code yJ0_length_8abf5 prog_19_method_54_code 1 (some .int) :: zg_tb) qR52 qC52 := zk_met (ws' := zg_tb) (P := qP52) (AT := zg_AT) zpn_J0 rfl rfl rfl qk52 (fun s hK => zg_wd hK) (fun p e s m args below meth c s₁ Q B hml hK => qo52 B hml hK) (fun p e s m args below meth c s₁ v G0 H0 B hml hK ha hp hF q hq => absurd hq List.not_mem_nil)
set_option maxRecDepth 100000 in
def qR53 : Room := { frames := 1, cells := 0, slots := 0, locals := 20 }
set_option maxHeartbeats 4000000 in
set_option maxRecDepth 100000 in
theorem qo53 {p : Program} {l : Launch} {e : Env} {s : State} {m : MethodId} {args : Array Value} {below : List Frame} {meth : Method} {c : Code} {s₁ : State} {Q : State → Prop} {D : zk_D} {base : Nat} {Hb : Heap} (B : BodyLoose p l yJ1_canEncode_9a6ad (headSpec (Jvm.Cond.code yJ1_canEncode_9a6ad prog_20_method_4_code 1 (some .boolean) :: zg_tb) qR53) prog_20_method_4_code 1 (some .boolean) e s m args below meth c s₁) (hml : c.maxLocals = 1) (hK : zg_K D base Hb s) : zk_ok p l e (headSpec (Jvm.Cond.code yJ1_canEncode_9a6ad prog_20_method_4_code 1 (some .boolean) :: zg_tb) qR53).room s m args below meth c Q qK D base Hb 1 prog_20_method_4_code qP53 qC53.2.2.2.2 := by
  have S : CallFix p m c prog_20_method_4_code 1 s args (Jvm.Cond.code yJ1_canEncode_9a6ad prog_20_method_4_code 1 (some .boolean) :: zg_tb) RJ1 := ⟨B.exec, B.bytes, hml, findClass_of_methodNamed B.named, atoms_spec (ws := (Jvm.Cond.code yJ1_canEncode_9a6ad prog_20_method_4_code 1 (some .boolean) :: zg_tb)) B.pre⟩
  exact ⟨fun _ h => absurd h List.not_mem_nil,
    fun _ h => absurd h List.not_mem_nil,
    fun _ h => absurd h List.not_mem_nil,
    fun _ h => absurd h List.not_mem_nil,
    fun h => absurd rfl h,
    fun _ h => absurd h List.not_mem_nil,
    fun _ h => absurd h List.not_mem_nil⟩
set_option maxRecDepth 100000 in
theorem qm53 {l : Launch} {D : zk_D} {base : Nat} {Hb : Heap} : zk_Met l qK D base Hb (zg_K D base Hb) yJ1_canEncode_9a6ad (Jvm.Cond.code yJ1_canEncode_9a6ad prog_20_method_4_code 1 (some .boolean) :: zg_tb) qR53 qC53 := zk_met (ws' := zg_tb) (P := qP53) (AT := zg_AT) zpn_J1 rfl rfl rfl qk53 (fun s hK => zg_wd hK) (fun p e s m args below meth c s₁ Q B hml hK => qo53 B hml hK) (fun p e s m args below meth c s₁ v G0 H0 B hml hK ha hp hF q hq => absurd hq List.not_mem_nil)
set_option maxRecDepth 100000 in
def qR54 : Room := { frames := 1, cells := 0, slots := 0, locals := 20 }
set_option maxHeartbeats 4000000 in
set_option maxRecDepth 100000 in
theorem qo54 {p : Program} {l : Launch} {e : Env} {s : State} {m : MethodId} {args : Array Value} {below : List Frame} {meth : Method} {c : Code} {s₁ : State} {Q : State → Prop} {D : zk_D} {base : Nat} {Hb : Heap} (B : BodyLoose p l yJ9_max_7cf53 (headSpec (Jvm.Cond.code yJ9_max_7cf53 prog_18_method_65_code 2 (some .int) :: zg_tb) qR54) prog_18_method_65_code 2 (some .int) e s m args below meth c s₁) (hml : c.maxLocals = 2) (hK : zg_K D base Hb s) : zk_ok p l e (headSpec (Jvm.Cond.code yJ9_max_7cf53 prog_18_method_65_code 2 (some .int) :: zg_tb) qR54).room s m args below meth c Q qK D base Hb 2 prog_18_method_65_code qP54 qC54.2.2.2.2 := by
  have S : CallFix p m c prog_18_method_65_code 2 s args (Jvm.Cond.code yJ9_max_7cf53 prog_18_method_65_code 2 (some .int) :: zg_tb) RJ9 := ⟨B.exec, B.bytes, hml, findClass_of_methodNamed B.named, atoms_spec (ws := (Jvm.Cond.code yJ9_max_7cf53 prog_18_method_65_code 2 (some .int) :: zg_tb)) B.pre⟩
  exact ⟨fun _ h => absurd h List.not_mem_nil,
    fun _ h => absurd h List.not_mem_nil,
    fun _ h => absurd h List.not_mem_nil,
    fun _ h => absurd h List.not_mem_nil,
    fun h => absurd rfl h,
    fun _ h => absurd h List.not_mem_nil,
    fun _ h => absurd h List.not_mem_nil⟩
set_option maxRecDepth 100000 in
theorem qm54 {l : Launch} {D : zk_D} {base : Nat} {Hb : Heap} : zk_Met l qK D base Hb (zg_K D base Hb) yJ9_max_7cf53 (Jvm.Cond.code yJ9_max_7cf53 prog_18_method_65_code 2 (some .int) :: zg_tb) qR54 qC54 := zk_metF (ws' := zg_tb) (P := qP54) (AT := zg_AT) zpf_yJ9_max_7cf53 rfl rfl rfl qk54 (fun s hK => zg_wd hK) (fun p e s m args below meth c s₁ Q B hml hK => qo54 B hml hK) (fun p e s m args below meth c s₁ v G0 H0 B hml hK ha hp hF q hq => absurd hq List.not_mem_nil)
set_option maxRecDepth 100000 in
def qR55 : Room := { frames := 1, cells := 0, slots := 0, locals := 20 }
set_option maxHeartbeats 4000000 in
set_option maxRecDepth 100000 in
theorem qo55 {p : Program} {l : Launch} {e : Env} {s : State} {m : MethodId} {args : Array Value} {below : List Frame} {meth : Method} {c : Code} {s₁ : State} {Q : State → Prop} {D : zk_D} {base : Nat} {Hb : Heap} (B : BodyLoose p l yJ9_min_7cf53 (headSpec (Jvm.Cond.code yJ9_min_7cf53 prog_18_method_69_code 2 (some .int) :: zg_tb) qR55) prog_18_method_69_code 2 (some .int) e s m args below meth c s₁) (hml : c.maxLocals = 2) (hK : zg_K D base Hb s) : zk_ok p l e (headSpec (Jvm.Cond.code yJ9_min_7cf53 prog_18_method_69_code 2 (some .int) :: zg_tb) qR55).room s m args below meth c Q qK D base Hb 2 prog_18_method_69_code qP55 qC55.2.2.2.2 := by
  have S : CallFix p m c prog_18_method_69_code 2 s args (Jvm.Cond.code yJ9_min_7cf53 prog_18_method_69_code 2 (some .int) :: zg_tb) RJ9 := ⟨B.exec, B.bytes, hml, findClass_of_methodNamed B.named, atoms_spec (ws := (Jvm.Cond.code yJ9_min_7cf53 prog_18_method_69_code 2 (some .int) :: zg_tb)) B.pre⟩
  exact ⟨fun _ h => absurd h List.not_mem_nil,
    fun _ h => absurd h List.not_mem_nil,
    fun _ h => absurd h List.not_mem_nil,
    fun _ h => absurd h List.not_mem_nil,
    fun h => absurd rfl h,
    fun _ h => absurd h List.not_mem_nil,
    fun _ h => absurd h List.not_mem_nil⟩
set_option maxRecDepth 100000 in
theorem qm55 {l : Launch} {D : zk_D} {base : Nat} {Hb : Heap} : zk_Met l qK D base Hb (zg_K D base Hb) yJ9_min_7cf53 (Jvm.Cond.code yJ9_min_7cf53 prog_18_method_69_code 2 (some .int) :: zg_tb) qR55 qC55 := zk_metF (ws' := zg_tb) (P := qP55) (AT := zg_AT) zpf_yJ9_min_7cf53 rfl rfl rfl qk55 (fun s hK => zg_wd hK) (fun p e s m args below meth c s₁ Q B hml hK => qo55 B hml hK) (fun p e s m args below meth c s₁ v G0 H0 B hml hK ha hp hF q hq => absurd hq List.not_mem_nil)
set_option maxRecDepth 100000 in
def qR56 : Room := { frames := 1, cells := 0, slots := 0, locals := 20 }
set_option maxHeartbeats 4000000 in
set_option maxRecDepth 100000 in
theorem qo56 {p : Program} {l : Launch} {e : Env} {s : State} {m : MethodId} {args : Array Value} {below : List Frame} {meth : Method} {c : Code} {s₁ : State} {Q : State → Prop} {D : zk_D} {base : Nat} {Hb : Heap} (B : BodyLoose p l yJ1_indexOfChar_4cfef (headSpec (Jvm.Cond.code yJ1_indexOfChar_4cfef prog_20_method_23_code 6 (some .int) :: zg_tb) qR56) prog_20_method_23_code 6 (some .int) e s m args below meth c s₁) (hml : c.maxLocals = 6) (hK : zg_K D base Hb s) : zk_ok p l e (headSpec (Jvm.Cond.code yJ1_indexOfChar_4cfef prog_20_method_23_code 6 (some .int) :: zg_tb) qR56).room s m args below meth c Q qK D base Hb 6 prog_20_method_23_code qP56 qC56.2.2.2.2 := by
  have S : CallFix p m c prog_20_method_23_code 6 s args (Jvm.Cond.code yJ1_indexOfChar_4cfef prog_20_method_23_code 6 (some .int) :: zg_tb) RJ1 := ⟨B.exec, B.bytes, hml, findClass_of_methodNamed B.named, atoms_spec (ws := (Jvm.Cond.code yJ1_indexOfChar_4cfef prog_20_method_23_code 6 (some .int) :: zg_tb)) B.pre⟩
  exact ⟨fun _ h => absurd h List.not_mem_nil,
    fun _ h => absurd h List.not_mem_nil,
    fun _ h => absurd h List.not_mem_nil,
    fun _ h => absurd h List.not_mem_nil,
    fun h => absurd rfl h,
    fun _ h => absurd h List.not_mem_nil,
    fun _ h => absurd h List.not_mem_nil⟩
set_option maxRecDepth 100000 in
theorem qm56 {l : Launch} {D : zk_D} {base : Nat} {Hb : Heap} : zk_Met l qK D base Hb (zg_K D base Hb) yJ1_indexOfChar_4cfef (Jvm.Cond.code yJ1_indexOfChar_4cfef prog_20_method_23_code 6 (some .int) :: zg_tb) qR56 qC56 := zk_met (ws' := zg_tb) (P := qP56) (AT := zg_AT) zpn_J1 rfl rfl rfl qk56 (fun s hK => zg_wd hK) (fun p e s m args below meth c s₁ Q B hml hK => qo56 B hml hK) (fun p e s m args below meth c s₁ v G0 H0 B hml hK ha hp hF q hq => absurd hq List.not_mem_nil)
set_option maxRecDepth 100000 in
def qR57 : Room := { frames := 2, cells := 0, slots := 0, locals := 45 }
set_option maxHeartbeats 4000000 in
set_option maxRecDepth 100000 in
theorem qo57 {p : Program} {l : Launch} {e : Env} {s : State} {m : MethodId} {args : Array Value} {below : List Frame} {meth : Method} {c : Code} {s₁ : State} {Q : State → Prop} {D : zk_D} {base : Nat} {Hb : Heap} (B : BodyLoose p l yJ1_indexOf_4cfef (headSpec (Jvm.Cond.code yJ1_indexOf_4cfef prog_20_method_22_code 4 (some .int) :: zg_tb) qR57) prog_20_method_22_code 4 (some .int) e s m args below meth c s₁) (hml : c.maxLocals = 4) (hK : zg_K D base Hb s) : zk_ok p l e (headSpec (Jvm.Cond.code yJ1_indexOf_4cfef prog_20_method_22_code 4 (some .int) :: zg_tb) qR57).room s m args below meth c Q qK D base Hb 4 prog_20_method_22_code qP57 qC57.2.2.2.2 := by
  have S : CallFix p m c prog_20_method_22_code 4 s args (Jvm.Cond.code yJ1_indexOf_4cfef prog_20_method_22_code 4 (some .int) :: zg_tb) RJ1 := ⟨B.exec, B.bytes, hml, findClass_of_methodNamed B.named, atoms_spec (ws := (Jvm.Cond.code yJ1_indexOf_4cfef prog_20_method_22_code 4 (some .int) :: zg_tb)) B.pre⟩
  exact ⟨fun _ h => absurd h List.not_mem_nil,
    fun _ h => absurd h List.not_mem_nil,
    fun _ h => absurd h List.not_mem_nil,
    fun _ h => absurd h List.not_mem_nil,
    fun h => absurd rfl h,
    fun _ h => absurd h List.not_mem_nil,
    List.forall_mem_cons.mpr ⟨zg_callS (fun w h => List.mem_cons_of_mem _ h) zg_tb_all S hK zg_Km qm53 zw2_204 zy_yJ1_canEncode_9a6ad_S (by decide +kernel) ⟨rfl, rfl⟩ (zk_dg_ok qdo_20_22 (by decide +kernel)), List.forall_mem_cons.mpr ⟨zg_callS (fun w h => List.mem_cons_of_mem _ h) zg_tb_all S hK zg_Km qm54 zw2_207 zy_yJ9_max_7cf53_S (by decide +kernel) ⟨rfl, rfl⟩ (zk_dg_ok qdo_20_22 (by decide +kernel)), List.forall_mem_cons.mpr ⟨zg_callS (fun w h => List.mem_cons_of_mem _ h) zg_tb_all S hK zg_Km qm55 zw2_210 zy_yJ9_min_7cf53_S (by decide +kernel) ⟨rfl, rfl⟩ (zk_dg_ok qdo_20_22 (by decide +kernel)), List.forall_mem_cons.mpr ⟨zg_callS (fun w h => List.mem_cons_of_mem _ h) zg_tb_all S hK zg_Km qm56 zw2_213 zy_yJ1_indexOfChar_4cfef_S (by decide +kernel) ⟨rfl, rfl⟩ (zk_dg_ok qdo_20_22 (by decide +kernel)), fun _ h => absurd h List.not_mem_nil⟩⟩⟩⟩⟩
set_option maxRecDepth 100000 in
theorem qm57 {l : Launch} {D : zk_D} {base : Nat} {Hb : Heap} : zk_Met l qK D base Hb (zg_K D base Hb) yJ1_indexOf_4cfef (Jvm.Cond.code yJ1_indexOf_4cfef prog_20_method_22_code 4 (some .int) :: zg_tb) qR57 qC57 := zk_met (ws' := zg_tb) (P := qP57) (AT := zg_AT) zpn_J1 rfl rfl rfl qk57 (fun s hK => zg_wd hK) (fun p e s m args below meth c s₁ Q B hml hK => qo57 B hml hK) (fun p e s m args below meth c s₁ v G0 H0 B hml hK ha hp hF q hq => absurd hq List.not_mem_nil)
set_option maxRecDepth 100000 in
def qR58 : Room := { frames := 3, cells := 0, slots := 0, locals := 68 }
set_option maxHeartbeats 4000000 in
set_option maxRecDepth 100000 in
theorem qo58 {p : Program} {l : Launch} {e : Env} {s : State} {m : MethodId} {args : Array Value} {below : List Frame} {meth : Method} {c : Code} {s₁ : State} {Q : State → Prop} {D : zk_D} {base : Nat} {Hb : Heap} (B : BodyLoose p l yJ0_indexOf_7cf53 (headSpec (Jvm.Cond.code yJ0_indexOf_7cf53 prog_19_method_80_code 3 (some .int) :: zg_tb) qR58) prog_19_method_80_code 3 (some .int) e s m args below meth c s₁) (hml : c.maxLocals = 3) (hK : zg_K D base Hb s) : zk_ok p l e (headSpec (Jvm.Cond.code yJ0_indexOf_7cf53 prog_19_method_80_code 3 (some .int) :: zg_tb) qR58).room s m args below meth c Q qK D base Hb 3 prog_19_method_80_code qP58 qC58.2.2.2.2 := by
  have S : CallFix p m c prog_19_method_80_code 3 s args (Jvm.Cond.code yJ0_indexOf_7cf53 prog_19_method_80_code 3 (some .int) :: zg_tb) RJ0 := ⟨B.exec, B.bytes, hml, findClass_of_methodNamed B.named, atoms_spec (ws := (Jvm.Cond.code yJ0_indexOf_7cf53 prog_19_method_80_code 3 (some .int) :: zg_tb)) B.pre⟩
  exact ⟨List.forall_mem_cons.mpr ⟨⟨zg_gokS S (hK.2.2.2.2.2.2.2.2.1 _ (List.mem_of_getElem? (i := 0) rfl)) (List.mem_cons_of_mem _ zw8_57), zg_pok4⟩, fun _ h => absurd h List.not_mem_nil⟩,
    fun _ h => absurd h List.not_mem_nil,
    fun _ h => absurd h List.not_mem_nil,
    fun _ h => absurd h List.not_mem_nil,
    fun h => absurd rfl h,
    fun _ h => absurd h List.not_mem_nil,
    List.forall_mem_cons.mpr ⟨zg_callV (fun w h => List.mem_cons_of_mem _ h) zg_tb_all S hK zg_Km qm50 zw2_196 zy_yJ0_isLatin1_aae02_V (ci := 13) (by decide +kernel) hK.2.2.2.2.2.2.2.1 ⟨rfl, rfl⟩ (zk_dg_ok qdo_19_80 (by decide +kernel)), List.forall_mem_cons.mpr ⟨zg_callV (fun w h => List.mem_cons_of_mem _ h) zg_tb_all S hK zg_Km qm52 zw2_200 zy_yJ0_length_8abf5_V (ci := 13) (by decide +kernel) hK.2.2.2.2.2.2.2.1 ⟨rfl, rfl⟩ (zk_dg_ok qdo_19_80 (by decide +kernel)), List.forall_mem_cons.mpr ⟨zg_callS (fun w h => List.mem_cons_of_mem _ h) zg_tb_all S hK zg_Km qm57 zw2_201 zy_yJ1_indexOf_4cfef_S (by decide +kernel) ⟨rfl, rfl⟩ (zk_dg_ok qdo_19_80 (by decide +kernel)), fun _ h => absurd h List.not_mem_nil⟩⟩⟩⟩
set_option maxRecDepth 100000 in
theorem qm58 {l : Launch} {D : zk_D} {base : Nat} {Hb : Heap} : zk_Met l qK D base Hb (zg_K D base Hb) yJ0_indexOf_7cf53 (Jvm.Cond.code yJ0_indexOf_7cf53 prog_19_method_80_code 3 (some .int) :: zg_tb) qR58 qC58 := zk_met (ws' := zg_tb) (P := qP58) (AT := zg_AT) zpn_J0 rfl rfl rfl qk58 (fun s hK => zg_wd hK) (fun p e s m args below meth c s₁ Q B hml hK => qo58 B hml hK) (fun p e s m args below meth c s₁ v G0 H0 B hml hK ha hp hF q hq => absurd hq List.not_mem_nil)
set_option maxRecDepth 100000 in
def qR59 : Room := { frames := 4, cells := 0, slots := 0, locals := 90 }
set_option maxHeartbeats 4000000 in
set_option maxRecDepth 100000 in
theorem qo59 {p : Program} {l : Launch} {e : Env} {s : State} {m : MethodId} {args : Array Value} {below : List Frame} {meth : Method} {c : Code} {s₁ : State} {Q : State → Prop} {D : zk_D} {base : Nat} {Hb : Heap} (B : BodyLoose p l yJ0_indexOf_0f7a4 (headSpec (Jvm.Cond.code yJ0_indexOf_0f7a4 prog_19_method_79_code 2 (some .int) :: zg_tb) qR59) prog_19_method_79_code 2 (some .int) e s m args below meth c s₁) (hml : c.maxLocals = 2) (hK : zg_K D base Hb s) : zk_ok p l e (headSpec (Jvm.Cond.code yJ0_indexOf_0f7a4 prog_19_method_79_code 2 (some .int) :: zg_tb) qR59).room s m args below meth c Q qK D base Hb 2 prog_19_method_79_code qP59 qC59.2.2.2.2 := by
  have S : CallFix p m c prog_19_method_79_code 2 s args (Jvm.Cond.code yJ0_indexOf_0f7a4 prog_19_method_79_code 2 (some .int) :: zg_tb) RJ0 := ⟨B.exec, B.bytes, hml, findClass_of_methodNamed B.named, atoms_spec (ws := (Jvm.Cond.code yJ0_indexOf_0f7a4 prog_19_method_79_code 2 (some .int) :: zg_tb)) B.pre⟩
  exact ⟨fun _ h => absurd h List.not_mem_nil,
    fun _ h => absurd h List.not_mem_nil,
    fun _ h => absurd h List.not_mem_nil,
    fun _ h => absurd h List.not_mem_nil,
    fun h => absurd rfl h,
    fun _ h => absurd h List.not_mem_nil,
    List.forall_mem_cons.mpr ⟨zg_callV (fun w h => List.mem_cons_of_mem _ h) zg_tb_all S hK zg_Km qm58 zw2_192 zy_yJ0_indexOf_7cf53_V (ci := 13) (by decide +kernel) hK.2.2.2.2.2.2.2.1 ⟨rfl, rfl⟩ (zk_dg_ok qdo_19_79 (by decide +kernel)), fun _ h => absurd h List.not_mem_nil⟩⟩
set_option maxRecDepth 100000 in
theorem qm59 {l : Launch} {D : zk_D} {base : Nat} {Hb : Heap} : zk_Met l qK D base Hb (zg_K D base Hb) yJ0_indexOf_0f7a4 (Jvm.Cond.code yJ0_indexOf_0f7a4 prog_19_method_79_code 2 (some .int) :: zg_tb) qR59 qC59 := zk_met (ws' := zg_tb) (P := qP59) (AT := zg_AT) zpn_J0 rfl rfl rfl qk59 (fun s hK => zg_wd hK) (fun p e s m args below meth c s₁ Q B hml hK => qo59 B hml hK) (fun p e s m args below meth c s₁ v G0 H0 B hml hK ha hp hF q hq => absurd hq List.not_mem_nil)
set_option maxRecDepth 100000 in
def qR60 : Room := { frames := 5, cells := 0, slots := 0, locals := 111 }
set_option maxHeartbeats 4000000 in
set_option maxRecDepth 100000 in
theorem qo60 {p : Program} {l : Launch} {e : Env} {s : State} {m : MethodId} {args : Array Value} {below : List Frame} {meth : Method} {c : Code} {s₁ : State} {Q : State → Prop} {D : zk_D} {base : Nat} {Hb : Heap} (B : BodyLoose p l yX6_readAtom (headSpec (Jvm.Cond.code yX6_readAtom prog_8_method_14_code 4 (some .boolean) :: zg_tb) qR60) prog_8_method_14_code 4 (some .boolean) e s m args below meth c s₁) (hml : c.maxLocals = 4) (hK : zg_K D base Hb s) : zk_ok p l e (headSpec (Jvm.Cond.code yX6_readAtom prog_8_method_14_code 4 (some .boolean) :: zg_tb) qR60).room s m args below meth c Q qK D base Hb 4 prog_8_method_14_code qP60 qC60.2.2.2.2 := by
  have S : CallFix p m c prog_8_method_14_code 4 s args (Jvm.Cond.code yX6_readAtom prog_8_method_14_code 4 (some .boolean) :: zg_tb) RX6 := ⟨B.exec, B.bytes, hml, findClass_of_methodNamed B.named, atoms_spec (ws := (Jvm.Cond.code yX6_readAtom prog_8_method_14_code 4 (some .boolean) :: zg_tb)) B.pre⟩
  exact ⟨List.forall_mem_cons.mpr ⟨zg_gp S (hK.2.1 6 _ rfl) (fun w h => (List.mem_cons_of_mem _ (zc6 w h))) rfl zt6_3 (List.mem_cons_of_mem _ zw1_119) rfl, fun _ h => absurd h List.not_mem_nil⟩,
    fun _ h => absurd h List.not_mem_nil,
    fun _ h => absurd h List.not_mem_nil,
    fun _ h => absurd h List.not_mem_nil,
    fun h => absurd rfl h,
    List.forall_mem_cons.mpr ⟨zg_kokS (k := 24) (tx := "wlsknauhrmyo") S (zg_sR2 hK) (by decide +kernel) (by decide) (zk_dg_ok qdo_8_14 (by decide +kernel)), fun _ h => absurd h List.not_mem_nil⟩,
    List.forall_mem_cons.mpr ⟨zg_callV (fun w h => List.mem_cons_of_mem _ h) zg_tb_all S hK zg_Km qm36 zw2_183 zy_yX6_ahead_V (ci := 6) (by decide +kernel) (hK.2.1 6 _ rfl).2.1 ⟨rfl, rfl⟩ (zk_dg_ok qdo_8_14 (by decide +kernel)), List.forall_mem_cons.mpr ⟨zg_callV (fun w h => List.mem_cons_of_mem _ h) zg_tb_all S hK zg_Km qm49 zw3_45 zy_yX6_readNumber_V (ci := 6) (by decide +kernel) (hK.2.1 6 _ rfl).2.1 ⟨rfl, rfl⟩ (zk_dg_ok qdo_8_14 (by decide +kernel)), List.forall_mem_cons.mpr ⟨zg_callV (fun w h => List.mem_cons_of_mem _ h) zg_tb_all S hK zg_Km qm59 zw2_188 zy_yJ0_indexOf_0f7a4_V (ci := 13) (by decide +kernel) hK.2.2.2.2.2.2.2.1 ⟨rfl, rfl⟩ (zk_dg_ok qdo_8_14 (by decide +kernel)), List.forall_mem_cons.mpr ⟨zg_callV (fun w h => List.mem_cons_of_mem _ h) zg_tb_all S hK zg_Km qm47 zw3_25 zy_yX6_add_V (ci := 6) (by decide +kernel) (hK.2.1 6 _ rfl).2.1 ⟨rfl, rfl⟩ (zk_dg_ok qdo_8_14 (by decide +kernel)), fun _ h => absurd h List.not_mem_nil⟩⟩⟩⟩⟩
set_option maxRecDepth 100000 in
theorem qm60 {l : Launch} {D : zk_D} {base : Nat} {Hb : Heap} : zk_Met l qK D base Hb (zg_K D base Hb) yX6_readAtom (Jvm.Cond.code yX6_readAtom prog_8_method_14_code 4 (some .boolean) :: zg_tb) qR60 qC60 := zk_met (ws' := zg_tb) (P := qP60) (AT := zg_AT) zpn_X6 rfl rfl rfl qk60 (fun s hK => zg_wd hK) (fun p e s m args below meth c s₁ Q B hml hK => qo60 B hml hK) (fun p e s m args below meth c s₁ v G0 H0 B hml hK ha hp hF q hq => absurd hq List.not_mem_nil)
set_option maxRecDepth 100000 in
def qR61 : Room := { frames := 6, cells := 0, slots := 0, locals := 134 }
set_option maxHeartbeats 4000000 in
set_option maxRecDepth 100000 in
theorem qo61 {p : Program} {l : Launch} {e : Env} {s : State} {m : MethodId} {args : Array Value} {below : List Frame} {meth : Method} {c : Code} {s₁ : State} {Q : State → Prop} {D : zk_D} {base : Nat} {Hb : Heap} (B : BodyLoose p l yX6_readTerm (headSpec (Jvm.Cond.code yX6_readTerm prog_8_method_13_code 4 (some .boolean) :: zg_tb) qR61) prog_8_method_13_code 4 (some .boolean) e s m args below meth c s₁) (hml : c.maxLocals = 4) (hK : zg_K D base Hb s) : zk_ok p l e (headSpec (Jvm.Cond.code yX6_readTerm prog_8_method_13_code 4 (some .boolean) :: zg_tb) qR61).room s m args below meth c Q qK D base Hb 4 prog_8_method_13_code qP61 qC61.2.2.2.2 := by
  have S : CallFix p m c prog_8_method_13_code 4 s args (Jvm.Cond.code yX6_readTerm prog_8_method_13_code 4 (some .boolean) :: zg_tb) RX6 := ⟨B.exec, B.bytes, hml, findClass_of_methodNamed B.named, atoms_spec (ws := (Jvm.Cond.code yX6_readTerm prog_8_method_13_code 4 (some .boolean) :: zg_tb)) B.pre⟩
  exact ⟨List.forall_mem_cons.mpr ⟨zg_gp S (hK.2.1 6 _ rfl) (fun w h => (List.mem_cons_of_mem _ (zc6 w h))) rfl zt6_3 (List.mem_cons_of_mem _ zw1_119) rfl, fun _ h => absurd h List.not_mem_nil⟩,
    fun _ h => absurd h List.not_mem_nil,
    fun _ h => absurd h List.not_mem_nil,
    fun _ h => absurd h List.not_mem_nil,
    fun h => absurd rfl h,
    fun _ h => absurd h List.not_mem_nil,
    List.forall_mem_cons.mpr ⟨zg_callV (fun w h => List.mem_cons_of_mem _ h) zg_tb_all S hK zg_Km qm60 zw3_41 zy_yX6_readAtom_V (ci := 6) (by decide +kernel) (hK.2.1 6 _ rfl).2.1 ⟨rfl, rfl⟩ (zk_dg_ok qdo_8_13 (by decide +kernel)), List.forall_mem_cons.mpr ⟨zg_callV (fun w h => List.mem_cons_of_mem _ h) zg_tb_all S hK zg_Km qm36 zw2_183 zy_yX6_ahead_V (ci := 6) (by decide +kernel) (hK.2.1 6 _ rfl).2.1 ⟨rfl, rfl⟩ (zk_dg_ok qdo_8_13 (by decide +kernel)), List.forall_mem_cons.mpr ⟨zg_callV (fun w h => List.mem_cons_of_mem _ h) zg_tb_all S hK zg_Km qm60 zw3_41 zy_yX6_readAtom_V (ci := 6) (by decide +kernel) (hK.2.1 6 _ rfl).2.1 ⟨rfl, rfl⟩ (zk_dg_ok qdo_8_13 (by decide +kernel)), List.forall_mem_cons.mpr ⟨zg_callV (fun w h => List.mem_cons_of_mem _ h) zg_tb_all S hK zg_Km qm47 zw3_25 zy_yX6_add_V (ci := 6) (by decide +kernel) (hK.2.1 6 _ rfl).2.1 ⟨rfl, rfl⟩ (zk_dg_ok qdo_8_13 (by decide +kernel)), fun _ h => absurd h List.not_mem_nil⟩⟩⟩⟩⟩
set_option maxRecDepth 100000 in
theorem qm61 {l : Launch} {D : zk_D} {base : Nat} {Hb : Heap} : zk_Met l qK D base Hb (zg_K D base Hb) yX6_readTerm (Jvm.Cond.code yX6_readTerm prog_8_method_13_code 4 (some .boolean) :: zg_tb) qR61 qC61 := zk_met (ws' := zg_tb) (P := qP61) (AT := zg_AT) zpn_X6 rfl rfl rfl qk61 (fun s hK => zg_wd hK) (fun p e s m args below meth c s₁ Q B hml hK => qo61 B hml hK) (fun p e s m args below meth c s₁ v G0 H0 B hml hK ha hp hF q hq => absurd hq List.not_mem_nil)
set_option maxRecDepth 100000 in
def qR62 : Room := { frames := 7, cells := 0, slots := 0, locals := 157 }
set_option maxHeartbeats 4000000 in
set_option maxRecDepth 100000 in
theorem qo62 {p : Program} {l : Launch} {e : Env} {s : State} {m : MethodId} {args : Array Value} {below : List Frame} {meth : Method} {c : Code} {s₁ : State} {Q : State → Prop} {D : zk_D} {base : Nat} {Hb : Heap} (B : BodyLoose p l yX6_readSum (headSpec (Jvm.Cond.code yX6_readSum prog_8_method_12_code 4 (some .boolean) :: zg_tb) qR62) prog_8_method_12_code 4 (some .boolean) e s m args below meth c s₁) (hml : c.maxLocals = 4) (hK : zg_K D base Hb s) : zk_ok p l e (headSpec (Jvm.Cond.code yX6_readSum prog_8_method_12_code 4 (some .boolean) :: zg_tb) qR62).room s m args below meth c Q qK D base Hb 4 prog_8_method_12_code qP62 qC62.2.2.2.2 := by
  have S : CallFix p m c prog_8_method_12_code 4 s args (Jvm.Cond.code yX6_readSum prog_8_method_12_code 4 (some .boolean) :: zg_tb) RX6 := ⟨B.exec, B.bytes, hml, findClass_of_methodNamed B.named, atoms_spec (ws := (Jvm.Cond.code yX6_readSum prog_8_method_12_code 4 (some .boolean) :: zg_tb)) B.pre⟩
  exact ⟨List.forall_mem_cons.mpr ⟨zg_gp S (hK.2.1 6 _ rfl) (fun w h => (List.mem_cons_of_mem _ (zc6 w h))) rfl zt6_3 (List.mem_cons_of_mem _ zw1_119) rfl, fun _ h => absurd h List.not_mem_nil⟩,
    fun _ h => absurd h List.not_mem_nil,
    fun _ h => absurd h List.not_mem_nil,
    fun _ h => absurd h List.not_mem_nil,
    fun h => absurd rfl h,
    fun _ h => absurd h List.not_mem_nil,
    List.forall_mem_cons.mpr ⟨zg_callV (fun w h => List.mem_cons_of_mem _ h) zg_tb_all S hK zg_Km qm61 zw3_37 zy_yX6_readTerm_V (ci := 6) (by decide +kernel) (hK.2.1 6 _ rfl).2.1 ⟨rfl, rfl⟩ (zk_dg_ok qdo_8_12 (by decide +kernel)), List.forall_mem_cons.mpr ⟨zg_callV (fun w h => List.mem_cons_of_mem _ h) zg_tb_all S hK zg_Km qm36 zw2_183 zy_yX6_ahead_V (ci := 6) (by decide +kernel) (hK.2.1 6 _ rfl).2.1 ⟨rfl, rfl⟩ (zk_dg_ok qdo_8_12 (by decide +kernel)), List.forall_mem_cons.mpr ⟨zg_callV (fun w h => List.mem_cons_of_mem _ h) zg_tb_all S hK zg_Km qm61 zw3_37 zy_yX6_readTerm_V (ci := 6) (by decide +kernel) (hK.2.1 6 _ rfl).2.1 ⟨rfl, rfl⟩ (zk_dg_ok qdo_8_12 (by decide +kernel)), List.forall_mem_cons.mpr ⟨zg_callV (fun w h => List.mem_cons_of_mem _ h) zg_tb_all S hK zg_Km qm47 zw3_25 zy_yX6_add_V (ci := 6) (by decide +kernel) (hK.2.1 6 _ rfl).2.1 ⟨rfl, rfl⟩ (zk_dg_ok qdo_8_12 (by decide +kernel)), fun _ h => absurd h List.not_mem_nil⟩⟩⟩⟩⟩
set_option maxRecDepth 100000 in
theorem qm62 {l : Launch} {D : zk_D} {base : Nat} {Hb : Heap} : zk_Met l qK D base Hb (zg_K D base Hb) yX6_readSum (Jvm.Cond.code yX6_readSum prog_8_method_12_code 4 (some .boolean) :: zg_tb) qR62 qC62 := zk_met (ws' := zg_tb) (P := qP62) (AT := zg_AT) zpn_X6 rfl rfl rfl qk62 (fun s hK => zg_wd hK) (fun p e s m args below meth c s₁ Q B hml hK => qo62 B hml hK) (fun p e s m args below meth c s₁ v G0 H0 B hml hK ha hp hF q hq => absurd hq List.not_mem_nil)
set_option maxRecDepth 100000 in
def qR63 : Room := { frames := 1, cells := 0, slots := 0, locals := 20 }
set_option maxHeartbeats 4000000 in
set_option maxRecDepth 100000 in
theorem qo63 {p : Program} {l : Launch} {e : Env} {s : State} {m : MethodId} {args : Array Value} {below : List Frame} {meth : Method} {c : Code} {s₁ : State} {Q : State → Prop} {D : zk_D} {base : Nat} {Hb : Heap} (B : BodyLoose p l yJ0_isLatin1_aae02 (headSpec (Jvm.Cond.code yJ0_isLatin1_aae02 prog_19_method_154_code 1 (some .boolean) :: zg_tb) qR63) prog_19_method_154_code 1 (some .boolean) e s m args below meth c s₁) (hml : c.maxLocals = 1) (hK : zg_K D base Hb s) : zk_ok p l e (headSpec (Jvm.Cond.code yJ0_isLatin1_aae02 prog_19_method_154_code 1 (some .boolean) :: zg_tb) qR63).room s m args below meth c Q qK D base Hb 1 prog_19_method_154_code qP63 qC63.2.2.2.2 := by
  have S : CallFix p m c prog_19_method_154_code 1 s args (Jvm.Cond.code yJ0_isLatin1_aae02 prog_19_method_154_code 1 (some .boolean) :: zg_tb) RJ0 := ⟨B.exec, B.bytes, hml, findClass_of_methodNamed B.named, atoms_spec (ws := (Jvm.Cond.code yJ0_isLatin1_aae02 prog_19_method_154_code 1 (some .boolean) :: zg_tb)) B.pre⟩
  exact ⟨List.forall_mem_cons.mpr ⟨⟨zg_gokS S (hK.2.2.2.2.2.2.2.2.1 _ (List.mem_of_getElem? (i := 1) rfl)) (List.mem_cons_of_mem _ zw8_58), zg_pok4⟩, fun _ h => absurd h List.not_mem_nil⟩,
    fun _ h => absurd h List.not_mem_nil,
    fun _ h => absurd h List.not_mem_nil,
    fun _ h => absurd h List.not_mem_nil,
    fun h => absurd rfl h,
    List.forall_mem_cons.mpr ⟨zg_kokG S (hK.2.2.2.2.2.2.2.2.2.2.1 _ (List.mem_of_getElem? (i := 0) rfl)) (List.mem_cons_of_mem _ zw1_144) (by decide +kernel) (zk_dg_ok qdo_19_154 (by decide +kernel)), fun _ h => absurd h List.not_mem_nil⟩,
    fun _ h => absurd h List.not_mem_nil⟩
set_option maxRecDepth 100000 in
theorem qm63 {l : Launch} {D : zk_D} {base : Nat} {Hb : Heap} : zk_Met l qK D base Hb (zg_K D base Hb) yJ0_isLatin1_aae02 (Jvm.Cond.code yJ0_isLatin1_aae02 prog_19_method_154_code 1 (some .boolean) :: zg_tb) qR63 qC63 := zk_met (ws' := zg_tb) (P := qP63) (AT := zg_AT) zpn_J0 rfl rfl rfl qk63 (fun s hK => zg_wd hK) (fun p e s m args below meth c s₁ Q B hml hK => qo63 B hml hK) (fun p e s m args below meth c s₁ v G0 H0 B hml hK ha hp hF q hq => absurd hq List.not_mem_nil)
set_option maxRecDepth 100000 in
def qR64 : Room := { frames := 1, cells := 0, slots := 0, locals := 20 }
set_option maxHeartbeats 4000000 in
set_option maxRecDepth 100000 in
theorem qo64 {p : Program} {l : Launch} {e : Env} {s : State} {m : MethodId} {args : Array Value} {below : List Frame} {meth : Method} {c : Code} {s₁ : State} {Q : State → Prop} {D : zk_D} {base : Nat} {Hb : Heap} (B : BodyLoose p l yJ0_coder_7d493 (headSpec (Jvm.Cond.code yJ0_coder_7d493 prog_19_method_152_code 1 (some .byte) :: zg_tb) qR64) prog_19_method_152_code 1 (some .byte) e s m args below meth c s₁) (hml : c.maxLocals = 1) (hK : zg_K D base Hb s) : zk_ok p l e (headSpec (Jvm.Cond.code yJ0_coder_7d493 prog_19_method_152_code 1 (some .byte) :: zg_tb) qR64).room s m args below meth c Q qK D base Hb 1 prog_19_method_152_code qP64 qC64.2.2.2.2 := by
  have S : CallFix p m c prog_19_method_152_code 1 s args (Jvm.Cond.code yJ0_coder_7d493 prog_19_method_152_code 1 (some .byte) :: zg_tb) RJ0 := ⟨B.exec, B.bytes, hml, findClass_of_methodNamed B.named, atoms_spec (ws := (Jvm.Cond.code yJ0_coder_7d493 prog_19_method_152_code 1 (some .byte) :: zg_tb)) B.pre⟩
  exact ⟨List.forall_mem_cons.mpr ⟨⟨zg_gokS S (hK.2.2.2.2.2.2.2.2.1 _ (List.mem_of_getElem? (i := 1) rfl)) (List.mem_cons_of_mem _ zw8_58), zg_pok4⟩, fun _ h => absurd h List.not_mem_nil⟩,
    fun _ h => absurd h List.not_mem_nil,
    fun _ h => absurd h List.not_mem_nil,
    fun _ h => absurd h List.not_mem_nil,
    fun h => absurd rfl h,
    List.forall_mem_cons.mpr ⟨zg_kokG S (hK.2.2.2.2.2.2.2.2.2.2.1 _ (List.mem_of_getElem? (i := 0) rfl)) (List.mem_cons_of_mem _ zw1_144) (by decide +kernel) (zk_dg_ok qdo_19_152 (by decide +kernel)), fun _ h => absurd h List.not_mem_nil⟩,
    fun _ h => absurd h List.not_mem_nil⟩
set_option maxRecDepth 100000 in
theorem qm64 {l : Launch} {D : zk_D} {base : Nat} {Hb : Heap} : zk_Met l qK D base Hb (zg_K D base Hb) yJ0_coder_7d493 (Jvm.Cond.code yJ0_coder_7d493 prog_19_method_152_code 1 (some .byte) :: zg_tb) qR64 qC64 := zk_met (ws' := zg_tb) (P := qP64) (AT := zg_AT) zpn_J0 rfl rfl rfl qk64 (fun s hK => zg_wd hK) (fun p e s m args below meth c s₁ Q B hml hK => qo64 B hml hK) (fun p e s m args below meth c s₁ v G0 H0 B hml hK ha hp hF q hq => absurd hq List.not_mem_nil)
set_option maxRecDepth 100000 in
def qR65 : Room := { frames := 2, cells := 0, slots := 0, locals := 40 }
set_option maxHeartbeats 4000000 in
set_option maxRecDepth 100000 in
theorem qo65 {p : Program} {l : Launch} {e : Env} {s : State} {m : MethodId} {args : Array Value} {below : List Frame} {meth : Method} {c : Code} {s₁ : State} {Q : State → Prop} {D : zk_D} {base : Nat} {Hb : Heap} (B : BodyLoose p l yJ0_length_8abf5 (headSpec (Jvm.Cond.code yJ0_length_8abf5 prog_19_method_54_code 1 (some .int) :: zg_tb) qR65) prog_19_method_54_code 1 (some .int) e s m args below meth c s₁) (hml : c.maxLocals = 1) (hK : zg_K D base Hb s) : zk_ok p l e (headSpec (Jvm.Cond.code yJ0_length_8abf5 prog_19_method_54_code 1 (some .int) :: zg_tb) qR65).room s m args below meth c Q qK D base Hb 1 prog_19_method_54_code qP65 qC65.2.2.2.2 := by
  have S : CallFix p m c prog_19_method_54_code 1 s args (Jvm.Cond.code yJ0_length_8abf5 prog_19_method_54_code 1 (some .int) :: zg_tb) RJ0 := ⟨B.exec, B.bytes, hml, findClass_of_methodNamed B.named, atoms_spec (ws := (Jvm.Cond.code yJ0_length_8abf5 prog_19_method_54_code 1 (some .int) :: zg_tb)) B.pre⟩
  exact ⟨List.forall_mem_cons.mpr ⟨⟨zg_gokS S (hK.2.2.2.2.2.2.2.2.1 _ (List.mem_of_getElem? (i := 0) rfl)) (List.mem_cons_of_mem _ zw8_57), zg_pok4⟩, fun _ h => absurd h List.not_mem_nil⟩,
    fun _ h => absurd h List.not_mem_nil,
    fun _ h => absurd h List.not_mem_nil,
    fun _ h => absurd h List.not_mem_nil,
    fun h => absurd rfl h,
    fun _ h => absurd h List.not_mem_nil,
    List.forall_mem_cons.mpr ⟨zg_callV (fun w h => List.mem_cons_of_mem _ h) zg_tb_all S hK zg_Km qm64 zw1_140 zy_yJ0_coder_7d493_V (ci := 13) (by decide +kernel) hK.2.2.2.2.2.2.2.1 ⟨rfl, rfl⟩ (zk_dg_ok qdo_19_54 (by decide +kernel)), fun _ h => absurd h List.not_mem_nil⟩⟩
set_option maxRecDepth 100000 in
theorem qm65 {l : Launch} {D : zk_D} {base : Nat} {Hb : Heap} : zk_Met l qK D base Hb (zg_K D base Hb) yJ0_length_8abf5 (Jvm.Cond.code yJ0_length_8abf5 prog_19_method_54_code 1 (some .int) :: zg_tb) qR65 qC65 := zk_met (ws' := zg_tb) (P := qP65) (AT := zg_AT) zpn_J0 rfl rfl rfl qk65 (fun s hK => zg_wd hK) (fun p e s m args below meth c s₁ Q B hml hK => qo65 B hml hK) (fun p e s m args below meth c s₁ v G0 H0 B hml hK ha hp hF q hq => absurd hq List.not_mem_nil)
set_option maxRecDepth 100000 in
def qR66 : Room := { frames := 1, cells := 0, slots := 0, locals := 20 }
set_option maxHeartbeats 4000000 in
set_option maxRecDepth 100000 in
theorem qo66 {p : Program} {l : Launch} {e : Env} {s : State} {m : MethodId} {args : Array Value} {below : List Frame} {meth : Method} {c : Code} {s₁ : State} {Q : State → Prop} {D : zk_D} {base : Nat} {Hb : Heap} (B : BodyLoose p l yJ1_canEncode_9a6ad (headSpec (Jvm.Cond.code yJ1_canEncode_9a6ad prog_20_method_4_code 1 (some .boolean) :: zg_tb) qR66) prog_20_method_4_code 1 (some .boolean) e s m args below meth c s₁) (hml : c.maxLocals = 1) (hK : zg_K D base Hb s) : zk_ok p l e (headSpec (Jvm.Cond.code yJ1_canEncode_9a6ad prog_20_method_4_code 1 (some .boolean) :: zg_tb) qR66).room s m args below meth c Q qK D base Hb 1 prog_20_method_4_code qP66 qC66.2.2.2.2 := by
  have S : CallFix p m c prog_20_method_4_code 1 s args (Jvm.Cond.code yJ1_canEncode_9a6ad prog_20_method_4_code 1 (some .boolean) :: zg_tb) RJ1 := ⟨B.exec, B.bytes, hml, findClass_of_methodNamed B.named, atoms_spec (ws := (Jvm.Cond.code yJ1_canEncode_9a6ad prog_20_method_4_code 1 (some .boolean) :: zg_tb)) B.pre⟩
  exact ⟨fun _ h => absurd h List.not_mem_nil,
    fun _ h => absurd h List.not_mem_nil,
    fun _ h => absurd h List.not_mem_nil,
    fun _ h => absurd h List.not_mem_nil,
    fun h => absurd rfl h,
    fun _ h => absurd h List.not_mem_nil,
    fun _ h => absurd h List.not_mem_nil⟩
set_option maxRecDepth 100000 in
theorem qm66 {l : Launch} {D : zk_D} {base : Nat} {Hb : Heap} : zk_Met l qK D base Hb (zg_K D base Hb) yJ1_canEncode_9a6ad (Jvm.Cond.code yJ1_canEncode_9a6ad prog_20_method_4_code 1 (some .boolean) :: zg_tb) qR66 qC66 := zk_met (ws' := zg_tb) (P := qP66) (AT := zg_AT) zpn_J1 rfl rfl rfl qk66 (fun s hK => zg_wd hK) (fun p e s m args below meth c s₁ Q B hml hK => qo66 B hml hK) (fun p e s m args below meth c s₁ v G0 H0 B hml hK ha hp hF q hq => absurd hq List.not_mem_nil)
set_option maxRecDepth 100000 in
def qR67 : Room := { frames := 1, cells := 0, slots := 0, locals := 20 }
set_option maxHeartbeats 4000000 in
set_option maxRecDepth 100000 in
theorem qo67 {p : Program} {l : Launch} {e : Env} {s : State} {m : MethodId} {args : Array Value} {below : List Frame} {meth : Method} {c : Code} {s₁ : State} {Q : State → Prop} {D : zk_D} {base : Nat} {Hb : Heap} (B : BodyLoose p l yJ9_max_7cf53 (headSpec (Jvm.Cond.code yJ9_max_7cf53 prog_18_method_65_code 2 (some .int) :: zg_tb) qR67) prog_18_method_65_code 2 (some .int) e s m args below meth c s₁) (hml : c.maxLocals = 2) (hK : zg_K D base Hb s) : zk_ok p l e (headSpec (Jvm.Cond.code yJ9_max_7cf53 prog_18_method_65_code 2 (some .int) :: zg_tb) qR67).room s m args below meth c Q qK D base Hb 2 prog_18_method_65_code qP67 qC67.2.2.2.2 := by
  have S : CallFix p m c prog_18_method_65_code 2 s args (Jvm.Cond.code yJ9_max_7cf53 prog_18_method_65_code 2 (some .int) :: zg_tb) RJ9 := ⟨B.exec, B.bytes, hml, findClass_of_methodNamed B.named, atoms_spec (ws := (Jvm.Cond.code yJ9_max_7cf53 prog_18_method_65_code 2 (some .int) :: zg_tb)) B.pre⟩
  exact ⟨fun _ h => absurd h List.not_mem_nil,
    fun _ h => absurd h List.not_mem_nil,
    fun _ h => absurd h List.not_mem_nil,
    fun _ h => absurd h List.not_mem_nil,
    fun h => absurd rfl h,
    fun _ h => absurd h List.not_mem_nil,
    fun _ h => absurd h List.not_mem_nil⟩
set_option maxRecDepth 100000 in
theorem qm67 {l : Launch} {D : zk_D} {base : Nat} {Hb : Heap} : zk_Met l qK D base Hb (zg_K D base Hb) yJ9_max_7cf53 (Jvm.Cond.code yJ9_max_7cf53 prog_18_method_65_code 2 (some .int) :: zg_tb) qR67 qC67 := zk_metF (ws' := zg_tb) (P := qP67) (AT := zg_AT) zpf_yJ9_max_7cf53 rfl rfl rfl qk67 (fun s hK => zg_wd hK) (fun p e s m args below meth c s₁ Q B hml hK => qo67 B hml hK) (fun p e s m args below meth c s₁ v G0 H0 B hml hK ha hp hF q hq => absurd hq List.not_mem_nil)
set_option maxRecDepth 100000 in
def qR68 : Room := { frames := 1, cells := 0, slots := 0, locals := 20 }
set_option maxHeartbeats 4000000 in
set_option maxRecDepth 100000 in
theorem qo68 {p : Program} {l : Launch} {e : Env} {s : State} {m : MethodId} {args : Array Value} {below : List Frame} {meth : Method} {c : Code} {s₁ : State} {Q : State → Prop} {D : zk_D} {base : Nat} {Hb : Heap} (B : BodyLoose p l yJ9_min_7cf53 (headSpec (Jvm.Cond.code yJ9_min_7cf53 prog_18_method_69_code 2 (some .int) :: zg_tb) qR68) prog_18_method_69_code 2 (some .int) e s m args below meth c s₁) (hml : c.maxLocals = 2) (hK : zg_K D base Hb s) : zk_ok p l e (headSpec (Jvm.Cond.code yJ9_min_7cf53 prog_18_method_69_code 2 (some .int) :: zg_tb) qR68).room s m args below meth c Q qK D base Hb 2 prog_18_method_69_code qP68 qC68.2.2.2.2 := by
  have S : CallFix p m c prog_18_method_69_code 2 s args (Jvm.Cond.code yJ9_min_7cf53 prog_18_method_69_code 2 (some .int) :: zg_tb) RJ9 := ⟨B.exec, B.bytes, hml, findClass_of_methodNamed B.named, atoms_spec (ws := (Jvm.Cond.code yJ9_min_7cf53 prog_18_method_69_code 2 (some .int) :: zg_tb)) B.pre⟩
  exact ⟨fun _ h => absurd h List.not_mem_nil,
    fun _ h => absurd h List.not_mem_nil,
    fun _ h => absurd h List.not_mem_nil,
    fun _ h => absurd h List.not_mem_nil,
    fun h => absurd rfl h,
    fun _ h => absurd h List.not_mem_nil,
    fun _ h => absurd h List.not_mem_nil⟩
set_option maxRecDepth 100000 in
theorem qm68 {l : Launch} {D : zk_D} {base : Nat} {Hb : Heap} : zk_Met l qK D base Hb (zg_K D base Hb) yJ9_min_7cf53 (Jvm.Cond.code yJ9_min_7cf53 prog_18_method_69_code 2 (some .int) :: zg_tb) qR68 qC68 := zk_metF (ws' := zg_tb) (P := qP68) (AT := zg_AT) zpf_yJ9_min_7cf53 rfl rfl rfl qk68 (fun s hK => zg_wd hK) (fun p e s m args below meth c s₁ Q B hml hK => qo68 B hml hK) (fun p e s m args below meth c s₁ v G0 H0 B hml hK ha hp hF q hq => absurd hq List.not_mem_nil)
set_option maxRecDepth 100000 in
def qR69 : Room := { frames := 1, cells := 0, slots := 0, locals := 20 }
set_option maxHeartbeats 4000000 in
set_option maxRecDepth 100000 in
theorem qo69 {p : Program} {l : Launch} {e : Env} {s : State} {m : MethodId} {args : Array Value} {below : List Frame} {meth : Method} {c : Code} {s₁ : State} {Q : State → Prop} {D : zk_D} {base : Nat} {Hb : Heap} (B : BodyLoose p l yJ1_indexOfChar_4cfef (headSpec (Jvm.Cond.code yJ1_indexOfChar_4cfef prog_20_method_23_code 6 (some .int) :: zg_tb) qR69) prog_20_method_23_code 6 (some .int) e s m args below meth c s₁) (hml : c.maxLocals = 6) (hK : zg_K D base Hb s) : zk_ok p l e (headSpec (Jvm.Cond.code yJ1_indexOfChar_4cfef prog_20_method_23_code 6 (some .int) :: zg_tb) qR69).room s m args below meth c Q qK D base Hb 6 prog_20_method_23_code qP69 qC69.2.2.2.2 := by
  have S : CallFix p m c prog_20_method_23_code 6 s args (Jvm.Cond.code yJ1_indexOfChar_4cfef prog_20_method_23_code 6 (some .int) :: zg_tb) RJ1 := ⟨B.exec, B.bytes, hml, findClass_of_methodNamed B.named, atoms_spec (ws := (Jvm.Cond.code yJ1_indexOfChar_4cfef prog_20_method_23_code 6 (some .int) :: zg_tb)) B.pre⟩
  exact ⟨fun _ h => absurd h List.not_mem_nil,
    fun _ h => absurd h List.not_mem_nil,
    fun _ h => absurd h List.not_mem_nil,
    fun _ h => absurd h List.not_mem_nil,
    fun h => absurd rfl h,
    fun _ h => absurd h List.not_mem_nil,
    fun _ h => absurd h List.not_mem_nil⟩
set_option maxRecDepth 100000 in
theorem qm69 {l : Launch} {D : zk_D} {base : Nat} {Hb : Heap} : zk_Met l qK D base Hb (zg_K D base Hb) yJ1_indexOfChar_4cfef (Jvm.Cond.code yJ1_indexOfChar_4cfef prog_20_method_23_code 6 (some .int) :: zg_tb) qR69 qC69 := zk_met (ws' := zg_tb) (P := qP69) (AT := zg_AT) zpn_J1 rfl rfl rfl qk69 (fun s hK => zg_wd hK) (fun p e s m args below meth c s₁ Q B hml hK => qo69 B hml hK) (fun p e s m args below meth c s₁ v G0 H0 B hml hK ha hp hF q hq => absurd hq List.not_mem_nil)
set_option maxRecDepth 100000 in
def qR70 : Room := { frames := 2, cells := 0, slots := 0, locals := 45 }
set_option maxHeartbeats 4000000 in
set_option maxRecDepth 100000 in
theorem qo70 {p : Program} {l : Launch} {e : Env} {s : State} {m : MethodId} {args : Array Value} {below : List Frame} {meth : Method} {c : Code} {s₁ : State} {Q : State → Prop} {D : zk_D} {base : Nat} {Hb : Heap} (B : BodyLoose p l yJ1_indexOf_4cfef (headSpec (Jvm.Cond.code yJ1_indexOf_4cfef prog_20_method_22_code 4 (some .int) :: zg_tb) qR70) prog_20_method_22_code 4 (some .int) e s m args below meth c s₁) (hml : c.maxLocals = 4) (hK : zg_K D base Hb s) : zk_ok p l e (headSpec (Jvm.Cond.code yJ1_indexOf_4cfef prog_20_method_22_code 4 (some .int) :: zg_tb) qR70).room s m args below meth c Q qK D base Hb 4 prog_20_method_22_code qP70 qC70.2.2.2.2 := by
  have S : CallFix p m c prog_20_method_22_code 4 s args (Jvm.Cond.code yJ1_indexOf_4cfef prog_20_method_22_code 4 (some .int) :: zg_tb) RJ1 := ⟨B.exec, B.bytes, hml, findClass_of_methodNamed B.named, atoms_spec (ws := (Jvm.Cond.code yJ1_indexOf_4cfef prog_20_method_22_code 4 (some .int) :: zg_tb)) B.pre⟩
  exact ⟨fun _ h => absurd h List.not_mem_nil,
    fun _ h => absurd h List.not_mem_nil,
    fun _ h => absurd h List.not_mem_nil,
    fun _ h => absurd h List.not_mem_nil,
    fun h => absurd rfl h,
    fun _ h => absurd h List.not_mem_nil,
    List.forall_mem_cons.mpr ⟨zg_callS (fun w h => List.mem_cons_of_mem _ h) zg_tb_all S hK zg_Km qm66 zw2_204 zy_yJ1_canEncode_9a6ad_S (by decide +kernel) ⟨rfl, rfl⟩ (zk_dg_ok qdo_20_22 (by decide +kernel)), List.forall_mem_cons.mpr ⟨zg_callS (fun w h => List.mem_cons_of_mem _ h) zg_tb_all S hK zg_Km qm67 zw2_207 zy_yJ9_max_7cf53_S (by decide +kernel) ⟨rfl, rfl⟩ (zk_dg_ok qdo_20_22 (by decide +kernel)), List.forall_mem_cons.mpr ⟨zg_callS (fun w h => List.mem_cons_of_mem _ h) zg_tb_all S hK zg_Km qm68 zw2_210 zy_yJ9_min_7cf53_S (by decide +kernel) ⟨rfl, rfl⟩ (zk_dg_ok qdo_20_22 (by decide +kernel)), List.forall_mem_cons.mpr ⟨zg_callS (fun w h => List.mem_cons_of_mem _ h) zg_tb_all S hK zg_Km qm69 zw2_213 zy_yJ1_indexOfChar_4cfef_S (by decide +kernel) ⟨rfl, rfl⟩ (zk_dg_ok qdo_20_22 (by decide +kernel)), fun _ h => absurd h List.not_mem_nil⟩⟩⟩⟩⟩
set_option maxRecDepth 100000 in
theorem qm70 {l : Launch} {D : zk_D} {base : Nat} {Hb : Heap} : zk_Met l qK D base Hb (zg_K D base Hb) yJ1_indexOf_4cfef (Jvm.Cond.code yJ1_indexOf_4cfef prog_20_method_22_code 4 (some .int) :: zg_tb) qR70 qC70 := zk_met (ws' := zg_tb) (P := qP70) (AT := zg_AT) zpn_J1 rfl rfl rfl qk70 (fun s hK => zg_wd hK) (fun p e s m args below meth c s₁ Q B hml hK => qo70 B hml hK) (fun p e s m args below meth c s₁ v G0 H0 B hml hK ha hp hF q hq => absurd hq List.not_mem_nil)
set_option maxRecDepth 100000 in
def qR71 : Room := { frames := 3, cells := 0, slots := 0, locals := 68 }
set_option maxHeartbeats 4000000 in
set_option maxRecDepth 100000 in
theorem qo71 {p : Program} {l : Launch} {e : Env} {s : State} {m : MethodId} {args : Array Value} {below : List Frame} {meth : Method} {c : Code} {s₁ : State} {Q : State → Prop} {D : zk_D} {base : Nat} {Hb : Heap} (B : BodyLoose p l yJ0_indexOf_7cf53 (headSpec (Jvm.Cond.code yJ0_indexOf_7cf53 prog_19_method_80_code 3 (some .int) :: zg_tb) qR71) prog_19_method_80_code 3 (some .int) e s m args below meth c s₁) (hml : c.maxLocals = 3) (hK : zg_K D base Hb s) : zk_ok p l e (headSpec (Jvm.Cond.code yJ0_indexOf_7cf53 prog_19_method_80_code 3 (some .int) :: zg_tb) qR71).room s m args below meth c Q qK D base Hb 3 prog_19_method_80_code qP71 qC71.2.2.2.2 := by
  have S : CallFix p m c prog_19_method_80_code 3 s args (Jvm.Cond.code yJ0_indexOf_7cf53 prog_19_method_80_code 3 (some .int) :: zg_tb) RJ0 := ⟨B.exec, B.bytes, hml, findClass_of_methodNamed B.named, atoms_spec (ws := (Jvm.Cond.code yJ0_indexOf_7cf53 prog_19_method_80_code 3 (some .int) :: zg_tb)) B.pre⟩
  exact ⟨List.forall_mem_cons.mpr ⟨⟨zg_gokS S (hK.2.2.2.2.2.2.2.2.1 _ (List.mem_of_getElem? (i := 0) rfl)) (List.mem_cons_of_mem _ zw8_57), zg_pok4⟩, fun _ h => absurd h List.not_mem_nil⟩,
    fun _ h => absurd h List.not_mem_nil,
    fun _ h => absurd h List.not_mem_nil,
    fun _ h => absurd h List.not_mem_nil,
    fun h => absurd rfl h,
    fun _ h => absurd h List.not_mem_nil,
    List.forall_mem_cons.mpr ⟨zg_callV (fun w h => List.mem_cons_of_mem _ h) zg_tb_all S hK zg_Km qm63 zw2_196 zy_yJ0_isLatin1_aae02_V (ci := 13) (by decide +kernel) hK.2.2.2.2.2.2.2.1 ⟨rfl, rfl⟩ (zk_dg_ok qdo_19_80 (by decide +kernel)), List.forall_mem_cons.mpr ⟨zg_callV (fun w h => List.mem_cons_of_mem _ h) zg_tb_all S hK zg_Km qm65 zw2_200 zy_yJ0_length_8abf5_V (ci := 13) (by decide +kernel) hK.2.2.2.2.2.2.2.1 ⟨rfl, rfl⟩ (zk_dg_ok qdo_19_80 (by decide +kernel)), List.forall_mem_cons.mpr ⟨zg_callS (fun w h => List.mem_cons_of_mem _ h) zg_tb_all S hK zg_Km qm70 zw2_201 zy_yJ1_indexOf_4cfef_S (by decide +kernel) ⟨rfl, rfl⟩ (zk_dg_ok qdo_19_80 (by decide +kernel)), fun _ h => absurd h List.not_mem_nil⟩⟩⟩⟩
set_option maxRecDepth 100000 in
theorem qm71 {l : Launch} {D : zk_D} {base : Nat} {Hb : Heap} : zk_Met l qK D base Hb (zg_K D base Hb) yJ0_indexOf_7cf53 (Jvm.Cond.code yJ0_indexOf_7cf53 prog_19_method_80_code 3 (some .int) :: zg_tb) qR71 qC71 := zk_met (ws' := zg_tb) (P := qP71) (AT := zg_AT) zpn_J0 rfl rfl rfl qk71 (fun s hK => zg_wd hK) (fun p e s m args below meth c s₁ Q B hml hK => qo71 B hml hK) (fun p e s m args below meth c s₁ v G0 H0 B hml hK ha hp hF q hq => absurd hq List.not_mem_nil)
set_option maxRecDepth 100000 in
def qR72 : Room := { frames := 4, cells := 0, slots := 0, locals := 90 }
set_option maxHeartbeats 4000000 in
set_option maxRecDepth 100000 in
theorem qo72 {p : Program} {l : Launch} {e : Env} {s : State} {m : MethodId} {args : Array Value} {below : List Frame} {meth : Method} {c : Code} {s₁ : State} {Q : State → Prop} {D : zk_D} {base : Nat} {Hb : Heap} (B : BodyLoose p l yJ0_indexOf_0f7a4 (headSpec (Jvm.Cond.code yJ0_indexOf_0f7a4 prog_19_method_79_code 2 (some .int) :: zg_tb) qR72) prog_19_method_79_code 2 (some .int) e s m args below meth c s₁) (hml : c.maxLocals = 2) (hK : zg_K D base Hb s) : zk_ok p l e (headSpec (Jvm.Cond.code yJ0_indexOf_0f7a4 prog_19_method_79_code 2 (some .int) :: zg_tb) qR72).room s m args below meth c Q qK D base Hb 2 prog_19_method_79_code qP72 qC72.2.2.2.2 := by
  have S : CallFix p m c prog_19_method_79_code 2 s args (Jvm.Cond.code yJ0_indexOf_0f7a4 prog_19_method_79_code 2 (some .int) :: zg_tb) RJ0 := ⟨B.exec, B.bytes, hml, findClass_of_methodNamed B.named, atoms_spec (ws := (Jvm.Cond.code yJ0_indexOf_0f7a4 prog_19_method_79_code 2 (some .int) :: zg_tb)) B.pre⟩
  exact ⟨fun _ h => absurd h List.not_mem_nil,
    fun _ h => absurd h List.not_mem_nil,
    fun _ h => absurd h List.not_mem_nil,
    fun _ h => absurd h List.not_mem_nil,
    fun h => absurd rfl h,
    fun _ h => absurd h List.not_mem_nil,
    List.forall_mem_cons.mpr ⟨zg_callV (fun w h => List.mem_cons_of_mem _ h) zg_tb_all S hK zg_Km qm71 zw2_192 zy_yJ0_indexOf_7cf53_V (ci := 13) (by decide +kernel) hK.2.2.2.2.2.2.2.1 ⟨rfl, rfl⟩ (zk_dg_ok qdo_19_79 (by decide +kernel)), fun _ h => absurd h List.not_mem_nil⟩⟩
set_option maxRecDepth 100000 in
theorem qm72 {l : Launch} {D : zk_D} {base : Nat} {Hb : Heap} : zk_Met l qK D base Hb (zg_K D base Hb) yJ0_indexOf_0f7a4 (Jvm.Cond.code yJ0_indexOf_0f7a4 prog_19_method_79_code 2 (some .int) :: zg_tb) qR72 qC72 := zk_met (ws' := zg_tb) (P := qP72) (AT := zg_AT) zpn_J0 rfl rfl rfl qk72 (fun s hK => zg_wd hK) (fun p e s m args below meth c s₁ Q B hml hK => qo72 B hml hK) (fun p e s m args below meth c s₁ v G0 H0 B hml hK ha hp hF q hq => absurd hq List.not_mem_nil)
set_option maxRecDepth 100000 in
def qR73 : Room := { frames := 8, cells := 0, slots := 0, locals := 180 }
set_option maxHeartbeats 4000000 in
set_option maxRecDepth 100000 in
theorem qo73 {p : Program} {l : Launch} {e : Env} {s : State} {m : MethodId} {args : Array Value} {below : List Frame} {meth : Method} {c : Code} {s₁ : State} {Q : State → Prop} {D : zk_D} {base : Nat} {Hb : Heap} (B : BodyLoose p l yX6_readAtom (headSpec (Jvm.Cond.code yX6_readAtom prog_8_method_14_code 4 (some .boolean) :: zg_tb) qR73) prog_8_method_14_code 4 (some .boolean) e s m args below meth c s₁) (hml : c.maxLocals = 4) (hK : zg_K D base Hb s) : zk_ok p l e (headSpec (Jvm.Cond.code yX6_readAtom prog_8_method_14_code 4 (some .boolean) :: zg_tb) qR73).room s m args below meth c Q qK D base Hb 4 prog_8_method_14_code qP73 qC73.2.2.2.2 := by
  have S : CallFix p m c prog_8_method_14_code 4 s args (Jvm.Cond.code yX6_readAtom prog_8_method_14_code 4 (some .boolean) :: zg_tb) RX6 := ⟨B.exec, B.bytes, hml, findClass_of_methodNamed B.named, atoms_spec (ws := (Jvm.Cond.code yX6_readAtom prog_8_method_14_code 4 (some .boolean) :: zg_tb)) B.pre⟩
  exact ⟨List.forall_mem_cons.mpr ⟨zg_gp S (hK.2.1 6 _ rfl) (fun w h => (List.mem_cons_of_mem _ (zc6 w h))) rfl zt6_3 (List.mem_cons_of_mem _ zw1_119) rfl, fun _ h => absurd h List.not_mem_nil⟩,
    fun _ h => absurd h List.not_mem_nil,
    fun _ h => absurd h List.not_mem_nil,
    fun _ h => absurd h List.not_mem_nil,
    fun h => absurd rfl h,
    List.forall_mem_cons.mpr ⟨zg_kokS (k := 24) (tx := "wlsknauhrmyo") S (zg_sR2 hK) (by decide +kernel) (by decide) (zk_dg_ok qdo_8_14 (by decide +kernel)), fun _ h => absurd h List.not_mem_nil⟩,
    List.forall_mem_cons.mpr ⟨zg_callV (fun w h => List.mem_cons_of_mem _ h) zg_tb_all S hK zg_Km qm36 zw2_183 zy_yX6_ahead_V (ci := 6) (by decide +kernel) (hK.2.1 6 _ rfl).2.1 ⟨rfl, rfl⟩ (zk_dg_ok qdo_8_14 (by decide +kernel)), List.forall_mem_cons.mpr ⟨zg_callV (fun w h => List.mem_cons_of_mem _ h) zg_tb_all S hK zg_Km qm49 zw3_45 zy_yX6_readNumber_V (ci := 6) (by decide +kernel) (hK.2.1 6 _ rfl).2.1 ⟨rfl, rfl⟩ (zk_dg_ok qdo_8_14 (by decide +kernel)), List.forall_mem_cons.mpr ⟨zg_callV (fun w h => List.mem_cons_of_mem _ h) zg_tb_all S hK zg_Km qm62 zw3_33 zy_yX6_readSum_V (ci := 6) (by decide +kernel) (hK.2.1 6 _ rfl).2.1 ⟨rfl, rfl⟩ (zk_dg_ok qdo_8_14 (by decide +kernel)), List.forall_mem_cons.mpr ⟨zg_callV (fun w h => List.mem_cons_of_mem _ h) zg_tb_all S hK zg_Km qm48 zw3_29 zy_yX6_pass_V (ci := 6) (by decide +kernel) (hK.2.1 6 _ rfl).2.1 ⟨rfl, rfl⟩ (zk_dg_ok qdo_8_14 (by decide +kernel)), List.forall_mem_cons.mpr ⟨zg_callV (fun w h => List.mem_cons_of_mem _ h) zg_tb_all S hK zg_Km qm72 zw2_188 zy_yJ0_indexOf_0f7a4_V (ci := 13) (by decide +kernel) hK.2.2.2.2.2.2.2.1 ⟨rfl, rfl⟩ (zk_dg_ok qdo_8_14 (by decide +kernel)), List.forall_mem_cons.mpr ⟨zg_callV (fun w h => List.mem_cons_of_mem _ h) zg_tb_all S hK zg_Km qm47 zw3_25 zy_yX6_add_V (ci := 6) (by decide +kernel) (hK.2.1 6 _ rfl).2.1 ⟨rfl, rfl⟩ (zk_dg_ok qdo_8_14 (by decide +kernel)), fun _ h => absurd h List.not_mem_nil⟩⟩⟩⟩⟩⟩⟩
set_option maxRecDepth 100000 in
theorem qm73 {l : Launch} {D : zk_D} {base : Nat} {Hb : Heap} : zk_Met l qK D base Hb (zg_K D base Hb) yX6_readAtom (Jvm.Cond.code yX6_readAtom prog_8_method_14_code 4 (some .boolean) :: zg_tb) qR73 qC73 := zk_met (ws' := zg_tb) (P := qP73) (AT := zg_AT) zpn_X6 rfl rfl rfl qk73 (fun s hK => zg_wd hK) (fun p e s m args below meth c s₁ Q B hml hK => qo73 B hml hK) (fun p e s m args below meth c s₁ v G0 H0 B hml hK ha hp hF q hq => absurd hq List.not_mem_nil)
set_option maxRecDepth 100000 in
def qR74 : Room := { frames := 9, cells := 0, slots := 0, locals := 203 }
set_option maxHeartbeats 4000000 in
set_option maxRecDepth 100000 in
theorem qo74 {p : Program} {l : Launch} {e : Env} {s : State} {m : MethodId} {args : Array Value} {below : List Frame} {meth : Method} {c : Code} {s₁ : State} {Q : State → Prop} {D : zk_D} {base : Nat} {Hb : Heap} (B : BodyLoose p l yX6_readTerm (headSpec (Jvm.Cond.code yX6_readTerm prog_8_method_13_code 4 (some .boolean) :: zg_tb) qR74) prog_8_method_13_code 4 (some .boolean) e s m args below meth c s₁) (hml : c.maxLocals = 4) (hK : zg_K D base Hb s) : zk_ok p l e (headSpec (Jvm.Cond.code yX6_readTerm prog_8_method_13_code 4 (some .boolean) :: zg_tb) qR74).room s m args below meth c Q qK D base Hb 4 prog_8_method_13_code qP74 qC74.2.2.2.2 := by
  have S : CallFix p m c prog_8_method_13_code 4 s args (Jvm.Cond.code yX6_readTerm prog_8_method_13_code 4 (some .boolean) :: zg_tb) RX6 := ⟨B.exec, B.bytes, hml, findClass_of_methodNamed B.named, atoms_spec (ws := (Jvm.Cond.code yX6_readTerm prog_8_method_13_code 4 (some .boolean) :: zg_tb)) B.pre⟩
  exact ⟨List.forall_mem_cons.mpr ⟨zg_gp S (hK.2.1 6 _ rfl) (fun w h => (List.mem_cons_of_mem _ (zc6 w h))) rfl zt6_3 (List.mem_cons_of_mem _ zw1_119) rfl, fun _ h => absurd h List.not_mem_nil⟩,
    fun _ h => absurd h List.not_mem_nil,
    fun _ h => absurd h List.not_mem_nil,
    fun _ h => absurd h List.not_mem_nil,
    fun h => absurd rfl h,
    fun _ h => absurd h List.not_mem_nil,
    List.forall_mem_cons.mpr ⟨zg_callV (fun w h => List.mem_cons_of_mem _ h) zg_tb_all S hK zg_Km qm73 zw3_41 zy_yX6_readAtom_V (ci := 6) (by decide +kernel) (hK.2.1 6 _ rfl).2.1 ⟨rfl, rfl⟩ (zk_dg_ok qdo_8_13 (by decide +kernel)), List.forall_mem_cons.mpr ⟨zg_callV (fun w h => List.mem_cons_of_mem _ h) zg_tb_all S hK zg_Km qm36 zw2_183 zy_yX6_ahead_V (ci := 6) (by decide +kernel) (hK.2.1 6 _ rfl).2.1 ⟨rfl, rfl⟩ (zk_dg_ok qdo_8_13 (by decide +kernel)), List.forall_mem_cons.mpr ⟨zg_callV (fun w h => List.mem_cons_of_mem _ h) zg_tb_all S hK zg_Km qm73 zw3_41 zy_yX6_readAtom_V (ci := 6) (by decide +kernel) (hK.2.1 6 _ rfl).2.1 ⟨rfl, rfl⟩ (zk_dg_ok qdo_8_13 (by decide +kernel)), List.forall_mem_cons.mpr ⟨zg_callV (fun w h => List.mem_cons_of_mem _ h) zg_tb_all S hK zg_Km qm47 zw3_25 zy_yX6_add_V (ci := 6) (by decide +kernel) (hK.2.1 6 _ rfl).2.1 ⟨rfl, rfl⟩ (zk_dg_ok qdo_8_13 (by decide +kernel)), fun _ h => absurd h List.not_mem_nil⟩⟩⟩⟩⟩
set_option maxRecDepth 100000 in
theorem qm74 {l : Launch} {D : zk_D} {base : Nat} {Hb : Heap} : zk_Met l qK D base Hb (zg_K D base Hb) yX6_readTerm (Jvm.Cond.code yX6_readTerm prog_8_method_13_code 4 (some .boolean) :: zg_tb) qR74 qC74 := zk_met (ws' := zg_tb) (P := qP74) (AT := zg_AT) zpn_X6 rfl rfl rfl qk74 (fun s hK => zg_wd hK) (fun p e s m args below meth c s₁ Q B hml hK => qo74 B hml hK) (fun p e s m args below meth c s₁ v G0 H0 B hml hK ha hp hF q hq => absurd hq List.not_mem_nil)
set_option maxRecDepth 100000 in
def qR75 : Room := { frames := 10, cells := 0, slots := 0, locals := 226 }
set_option maxHeartbeats 4000000 in
set_option maxRecDepth 100000 in
theorem qo75 {p : Program} {l : Launch} {e : Env} {s : State} {m : MethodId} {args : Array Value} {below : List Frame} {meth : Method} {c : Code} {s₁ : State} {Q : State → Prop} {D : zk_D} {base : Nat} {Hb : Heap} (B : BodyLoose p l yX6_readSum (headSpec (Jvm.Cond.code yX6_readSum prog_8_method_12_code 4 (some .boolean) :: zg_tb) qR75) prog_8_method_12_code 4 (some .boolean) e s m args below meth c s₁) (hml : c.maxLocals = 4) (hK : zg_K D base Hb s) : zk_ok p l e (headSpec (Jvm.Cond.code yX6_readSum prog_8_method_12_code 4 (some .boolean) :: zg_tb) qR75).room s m args below meth c Q qK D base Hb 4 prog_8_method_12_code qP75 qC75.2.2.2.2 := by
  have S : CallFix p m c prog_8_method_12_code 4 s args (Jvm.Cond.code yX6_readSum prog_8_method_12_code 4 (some .boolean) :: zg_tb) RX6 := ⟨B.exec, B.bytes, hml, findClass_of_methodNamed B.named, atoms_spec (ws := (Jvm.Cond.code yX6_readSum prog_8_method_12_code 4 (some .boolean) :: zg_tb)) B.pre⟩
  exact ⟨List.forall_mem_cons.mpr ⟨zg_gp S (hK.2.1 6 _ rfl) (fun w h => (List.mem_cons_of_mem _ (zc6 w h))) rfl zt6_3 (List.mem_cons_of_mem _ zw1_119) rfl, fun _ h => absurd h List.not_mem_nil⟩,
    fun _ h => absurd h List.not_mem_nil,
    fun _ h => absurd h List.not_mem_nil,
    fun _ h => absurd h List.not_mem_nil,
    fun h => absurd rfl h,
    fun _ h => absurd h List.not_mem_nil,
    List.forall_mem_cons.mpr ⟨zg_callV (fun w h => List.mem_cons_of_mem _ h) zg_tb_all S hK zg_Km qm74 zw3_37 zy_yX6_readTerm_V (ci := 6) (by decide +kernel) (hK.2.1 6 _ rfl).2.1 ⟨rfl, rfl⟩ (zk_dg_ok qdo_8_12 (by decide +kernel)), List.forall_mem_cons.mpr ⟨zg_callV (fun w h => List.mem_cons_of_mem _ h) zg_tb_all S hK zg_Km qm36 zw2_183 zy_yX6_ahead_V (ci := 6) (by decide +kernel) (hK.2.1 6 _ rfl).2.1 ⟨rfl, rfl⟩ (zk_dg_ok qdo_8_12 (by decide +kernel)), List.forall_mem_cons.mpr ⟨zg_callV (fun w h => List.mem_cons_of_mem _ h) zg_tb_all S hK zg_Km qm74 zw3_37 zy_yX6_readTerm_V (ci := 6) (by decide +kernel) (hK.2.1 6 _ rfl).2.1 ⟨rfl, rfl⟩ (zk_dg_ok qdo_8_12 (by decide +kernel)), List.forall_mem_cons.mpr ⟨zg_callV (fun w h => List.mem_cons_of_mem _ h) zg_tb_all S hK zg_Km qm47 zw3_25 zy_yX6_add_V (ci := 6) (by decide +kernel) (hK.2.1 6 _ rfl).2.1 ⟨rfl, rfl⟩ (zk_dg_ok qdo_8_12 (by decide +kernel)), fun _ h => absurd h List.not_mem_nil⟩⟩⟩⟩⟩
set_option maxRecDepth 100000 in
theorem qm75 {l : Launch} {D : zk_D} {base : Nat} {Hb : Heap} : zk_Met l qK D base Hb (zg_K D base Hb) yX6_readSum (Jvm.Cond.code yX6_readSum prog_8_method_12_code 4 (some .boolean) :: zg_tb) qR75 qC75 := zk_met (ws' := zg_tb) (P := qP75) (AT := zg_AT) zpn_X6 rfl rfl rfl qk75 (fun s hK => zg_wd hK) (fun p e s m args below meth c s₁ Q B hml hK => qo75 B hml hK) (fun p e s m args below meth c s₁ v G0 H0 B hml hK ha hp hF q hq => absurd hq List.not_mem_nil)
set_option maxRecDepth 100000 in
def qR76 : Room := { frames := 1, cells := 0, slots := 0, locals := 20 }
set_option maxHeartbeats 4000000 in
set_option maxRecDepth 100000 in
theorem qo76 {p : Program} {l : Launch} {e : Env} {s : State} {m : MethodId} {args : Array Value} {below : List Frame} {meth : Method} {c : Code} {s₁ : State} {Q : State → Prop} {D : zk_D} {base : Nat} {Hb : Heap} (B : BodyLoose p l yJ0_isLatin1_aae02 (headSpec (Jvm.Cond.code yJ0_isLatin1_aae02 prog_19_method_154_code 1 (some .boolean) :: zg_tb) qR76) prog_19_method_154_code 1 (some .boolean) e s m args below meth c s₁) (hml : c.maxLocals = 1) (hK : zg_K D base Hb s) : zk_ok p l e (headSpec (Jvm.Cond.code yJ0_isLatin1_aae02 prog_19_method_154_code 1 (some .boolean) :: zg_tb) qR76).room s m args below meth c Q qK D base Hb 1 prog_19_method_154_code qP76 qC76.2.2.2.2 := by
  have S : CallFix p m c prog_19_method_154_code 1 s args (Jvm.Cond.code yJ0_isLatin1_aae02 prog_19_method_154_code 1 (some .boolean) :: zg_tb) RJ0 := ⟨B.exec, B.bytes, hml, findClass_of_methodNamed B.named, atoms_spec (ws := (Jvm.Cond.code yJ0_isLatin1_aae02 prog_19_method_154_code 1 (some .boolean) :: zg_tb)) B.pre⟩
  exact ⟨List.forall_mem_cons.mpr ⟨⟨zg_gokS S (hK.2.2.2.2.2.2.2.2.1 _ (List.mem_of_getElem? (i := 1) rfl)) (List.mem_cons_of_mem _ zw8_58), zg_pok4⟩, fun _ h => absurd h List.not_mem_nil⟩,
    fun _ h => absurd h List.not_mem_nil,
    fun _ h => absurd h List.not_mem_nil,
    fun _ h => absurd h List.not_mem_nil,
    fun h => absurd rfl h,
    List.forall_mem_cons.mpr ⟨zg_kokG S (hK.2.2.2.2.2.2.2.2.2.2.1 _ (List.mem_of_getElem? (i := 0) rfl)) (List.mem_cons_of_mem _ zw1_144) (by decide +kernel) (zk_dg_ok qdo_19_154 (by decide +kernel)), fun _ h => absurd h List.not_mem_nil⟩,
    fun _ h => absurd h List.not_mem_nil⟩
set_option maxRecDepth 100000 in
theorem qm76 {l : Launch} {D : zk_D} {base : Nat} {Hb : Heap} : zk_Met l qK D base Hb (zg_K D base Hb) yJ0_isLatin1_aae02 (Jvm.Cond.code yJ0_isLatin1_aae02 prog_19_method_154_code 1 (some .boolean) :: zg_tb) qR76 qC76 := zk_met (ws' := zg_tb) (P := qP76) (AT := zg_AT) zpn_J0 rfl rfl rfl qk76 (fun s hK => zg_wd hK) (fun p e s m args below meth c s₁ Q B hml hK => qo76 B hml hK) (fun p e s m args below meth c s₁ v G0 H0 B hml hK ha hp hF q hq => absurd hq List.not_mem_nil)
set_option maxRecDepth 100000 in
def qR77 : Room := { frames := 1, cells := 0, slots := 0, locals := 20 }
set_option maxHeartbeats 4000000 in
set_option maxRecDepth 100000 in
theorem qo77 {p : Program} {l : Launch} {e : Env} {s : State} {m : MethodId} {args : Array Value} {below : List Frame} {meth : Method} {c : Code} {s₁ : State} {Q : State → Prop} {D : zk_D} {base : Nat} {Hb : Heap} (B : BodyLoose p l yJ0_coder_7d493 (headSpec (Jvm.Cond.code yJ0_coder_7d493 prog_19_method_152_code 1 (some .byte) :: zg_tb) qR77) prog_19_method_152_code 1 (some .byte) e s m args below meth c s₁) (hml : c.maxLocals = 1) (hK : zg_K D base Hb s) : zk_ok p l e (headSpec (Jvm.Cond.code yJ0_coder_7d493 prog_19_method_152_code 1 (some .byte) :: zg_tb) qR77).room s m args below meth c Q qK D base Hb 1 prog_19_method_152_code qP77 qC77.2.2.2.2 := by
  have S : CallFix p m c prog_19_method_152_code 1 s args (Jvm.Cond.code yJ0_coder_7d493 prog_19_method_152_code 1 (some .byte) :: zg_tb) RJ0 := ⟨B.exec, B.bytes, hml, findClass_of_methodNamed B.named, atoms_spec (ws := (Jvm.Cond.code yJ0_coder_7d493 prog_19_method_152_code 1 (some .byte) :: zg_tb)) B.pre⟩
  exact ⟨List.forall_mem_cons.mpr ⟨⟨zg_gokS S (hK.2.2.2.2.2.2.2.2.1 _ (List.mem_of_getElem? (i := 1) rfl)) (List.mem_cons_of_mem _ zw8_58), zg_pok4⟩, fun _ h => absurd h List.not_mem_nil⟩,
    fun _ h => absurd h List.not_mem_nil,
    fun _ h => absurd h List.not_mem_nil,
    fun _ h => absurd h List.not_mem_nil,
    fun h => absurd rfl h,
    List.forall_mem_cons.mpr ⟨zg_kokG S (hK.2.2.2.2.2.2.2.2.2.2.1 _ (List.mem_of_getElem? (i := 0) rfl)) (List.mem_cons_of_mem _ zw1_144) (by decide +kernel) (zk_dg_ok qdo_19_152 (by decide +kernel)), fun _ h => absurd h List.not_mem_nil⟩,
    fun _ h => absurd h List.not_mem_nil⟩
set_option maxRecDepth 100000 in
theorem qm77 {l : Launch} {D : zk_D} {base : Nat} {Hb : Heap} : zk_Met l qK D base Hb (zg_K D base Hb) yJ0_coder_7d493 (Jvm.Cond.code yJ0_coder_7d493 prog_19_method_152_code 1 (some .byte) :: zg_tb) qR77 qC77 := zk_met (ws' := zg_tb) (P := qP77) (AT := zg_AT) zpn_J0 rfl rfl rfl qk77 (fun s hK => zg_wd hK) (fun p e s m args below meth c s₁ Q B hml hK => qo77 B hml hK) (fun p e s m args below meth c s₁ v G0 H0 B hml hK ha hp hF q hq => absurd hq List.not_mem_nil)
set_option maxRecDepth 100000 in
def qR78 : Room := { frames := 2, cells := 0, slots := 0, locals := 40 }
set_option maxHeartbeats 4000000 in
set_option maxRecDepth 100000 in
theorem qo78 {p : Program} {l : Launch} {e : Env} {s : State} {m : MethodId} {args : Array Value} {below : List Frame} {meth : Method} {c : Code} {s₁ : State} {Q : State → Prop} {D : zk_D} {base : Nat} {Hb : Heap} (B : BodyLoose p l yJ0_length_8abf5 (headSpec (Jvm.Cond.code yJ0_length_8abf5 prog_19_method_54_code 1 (some .int) :: zg_tb) qR78) prog_19_method_54_code 1 (some .int) e s m args below meth c s₁) (hml : c.maxLocals = 1) (hK : zg_K D base Hb s) : zk_ok p l e (headSpec (Jvm.Cond.code yJ0_length_8abf5 prog_19_method_54_code 1 (some .int) :: zg_tb) qR78).room s m args below meth c Q qK D base Hb 1 prog_19_method_54_code qP78 qC78.2.2.2.2 := by
  have S : CallFix p m c prog_19_method_54_code 1 s args (Jvm.Cond.code yJ0_length_8abf5 prog_19_method_54_code 1 (some .int) :: zg_tb) RJ0 := ⟨B.exec, B.bytes, hml, findClass_of_methodNamed B.named, atoms_spec (ws := (Jvm.Cond.code yJ0_length_8abf5 prog_19_method_54_code 1 (some .int) :: zg_tb)) B.pre⟩
  exact ⟨List.forall_mem_cons.mpr ⟨⟨zg_gokS S (hK.2.2.2.2.2.2.2.2.1 _ (List.mem_of_getElem? (i := 0) rfl)) (List.mem_cons_of_mem _ zw8_57), zg_pok4⟩, fun _ h => absurd h List.not_mem_nil⟩,
    fun _ h => absurd h List.not_mem_nil,
    fun _ h => absurd h List.not_mem_nil,
    fun _ h => absurd h List.not_mem_nil,
    fun h => absurd rfl h,
    fun _ h => absurd h List.not_mem_nil,
    List.forall_mem_cons.mpr ⟨zg_callV (fun w h => List.mem_cons_of_mem _ h) zg_tb_all S hK zg_Km qm77 zw1_140 zy_yJ0_coder_7d493_V (ci := 13) (by decide +kernel) hK.2.2.2.2.2.2.2.1 ⟨rfl, rfl⟩ (zk_dg_ok qdo_19_54 (by decide +kernel)), fun _ h => absurd h List.not_mem_nil⟩⟩
set_option maxRecDepth 100000 in
theorem qm78 {l : Launch} {D : zk_D} {base : Nat} {Hb : Heap} : zk_Met l qK D base Hb (zg_K D base Hb) yJ0_length_8abf5 (Jvm.Cond.code yJ0_length_8abf5 prog_19_method_54_code 1 (some .int) :: zg_tb) qR78 qC78 := zk_met (ws' := zg_tb) (P := qP78) (AT := zg_AT) zpn_J0 rfl rfl rfl qk78 (fun s hK => zg_wd hK) (fun p e s m args below meth c s₁ Q B hml hK => qo78 B hml hK) (fun p e s m args below meth c s₁ v G0 H0 B hml hK ha hp hF q hq => absurd hq List.not_mem_nil)
set_option maxRecDepth 100000 in
def qR79 : Room := { frames := 1, cells := 0, slots := 0, locals := 20 }
set_option maxHeartbeats 4000000 in
set_option maxRecDepth 100000 in
theorem qo79 {p : Program} {l : Launch} {e : Env} {s : State} {m : MethodId} {args : Array Value} {below : List Frame} {meth : Method} {c : Code} {s₁ : State} {Q : State → Prop} {D : zk_D} {base : Nat} {Hb : Heap} (B : BodyLoose p l yJ1_canEncode_9a6ad (headSpec (Jvm.Cond.code yJ1_canEncode_9a6ad prog_20_method_4_code 1 (some .boolean) :: zg_tb) qR79) prog_20_method_4_code 1 (some .boolean) e s m args below meth c s₁) (hml : c.maxLocals = 1) (hK : zg_K D base Hb s) : zk_ok p l e (headSpec (Jvm.Cond.code yJ1_canEncode_9a6ad prog_20_method_4_code 1 (some .boolean) :: zg_tb) qR79).room s m args below meth c Q qK D base Hb 1 prog_20_method_4_code qP79 qC79.2.2.2.2 := by
  have S : CallFix p m c prog_20_method_4_code 1 s args (Jvm.Cond.code yJ1_canEncode_9a6ad prog_20_method_4_code 1 (some .boolean) :: zg_tb) RJ1 := ⟨B.exec, B.bytes, hml, findClass_of_methodNamed B.named, atoms_spec (ws := (Jvm.Cond.code yJ1_canEncode_9a6ad prog_20_method_4_code 1 (some .boolean) :: zg_tb)) B.pre⟩
  exact ⟨fun _ h => absurd h List.not_mem_nil,
    fun _ h => absurd h List.not_mem_nil,
    fun _ h => absurd h List.not_mem_nil,
    fun _ h => absurd h List.not_mem_nil,
    fun h => absurd rfl h,
    fun _ h => absurd h List.not_mem_nil,
    fun _ h => absurd h List.not_mem_nil⟩
set_option maxRecDepth 100000 in
theorem qm79 {l : Launch} {D : zk_D} {base : Nat} {Hb : Heap} : zk_Met l qK D base Hb (zg_K D base Hb) yJ1_canEncode_9a6ad (Jvm.Cond.code yJ1_canEncode_9a6ad prog_20_method_4_code 1 (some .boolean) :: zg_tb) qR79 qC79 := zk_met (ws' := zg_tb) (P := qP79) (AT := zg_AT) zpn_J1 rfl rfl rfl qk79 (fun s hK => zg_wd hK) (fun p e s m args below meth c s₁ Q B hml hK => qo79 B hml hK) (fun p e s m args below meth c s₁ v G0 H0 B hml hK ha hp hF q hq => absurd hq List.not_mem_nil)
set_option maxRecDepth 100000 in
def qR80 : Room := { frames := 1, cells := 0, slots := 0, locals := 20 }
set_option maxHeartbeats 4000000 in
set_option maxRecDepth 100000 in
theorem qo80 {p : Program} {l : Launch} {e : Env} {s : State} {m : MethodId} {args : Array Value} {below : List Frame} {meth : Method} {c : Code} {s₁ : State} {Q : State → Prop} {D : zk_D} {base : Nat} {Hb : Heap} (B : BodyLoose p l yJ9_max_7cf53 (headSpec (Jvm.Cond.code yJ9_max_7cf53 prog_18_method_65_code 2 (some .int) :: zg_tb) qR80) prog_18_method_65_code 2 (some .int) e s m args below meth c s₁) (hml : c.maxLocals = 2) (hK : zg_K D base Hb s) : zk_ok p l e (headSpec (Jvm.Cond.code yJ9_max_7cf53 prog_18_method_65_code 2 (some .int) :: zg_tb) qR80).room s m args below meth c Q qK D base Hb 2 prog_18_method_65_code qP80 qC80.2.2.2.2 := by
  have S : CallFix p m c prog_18_method_65_code 2 s args (Jvm.Cond.code yJ9_max_7cf53 prog_18_method_65_code 2 (some .int) :: zg_tb) RJ9 := ⟨B.exec, B.bytes, hml, findClass_of_methodNamed B.named, atoms_spec (ws := (Jvm.Cond.code yJ9_max_7cf53 prog_18_method_65_code 2 (some .int) :: zg_tb)) B.pre⟩
  exact ⟨fun _ h => absurd h List.not_mem_nil,
    fun _ h => absurd h List.not_mem_nil,
    fun _ h => absurd h List.not_mem_nil,
    fun _ h => absurd h List.not_mem_nil,
    fun h => absurd rfl h,
    fun _ h => absurd h List.not_mem_nil,
    fun _ h => absurd h List.not_mem_nil⟩
set_option maxRecDepth 100000 in
theorem qm80 {l : Launch} {D : zk_D} {base : Nat} {Hb : Heap} : zk_Met l qK D base Hb (zg_K D base Hb) yJ9_max_7cf53 (Jvm.Cond.code yJ9_max_7cf53 prog_18_method_65_code 2 (some .int) :: zg_tb) qR80 qC80 := zk_metF (ws' := zg_tb) (P := qP80) (AT := zg_AT) zpf_yJ9_max_7cf53 rfl rfl rfl qk80 (fun s hK => zg_wd hK) (fun p e s m args below meth c s₁ Q B hml hK => qo80 B hml hK) (fun p e s m args below meth c s₁ v G0 H0 B hml hK ha hp hF q hq => absurd hq List.not_mem_nil)
end
