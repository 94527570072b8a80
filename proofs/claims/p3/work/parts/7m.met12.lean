/-! CONTRACTS MET: found by wip/an (python). -/
noncomputable section
set_option maxRecDepth 100000 in
def qR430 : Room := { frames := 6, cells := 0, slots := 0, locals := 133 }
set_option maxHeartbeats 4000000 in
set_option maxRecDepth 100000 in
theorem qo430 {p : Program} {l : Launch} {e : Env} {s : State} {m : MethodId} {args : Array Value} {below : List Frame} {meth : Method} {c : Code} {s₁ : State} {Q : State → Prop} {D : zk_D} {base : Nat} {Hb : Heap} (B : BodyLoose p l yX12_isBarred (headSpec (Jvm.Cond.code yX12_isBarred prog_14_method_79_code 9 (some .boolean) :: zg_tb) qR430) prog_14_method_79_code 9 (some .boolean) e s m args below meth c s₁) (hml : c.maxLocals = 9) (hK : zg_K D base Hb s) : zk_ok p l e (headSpec (Jvm.Cond.code yX12_isBarred prog_14_method_79_code 9 (some .boolean) :: zg_tb) qR430).room s m args below meth c Q qK D base Hb 9 prog_14_method_79_code qP430 qC430.2.2.2.2 := by
  have S : CallFix p m c prog_14_method_79_code 9 s args (Jvm.Cond.code yX12_isBarred prog_14_method_79_code 9 (some .boolean) :: zg_tb) RX12 := ⟨B.exec, B.bytes, hml, findClass_of_methodNamed B.named, atoms_spec (ws := (Jvm.Cond.code yX12_isBarred prog_14_method_79_code 9 (some .boolean) :: zg_tb)) B.pre⟩
  exact ⟨List.forall_mem_cons.mpr ⟨zg_gp S (hK.2.1 12 _ rfl) (fun w h => (List.mem_cons_of_mem _ (zc12 w h))) rfl zt12_58 (List.mem_cons_of_mem _ zw5_217) rfl, List.forall_mem_cons.mpr ⟨zg_gp4 S (hK.2.1 12 _ rfl) (fun w h => (List.mem_cons_of_mem _ (zc12 w h))) rfl zt12_54 (List.mem_cons_of_mem _ zw5_213), List.forall_mem_cons.mpr ⟨zg_gp4 S (hK.2.1 12 _ rfl) (fun w h => (List.mem_cons_of_mem _ (zc12 w h))) rfl zt12_55 (List.mem_cons_of_mem _ zw5_214), List.forall_mem_cons.mpr ⟨zg_gp4 S (hK.2.1 12 _ rfl) (fun w h => (List.mem_cons_of_mem _ (zc12 w h))) rfl zt12_56 (List.mem_cons_of_mem _ zw5_215), List.forall_mem_cons.mpr ⟨zg_gp S (hK.2.1 12 _ rfl) (fun w h => (List.mem_cons_of_mem _ (zc12 w h))) rfl zt12_44 (List.mem_cons_of_mem _ zw5_203) rfl, List.forall_mem_cons.mpr ⟨zg_gp4 S (hK.2.1 12 _ rfl) (fun w h => (List.mem_cons_of_mem _ (zc12 w h))) rfl zt12_3 (List.mem_cons_of_mem _ zw5_162), List.forall_mem_cons.mpr ⟨zg_gp4 S (hK.2.1 12 _ rfl) (fun w h => (List.mem_cons_of_mem _ (zc12 w h))) rfl zt12_35 (List.mem_cons_of_mem _ zw5_194), List.forall_mem_cons.mpr ⟨zg_gp4 S (hK.2.1 12 _ rfl) (fun w h => (List.mem_cons_of_mem _ (zc12 w h))) rfl zt12_39 (List.mem_cons_of_mem _ zw5_198), List.forall_mem_cons.mpr ⟨zg_gp4 S (hK.2.1 12 _ rfl) (fun w h => (List.mem_cons_of_mem _ (zc12 w h))) rfl zt12_27 (List.mem_cons_of_mem _ zw5_186), List.forall_mem_cons.mpr ⟨zg_gp4 S (hK.2.1 12 _ rfl) (fun w h => (List.mem_cons_of_mem _ (zc12 w h))) rfl zt12_4 (List.mem_cons_of_mem _ zw5_163), List.forall_mem_cons.mpr ⟨zg_gp4 S (hK.2.1 12 _ rfl) (fun w h => (List.mem_cons_of_mem _ (zc12 w h))) rfl zt12_36 (List.mem_cons_of_mem _ zw5_195), List.forall_mem_cons.mpr ⟨zg_gp4 S (hK.2.1 12 _ rfl) (fun w h => (List.mem_cons_of_mem _ (zc12 w h))) rfl zt12_48 (List.mem_cons_of_mem _ zw5_207), fun _ h => absurd h List.not_mem_nil⟩⟩⟩⟩⟩⟩⟩⟩⟩⟩⟩⟩,
    fun _ h => absurd h List.not_mem_nil,
    fun _ h => absurd h List.not_mem_nil,
    fun _ h => absurd h List.not_mem_nil,
    fun h => absurd rfl h,
    fun _ h => absurd h List.not_mem_nil,
    List.forall_mem_cons.mpr ⟨zg_callV (fun w h => List.mem_cons_of_mem _ h) zg_tb_all S hK zg_Km qm384 zw7_61 zy_yX12_forceOf_V (ci := 12) (by decide +kernel) (hK.2.1 12 _ rfl).2.1 ⟨rfl, rfl⟩ (zk_dg_ok qdo_14_79 (by decide +kernel)), List.forall_mem_cons.mpr ⟨zg_callV (fun w h => List.mem_cons_of_mem _ h) zg_tb_all S hK zg_Km qm422 zw7_119 zy_yX12_gather_V (ci := 12) (by decide +kernel) (hK.2.1 12 _ rfl).2.1 ⟨rfl, rfl⟩ (zk_dg_ok qdo_14_79 (by decide +kernel)), List.forall_mem_cons.mpr ⟨zg_callS (fun w h => List.mem_cons_of_mem _ h) zg_tb_all S hK zg_Km qm423 zw7_97 zy_yJ9_min_7cf53_S (by decide +kernel) ⟨rfl, rfl⟩ (zk_dg_ok qdo_14_79 (by decide +kernel)), List.forall_mem_cons.mpr ⟨zg_callV (fun w h => List.mem_cons_of_mem _ h) zg_tb_all S hK zg_Km qm424 zw7_184 zy_yX12_clean_V (ci := 12) (by decide +kernel) (hK.2.1 12 _ rfl).2.1 ⟨rfl, rfl⟩ (zk_dg_ok qdo_14_79 (by decide +kernel)), List.forall_mem_cons.mpr ⟨zg_callV (fun w h => List.mem_cons_of_mem _ h) zg_tb_all S hK zg_Km qm429 zw7_188 zy_yX12_worth_V (ci := 12) (by decide +kernel) (hK.2.1 12 _ rfl).2.1 ⟨rfl, rfl⟩ (zk_dg_ok qdo_14_79 (by decide +kernel)), fun _ h => absurd h List.not_mem_nil⟩⟩⟩⟩⟩⟩
set_option maxRecDepth 100000 in
theorem qm430 {l : Launch} {D : zk_D} {base : Nat} {Hb : Heap} : zk_Met l qK D base Hb (zg_K D base Hb) yX12_isBarred (Jvm.Cond.code yX12_isBarred prog_14_method_79_code 9 (some .boolean) :: zg_tb) qR430 qC430 := zk_met (ws' := zg_tb) (P := qP430) (AT := zg_AT) zpn_X12 rfl rfl rfl qk430 (fun s hK => zg_wd hK) (fun p e s m args below meth c s₁ Q B hml hK => qo430 B hml hK) (fun p e s m args below meth c s₁ v G0 H0 B hml hK ha hp hF q hq => absurd hq List.not_mem_nil)
set_option maxRecDepth 100000 in
def qR431 : Room := { frames := 7, cells := 0, slots := 0, locals := 161 }
set_option maxHeartbeats 4000000 in
set_option maxRecDepth 100000 in
theorem qo431 {p : Program} {l : Launch} {e : Env} {s : State} {m : MethodId} {args : Array Value} {below : List Frame} {meth : Method} {c : Code} {s₁ : State} {Q : State → Prop} {D : zk_D} {base : Nat} {Hb : Heap} (B : BodyLoose p l yX12_bars (headSpec (Jvm.Cond.code yX12_bars prog_14_method_80_code 5 (some .int) :: zg_tb) qR431) prog_14_method_80_code 5 (some .int) e s m args below meth c s₁) (hml : c.maxLocals = 5) (hK : zg_K D base Hb s) : zk_ok p l e (headSpec (Jvm.Cond.code yX12_bars prog_14_method_80_code 5 (some .int) :: zg_tb) qR431).room s m args below meth c Q qK D base Hb 5 prog_14_method_80_code qP431 qC431.2.2.2.2 := by
  have S : CallFix p m c prog_14_method_80_code 5 s args (Jvm.Cond.code yX12_bars prog_14_method_80_code 5 (some .int) :: zg_tb) RX12 := ⟨B.exec, B.bytes, hml, findClass_of_methodNamed B.named, atoms_spec (ws := (Jvm.Cond.code yX12_bars prog_14_method_80_code 5 (some .int) :: zg_tb)) B.pre⟩
  exact ⟨List.forall_mem_cons.mpr ⟨zg_gp S (hK.2.1 12 _ rfl) (fun w h => (List.mem_cons_of_mem _ (zc12 w h))) rfl zt12_0 (List.mem_cons_of_mem _ zw5_159) rfl, fun _ h => absurd h List.not_mem_nil⟩,
    fun _ h => absurd h List.not_mem_nil,
    fun _ h => absurd h List.not_mem_nil,
    fun _ h => absurd h List.not_mem_nil,
    fun h => absurd rfl h,
    fun _ h => absurd h List.not_mem_nil,
    List.forall_mem_cons.mpr ⟨zg_callV (fun w h => List.mem_cons_of_mem _ h) zg_tb_all S hK zg_Km qm391 zw7_172 zy_yX12_isList_V (ci := 12) (by decide +kernel) (hK.2.1 12 _ rfl).2.1 ⟨rfl, rfl⟩ (zk_dg_ok qdo_14_80 (by decide +kernel)), List.forall_mem_cons.mpr ⟨zg_callV (fun w h => List.mem_cons_of_mem _ h) zg_tb_all S hK zg_Km qm21 zw6_141 zy_yX12_isHouse_V (ci := 12) (by decide +kernel) (hK.2.1 12 _ rfl).2.1 ⟨rfl, rfl⟩ (zk_dg_ok qdo_14_80 (by decide +kernel)), List.forall_mem_cons.mpr ⟨zg_callS (fun w h => List.mem_cons_of_mem _ h) zg_tb_all S hK zg_Km qm421 zw6_145 zy_yX12_in_S (by decide +kernel) ⟨rfl, rfl⟩ (zk_dg_ok qdo_14_80 (by decide +kernel)), List.forall_mem_cons.mpr ⟨zg_callV (fun w h => List.mem_cons_of_mem _ h) zg_tb_all S hK zg_Km qm383 zw7_57 zy_yX12_isKnowing_V (ci := 12) (by decide +kernel) (hK.2.1 12 _ rfl).2.1 ⟨rfl, rfl⟩ (zk_dg_ok qdo_14_80 (by decide +kernel)), List.forall_mem_cons.mpr ⟨zg_callV (fun w h => List.mem_cons_of_mem _ h) zg_tb_all S hK zg_Km qm430 zw7_180 zy_yX12_isBarred_V (ci := 12) (by decide +kernel) (hK.2.1 12 _ rfl).2.1 ⟨rfl, rfl⟩ (zk_dg_ok qdo_14_80 (by decide +kernel)), fun _ h => absurd h List.not_mem_nil⟩⟩⟩⟩⟩⟩
set_option maxRecDepth 100000 in
theorem qm431 {l : Launch} {D : zk_D} {base : Nat} {Hb : Heap} : zk_Met l qK D base Hb (zg_K D base Hb) yX12_bars (Jvm.Cond.code yX12_bars prog_14_method_80_code 5 (some .int) :: zg_tb) qR431 qC431 := zk_met (ws' := zg_tb) (P := qP431) (AT := zg_AT) zpn_X12 rfl rfl rfl qk431 (fun s hK => zg_wd hK) (fun p e s m args below meth c s₁ Q B hml hK => qo431 B hml hK) (fun p e s m args below meth c s₁ v G0 H0 B hml hK ha hp hF q hq => absurd hq List.not_mem_nil)
set_option maxRecDepth 100000 in
def qR432 : Room := { frames := 1, cells := 0, slots := 0, locals := 20 }
set_option maxHeartbeats 4000000 in
set_option maxRecDepth 100000 in
theorem qo432 {p : Program} {l : Launch} {e : Env} {s : State} {m : MethodId} {args : Array Value} {below : List Frame} {meth : Method} {c : Code} {s₁ : State} {Q : State → Prop} {D : zk_D} {base : Nat} {Hb : Heap} (B : BodyLoose p l yX11_goodLettersFrom (headSpec (Jvm.Cond.code yX11_goodLettersFrom prog_1_method_53_code 4 (some .int) :: zg_tb) qR432) prog_1_method_53_code 4 (some .int) e s m args below meth c s₁) (hml : c.maxLocals = 4) (hK : zg_K D base Hb s) : zk_ok p l e (headSpec (Jvm.Cond.code yX11_goodLettersFrom prog_1_method_53_code 4 (some .int) :: zg_tb) qR432).room s m args below meth c Q qK D base Hb 4 prog_1_method_53_code qP432 qC432.2.2.2.2 := by
  have S : CallFix p m c prog_1_method_53_code 4 s args (Jvm.Cond.code yX11_goodLettersFrom prog_1_method_53_code 4 (some .int) :: zg_tb) RX11 := ⟨B.exec, B.bytes, hml, findClass_of_methodNamed B.named, atoms_spec (ws := (Jvm.Cond.code yX11_goodLettersFrom prog_1_method_53_code 4 (some .int) :: zg_tb)) B.pre⟩
  exact ⟨List.forall_mem_cons.mpr ⟨zg_gp S (hK.2.1 11 _ rfl) (fun w h => (List.mem_cons_of_mem _ (zc11 w h))) rfl zt11_15 (List.mem_cons_of_mem _ zw2_68) rfl, List.forall_mem_cons.mpr ⟨zg_gp4 S (hK.2.1 11 _ rfl) (fun w h => (List.mem_cons_of_mem _ (zc11 w h))) rfl zt11_8 (List.mem_cons_of_mem _ zw2_61), List.forall_mem_cons.mpr ⟨zg_gp4 S (hK.2.1 3 _ rfl) (fun w h => (List.mem_cons_of_mem _ (zc3 w h))) rfl zt3_3 (List.mem_cons_of_mem _ zw2_12), List.forall_mem_cons.mpr ⟨zg_gp4 S (hK.2.1 11 _ rfl) (fun w h => (List.mem_cons_of_mem _ (zc11 w h))) rfl zt11_0 (List.mem_cons_of_mem _ zw2_53), List.forall_mem_cons.mpr ⟨zg_gp4 S (hK.2.1 4 _ rfl) (fun w h => (List.mem_cons_of_mem _ (zc4 w h))) rfl zt4_2 (List.mem_cons_of_mem _ zw1_41), List.forall_mem_cons.mpr ⟨zg_gp4 S (hK.2.1 11 _ rfl) (fun w h => (List.mem_cons_of_mem _ (zc11 w h))) rfl zt11_7 (List.mem_cons_of_mem _ zw2_60), List.forall_mem_cons.mpr ⟨zg_gp4 S (hK.2.1 1 _ rfl) (fun w h => (List.mem_cons_of_mem _ (zc1 w h))) rfl zt1_0 (List.mem_cons_of_mem _ zw3_214), fun _ h => absurd h List.not_mem_nil⟩⟩⟩⟩⟩⟩⟩,
    fun _ h => absurd h List.not_mem_nil,
    fun _ h => absurd h List.not_mem_nil,
    fun _ h => absurd h List.not_mem_nil,
    fun h => absurd rfl h,
    fun _ h => absurd h List.not_mem_nil,
    fun _ h => absurd h List.not_mem_nil⟩
set_option maxRecDepth 100000 in
theorem qm432 {l : Launch} {D : zk_D} {base : Nat} {Hb : Heap} : zk_Met l qK D base Hb (zg_K D base Hb) yX11_goodLettersFrom (Jvm.Cond.code yX11_goodLettersFrom prog_1_method_53_code 4 (some .int) :: zg_tb) qR432 qC432 := zk_met (ws' := zg_tb) (P := qP432) (AT := zg_AT) zpn_X11 rfl rfl rfl qk432 (fun s hK => zg_wd hK) (fun p e s m args below meth c s₁ Q B hml hK => qo432 B hml hK) (fun p e s m args below meth c s₁ v G0 H0 B hml hK ha hp hF q hq => absurd hq List.not_mem_nil)
set_option maxRecDepth 100000 in
def qR433 : Room := { frames := 7, cells := 0, slots := 0, locals := 164 }
set_option maxHeartbeats 4000000 in
set_option maxRecDepth 100000 in
theorem qo433 {p : Program} {l : Launch} {e : Env} {s : State} {m : MethodId} {args : Array Value} {below : List Frame} {meth : Method} {c : Code} {s₁ : State} {Q : State → Prop} {D : zk_D} {base : Nat} {Hb : Heap} (B : BodyLoose p l yX11_harm (headSpec (Jvm.Cond.code yX11_harm prog_1_method_14_code 4 (some .int) :: zg_tb) qR433) prog_1_method_14_code 4 (some .int) e s m args below meth c s₁) (hml : c.maxLocals = 4) (hK : zg_K D base Hb s) : zk_ok p l e (headSpec (Jvm.Cond.code yX11_harm prog_1_method_14_code 4 (some .int) :: zg_tb) qR433).room s m args below meth c Q qK D base Hb 4 prog_1_method_14_code qP433 qC433.2.2.2.2 := by
  have S : CallFix p m c prog_1_method_14_code 4 s args (Jvm.Cond.code yX11_harm prog_1_method_14_code 4 (some .int) :: zg_tb) RX11 := ⟨B.exec, B.bytes, hml, findClass_of_methodNamed B.named, atoms_spec (ws := (Jvm.Cond.code yX11_harm prog_1_method_14_code 4 (some .int) :: zg_tb)) B.pre⟩
  exact ⟨List.forall_mem_cons.mpr ⟨zg_gp4 S (hK.2.1 11 _ rfl) (fun w h => (List.mem_cons_of_mem _ (zc11 w h))) rfl zt11_8 (List.mem_cons_of_mem _ zw2_61), List.forall_mem_cons.mpr ⟨zg_gp S (hK.2.1 11 _ rfl) (fun w h => (List.mem_cons_of_mem _ (zc11 w h))) rfl zt11_13 (List.mem_cons_of_mem _ zw2_66) rfl, List.forall_mem_cons.mpr ⟨zg_gp4 S (hK.2.1 11 _ rfl) (fun w h => (List.mem_cons_of_mem _ (zc11 w h))) rfl zt11_0 (List.mem_cons_of_mem _ zw2_53), List.forall_mem_cons.mpr ⟨zg_gp S (hK.2.1 4 _ rfl) (fun w h => (List.mem_cons_of_mem _ (zc4 w h))) rfl zt4_6 (List.mem_cons_of_mem _ zw1_49) rfl, fun _ h => absurd h List.not_mem_nil⟩⟩⟩⟩,
    fun _ h => absurd h List.not_mem_nil,
    fun _ h => absurd h List.not_mem_nil,
    fun _ h => absurd h List.not_mem_nil,
    fun h => absurd rfl h,
    fun _ h => absurd h List.not_mem_nil,
    List.forall_mem_cons.mpr ⟨zg_callV (fun w h => List.mem_cons_of_mem _ h) zg_tb_all S hK zg_Km qm367 zw3_73 zy_yX11_hasList_V (ci := 11) (by decide +kernel) (hK.2.1 11 _ rfl).2.1 ⟨rfl, rfl⟩ (zk_dg_ok qdo_1_14 (by decide +kernel)), List.forall_mem_cons.mpr ⟨zg_callV (fun w h => List.mem_cons_of_mem _ h) zg_tb_all S hK zg_Km qm394 zw3_132 zy_yX3_know_V (ci := 3) (by decide +kernel) (hK.2.1 3 _ rfl).2.1 ⟨rfl, rfl⟩ (zk_dg_ok qdo_1_14 (by decide +kernel)), List.forall_mem_cons.mpr ⟨zg_callV (fun w h => List.mem_cons_of_mem _ h) zg_tb_all S hK zg_Km qm419 zw3_139 zy_yX11_barred_V (ci := 11) (by decide +kernel) (hK.2.1 11 _ rfl).2.1 ⟨rfl, rfl⟩ (zk_dg_ok qdo_1_14 (by decide +kernel)), List.forall_mem_cons.mpr ⟨zg_callV (fun w h => List.mem_cons_of_mem _ h) zg_tb_all S hK zg_Km qm432 zw3_196 zy_yX11_goodLettersFrom_V (ci := 11) (by decide +kernel) (hK.2.1 11 _ rfl).2.1 ⟨rfl, rfl⟩ (zk_dg_ok qdo_1_14 (by decide +kernel)), fun _ h => absurd h List.not_mem_nil⟩⟩⟩⟩⟩
set_option maxRecDepth 100000 in
theorem qm433 {l : Launch} {D : zk_D} {base : Nat} {Hb : Heap} : zk_Met l qK D base Hb (zg_K D base Hb) yX11_harm (Jvm.Cond.code yX11_harm prog_1_method_14_code 4 (some .int) :: zg_tb) qR433 qC433 := zk_met (ws' := zg_tb) (P := qP433) (AT := zg_AT) zpn_X11 rfl rfl rfl qk433 (fun s hK => zg_wd hK) (fun p e s m args below meth c s₁ Q B hml hK => qo433 B hml hK) (fun p e s m args below meth c s₁ v G0 H0 B hml hK ha hp hF q hq => absurd hq List.not_mem_nil)
set_option maxRecDepth 100000 in
def qR434 : Room := { frames := 7, cells := 0, slots := 0, locals := 161 }
set_option maxHeartbeats 4000000 in
set_option maxRecDepth 100000 in
theorem qo434 {p : Program} {l : Launch} {e : Env} {s : State} {m : MethodId} {args : Array Value} {below : List Frame} {meth : Method} {c : Code} {s₁ : State} {Q : State → Prop} {D : zk_D} {base : Nat} {Hb : Heap} (B : BodyLoose p l yX12_harm (headSpec (Jvm.Cond.code yX12_harm prog_14_method_81_code 6 (some .int) :: zg_tb) qR434) prog_14_method_81_code 6 (some .int) e s m args below meth c s₁) (hml : c.maxLocals = 6) (hK : zg_K D base Hb s) : zk_ok p l e (headSpec (Jvm.Cond.code yX12_harm prog_14_method_81_code 6 (some .int) :: zg_tb) qR434).room s m args below meth c Q qK D base Hb 6 prog_14_method_81_code qP434 qC434.2.2.2.2 := by
  have S : CallFix p m c prog_14_method_81_code 6 s args (Jvm.Cond.code yX12_harm prog_14_method_81_code 6 (some .int) :: zg_tb) RX12 := ⟨B.exec, B.bytes, hml, findClass_of_methodNamed B.named, atoms_spec (ws := (Jvm.Cond.code yX12_harm prog_14_method_81_code 6 (some .int) :: zg_tb)) B.pre⟩
  exact ⟨List.forall_mem_cons.mpr ⟨zg_gp S (hK.2.1 12 _ rfl) (fun w h => (List.mem_cons_of_mem _ (zc12 w h))) rfl zt12_6 (List.mem_cons_of_mem _ zw5_165) rfl, List.forall_mem_cons.mpr ⟨zg_gp S (hK.2.1 12 _ rfl) (fun w h => (List.mem_cons_of_mem _ (zc12 w h))) rfl zt12_0 (List.mem_cons_of_mem _ zw5_159) rfl, List.forall_mem_cons.mpr ⟨zg_gp S (hK.2.1 12 _ rfl) (fun w h => (List.mem_cons_of_mem _ (zc12 w h))) rfl zt12_44 (List.mem_cons_of_mem _ zw5_203) rfl, List.forall_mem_cons.mpr ⟨zg_gp4 S (hK.2.1 12 _ rfl) (fun w h => (List.mem_cons_of_mem _ (zc12 w h))) rfl zt12_48 (List.mem_cons_of_mem _ zw5_207), List.forall_mem_cons.mpr ⟨zg_gp4 S (hK.2.1 12 _ rfl) (fun w h => (List.mem_cons_of_mem _ (zc12 w h))) rfl zt12_3 (List.mem_cons_of_mem _ zw5_162), List.forall_mem_cons.mpr ⟨zg_gp4 S (hK.2.1 12 _ rfl) (fun w h => (List.mem_cons_of_mem _ (zc12 w h))) rfl zt12_35 (List.mem_cons_of_mem _ zw5_194), fun _ h => absurd h List.not_mem_nil⟩⟩⟩⟩⟩⟩,
    fun _ h => absurd h List.not_mem_nil,
    fun _ h => absurd h List.not_mem_nil,
    fun _ h => absurd h List.not_mem_nil,
    fun h => absurd rfl h,
    fun _ h => absurd h List.not_mem_nil,
    List.forall_mem_cons.mpr ⟨zg_callV (fun w h => List.mem_cons_of_mem _ h) zg_tb_all S hK zg_Km qm391 zw7_172 zy_yX12_isList_V (ci := 12) (by decide +kernel) (hK.2.1 12 _ rfl).2.1 ⟨rfl, rfl⟩ (zk_dg_ok qdo_14_81 (by decide +kernel)), List.forall_mem_cons.mpr ⟨zg_callV (fun w h => List.mem_cons_of_mem _ h) zg_tb_all S hK zg_Km qm430 zw7_180 zy_yX12_isBarred_V (ci := 12) (by decide +kernel) (hK.2.1 12 _ rfl).2.1 ⟨rfl, rfl⟩ (zk_dg_ok qdo_14_81 (by decide +kernel)), List.forall_mem_cons.mpr ⟨zg_callV (fun w h => List.mem_cons_of_mem _ h) zg_tb_all S hK zg_Km qm422 zw7_119 zy_yX12_gather_V (ci := 12) (by decide +kernel) (hK.2.1 12 _ rfl).2.1 ⟨rfl, rfl⟩ (zk_dg_ok qdo_14_81 (by decide +kernel)), fun _ h => absurd h List.not_mem_nil⟩⟩⟩⟩
set_option maxRecDepth 100000 in
theorem qm434 {l : Launch} {D : zk_D} {base : Nat} {Hb : Heap} : zk_Met l qK D base Hb (zg_K D base Hb) yX12_harm (Jvm.Cond.code yX12_harm prog_14_method_81_code 6 (some .int) :: zg_tb) qR434 qC434 := zk_met (ws' := zg_tb) (P := qP434) (AT := zg_AT) zpn_X12 rfl rfl rfl qk434 (fun s hK => zg_wd hK) (fun p e s m args below meth c s₁ Q B hml hK => qo434 B hml hK) (fun p e s m args below meth c s₁ v G0 H0 B hml hK ha hp hF q hq => absurd hq List.not_mem_nil)
set_option maxRecDepth 100000 in
def qR435 : Room := { frames := 1, cells := 0, slots := 0, locals := 20 }
set_option maxHeartbeats 4000000 in
set_option maxRecDepth 100000 in
theorem qo435 {p : Program} {l : Launch} {e : Env} {s : State} {m : MethodId} {args : Array Value} {below : List Frame} {meth : Method} {c : Code} {s₁ : State} {Q : State → Prop} {D : zk_D} {base : Nat} {Hb : Heap} (B : BodyLoose p l yX4_hasName (headSpec (Jvm.Cond.code yX4_hasName prog_6_method_3_code 2 (some .boolean) :: zg_tb) qR435) prog_6_method_3_code 2 (some .boolean) e s m args below meth c s₁) (hml : c.maxLocals = 2) (hK : zg_K D base Hb s) : zk_ok p l e (headSpec (Jvm.Cond.code yX4_hasName prog_6_method_3_code 2 (some .boolean) :: zg_tb) qR435).room s m args below meth c Q qK D base Hb 2 prog_6_method_3_code qP435 qC435.2.2.2.2 := by
  have S : CallFix p m c prog_6_method_3_code 2 s args (Jvm.Cond.code yX4_hasName prog_6_method_3_code 2 (some .boolean) :: zg_tb) RX4 := ⟨B.exec, B.bytes, hml, findClass_of_methodNamed B.named, atoms_spec (ws := (Jvm.Cond.code yX4_hasName prog_6_method_3_code 2 (some .boolean) :: zg_tb)) B.pre⟩
  exact ⟨List.forall_mem_cons.mpr ⟨zg_gp S (hK.2.1 4 _ rfl) (fun w h => (List.mem_cons_of_mem _ (zc4 w h))) rfl zt4_7 (List.mem_cons_of_mem _ zw1_50) rfl, fun _ h => absurd h List.not_mem_nil⟩,
    fun _ h => absurd h List.not_mem_nil,
    fun _ h => absurd h List.not_mem_nil,
    fun _ h => absurd h List.not_mem_nil,
    fun h => absurd rfl h,
    fun _ h => absurd h List.not_mem_nil,
    fun _ h => absurd h List.not_mem_nil⟩
set_option maxRecDepth 100000 in
theorem qm435 {l : Launch} {D : zk_D} {base : Nat} {Hb : Heap} : zk_Met l qK D base Hb (zg_K D base Hb) yX4_hasName (Jvm.Cond.code yX4_hasName prog_6_method_3_code 2 (some .boolean) :: zg_tb) qR435 qC435 := zk_met (ws' := zg_tb) (P := qP435) (AT := zg_AT) zpn_X4 rfl rfl rfl qk435 (fun s hK => zg_wd hK) (fun p e s m args below meth c s₁ Q B hml hK => qo435 B hml hK) (fun p e s m args below meth c s₁ v G0 H0 B hml hK ha hp hF q hq => absurd hq List.not_mem_nil)
set_option maxRecDepth 100000 in
def qR436 : Room := { frames := 1, cells := 2, slots := 12, locals := 20 }
set_option maxHeartbeats 4000000 in
set_option maxRecDepth 100000 in
theorem qo436 {p : Program} {l : Launch} {e : Env} {s : State} {m : MethodId} {args : Array Value} {below : List Frame} {meth : Method} {c : Code} {s₁ : State} {Q : State → Prop} {D : zk_D} {base : Nat} {Hb : Heap} (B : BodyLoose p l yX1_init (headSpec (Jvm.Cond.code yX1_init prog_3_method_1_code 6 none :: zg_tb) qR436) prog_3_method_1_code 6 none e s m args below meth c s₁) (hml : c.maxLocals = 6) (hK : zg_K D base Hb s) : zk_ok p l e (headSpec (Jvm.Cond.code yX1_init prog_3_method_1_code 6 none :: zg_tb) qR436).room s m args below meth c Q qK D base Hb 6 prog_3_method_1_code qP436 qC436.2.2.2.2 := by
  have S : CallFix p m c prog_3_method_1_code 6 s args (Jvm.Cond.code yX1_init prog_3_method_1_code 6 none :: zg_tb) RX1 := ⟨B.exec, B.bytes, hml, findClass_of_methodNamed B.named, atoms_spec (ws := (Jvm.Cond.code yX1_init prog_3_method_1_code 6 none :: zg_tb)) B.pre⟩
  have hin2 : meth.name = "<init>" := (name_of_methodNamed B.named B.method).1
  exact ⟨List.forall_mem_cons.mpr ⟨zg_gp S (hK.2.1 1 _ rfl) (fun w h => (List.mem_cons_of_mem _ (zc1 w h))) rfl zt1_5 (List.mem_cons_of_mem _ zw3_223) rfl, List.forall_mem_cons.mpr ⟨zg_gp S (hK.2.1 1 _ rfl) (fun w h => (List.mem_cons_of_mem _ (zc1 w h))) rfl zt1_8 (List.mem_cons_of_mem _ zw3_229) rfl, List.forall_mem_cons.mpr ⟨zg_gpF S (hK.2.1 1 _ rfl) (fun w h => (List.mem_cons_of_mem _ (zc1 w h))) rfl hin2 zt1_14 (List.mem_cons_of_mem _ zw4_1) rfl, List.forall_mem_cons.mpr ⟨zg_gpF S (hK.2.1 1 _ rfl) (fun w h => (List.mem_cons_of_mem _ (zc1 w h))) rfl hin2 zt1_15 (List.mem_cons_of_mem _ zw4_3) rfl, List.forall_mem_cons.mpr ⟨zg_gpF S (hK.2.1 1 _ rfl) (fun w h => (List.mem_cons_of_mem _ (zc1 w h))) rfl hin2 zt1_0 (List.mem_cons_of_mem _ zw3_213) rfl, List.forall_mem_cons.mpr ⟨zg_gpF S (hK.2.1 1 _ rfl) (fun w h => (List.mem_cons_of_mem _ (zc1 w h))) rfl hin2 zt1_1 (List.mem_cons_of_mem _ zw3_215) rfl, List.forall_mem_cons.mpr ⟨zg_gpF S (hK.2.1 1 _ rfl) (fun w h => (List.mem_cons_of_mem _ (zc1 w h))) rfl hin2 zt1_2 (List.mem_cons_of_mem _ zw3_217) rfl, List.forall_mem_cons.mpr ⟨zg_gpF S (hK.2.1 1 _ rfl) (fun w h => (List.mem_cons_of_mem _ (zc1 w h))) rfl hin2 zt1_3 (List.mem_cons_of_mem _ zw3_219) rfl, List.forall_mem_cons.mpr ⟨zg_gpF S (hK.2.1 1 _ rfl) (fun w h => (List.mem_cons_of_mem _ (zc1 w h))) rfl hin2 zt1_4 (List.mem_cons_of_mem _ zw3_221) rfl, List.forall_mem_cons.mpr ⟨zg_gp S (hK.2.1 1 _ rfl) (fun w h => (List.mem_cons_of_mem _ (zc1 w h))) rfl zt1_7 (List.mem_cons_of_mem _ zw3_227) rfl, fun _ h => absurd h List.not_mem_nil⟩⟩⟩⟩⟩⟩⟩⟩⟩⟩,
    fun _ h => absurd h List.not_mem_nil,
    fun _ h => absurd h List.not_mem_nil,
    List.forall_mem_cons.mpr ⟨zg_nakE (tag := 0) (by decide +kernel) (zg_nak (atype := .int) S (hK.2.2.2.1 (0, _) (List.mem_of_getElem? (i := 0) rfl)) (List.mem_cons_of_mem _ zw1_70) (zk_dg_ok qdo_3_1 (by decide +kernel)) rfl rfl), List.forall_mem_cons.mpr ⟨zg_nakE (tag := 0) (by decide +kernel) (zg_nak (atype := .int) S (hK.2.2.2.1 (0, _) (List.mem_of_getElem? (i := 0) rfl)) (List.mem_cons_of_mem _ zw1_70) (zk_dg_ok qdo_3_1 (by decide +kernel)) rfl rfl), fun _ h => absurd h List.not_mem_nil⟩⟩,
    fun _ => Nat.le_of_ble_eq_true rfl,
    fun _ h => absurd h List.not_mem_nil,
    List.forall_mem_cons.mpr ⟨zg_callO S (List.mem_cons_of_mem _ zw3_212) (List.mem_cons_of_mem _ zw1_29) (List.mem_cons_of_mem _ zw1_30) ⟨rfl, rfl⟩ (zk_dg_ok qdo_3_1 (by decide +kernel)), fun _ h => absurd h List.not_mem_nil⟩⟩
set_option maxRecDepth 100000 in
theorem zpn_X1 : plainName RX1 = true := by decide +kernel
set_option maxRecDepth 100000 in
theorem qm436 {l : Launch} {D : zk_D} {base : Nat} {Hb : Heap} : zk_Met l qK D base Hb (zg_K D base Hb) yX1_init (Jvm.Cond.code yX1_init prog_3_method_1_code 6 none :: zg_tb) qR436 qC436 := zk_met (ws' := zg_tb) (P := qP436) (AT := zg_AT) zpn_X1 rfl rfl rfl qk436 (fun s hK => zg_wd hK) (fun p e s m args below meth c s₁ Q B hml hK => qo436 B hml hK) (fun p e s m args below meth c s₁ v G0 H0 B hml hK ha hp hF q hq => absurd hq List.not_mem_nil)
set_option maxRecDepth 100000 in
def qR437 : Room := { frames := 1, cells := 0, slots := 0, locals := 20 }
set_option maxHeartbeats 4000000 in
set_option maxRecDepth 100000 in
theorem qo437 {p : Program} {l : Launch} {e : Env} {s : State} {m : MethodId} {args : Array Value} {below : List Frame} {meth : Method} {c : Code} {s₁ : State} {Q : State → Prop} {D : zk_D} {base : Nat} {Hb : Heap} (B : BodyLoose p l yX9_longer (headSpec (Jvm.Cond.code yX9_longer prog_11_method_4_code 3 (some .long) :: zg_tb) qR437) prog_11_method_4_code 3 (some .long) e s m args below meth c s₁) (hml : c.maxLocals = 3) (hK : zg_K D base Hb s) : zk_ok p l e (headSpec (Jvm.Cond.code yX9_longer prog_11_method_4_code 3 (some .long) :: zg_tb) qR437).room s m args below meth c Q qK D base Hb 3 prog_11_method_4_code qP437 qC437.2.2.2.2 := by
  have S : CallFix p m c prog_11_method_4_code 3 s args (Jvm.Cond.code yX9_longer prog_11_method_4_code 3 (some .long) :: zg_tb) RX9 := ⟨B.exec, B.bytes, hml, findClass_of_methodNamed B.named, atoms_spec (ws := (Jvm.Cond.code yX9_longer prog_11_method_4_code 3 (some .long) :: zg_tb)) B.pre⟩
  exact ⟨fun _ h => absurd h List.not_mem_nil,
    fun _ h => absurd h List.not_mem_nil,
    fun _ h => absurd h List.not_mem_nil,
    fun _ h => absurd h List.not_mem_nil,
    fun h => absurd rfl h,
    List.forall_mem_cons.mpr ⟨zg_kokL S (List.mem_cons_of_mem _ zw4_53) (by decide +kernel) (zk_dg_ok qdo_11_4 (by decide +kernel)), fun _ h => absurd h List.not_mem_nil⟩,
    fun _ h => absurd h List.not_mem_nil⟩
set_option maxRecDepth 100000 in
theorem qm437 {l : Launch} {D : zk_D} {base : Nat} {Hb : Heap} : zk_Met l qK D base Hb (zg_K D base Hb) yX9_longer (Jvm.Cond.code yX9_longer prog_11_method_4_code 3 (some .long) :: zg_tb) qR437 qC437 := zk_met (ws' := zg_tb) (P := qP437) (AT := zg_AT) zpn_X9 rfl rfl rfl qk437 (fun s hK => zg_wd hK) (fun p e s m args below meth c s₁ Q B hml hK => qo437 B hml hK) (fun p e s m args below meth c s₁ v G0 H0 B hml hK ha hp hF q hq => absurd hq List.not_mem_nil)
set_option maxRecDepth 100000 in
def qR438 : Room := { frames := 2, cells := 0, slots := 0, locals := 42 }
set_option maxHeartbeats 4000000 in
set_option maxRecDepth 100000 in
theorem qo438 {p : Program} {l : Launch} {e : Env} {s : State} {m : MethodId} {args : Array Value} {below : List Frame} {meth : Method} {c : Code} {s₁ : State} {Q : State → Prop} {D : zk_D} {base : Nat} {Hb : Heap} (B : BodyLoose p l yX2_take (headSpec (Jvm.Cond.code yX2_take prog_4_method_5_code 2 none :: zg_tb) qR438) prog_4_method_5_code 2 none e s m args below meth c s₁) (hml : c.maxLocals = 2) (hK : zg_K D base Hb s) : zk_ok p l e (headSpec (Jvm.Cond.code yX2_take prog_4_method_5_code 2 none :: zg_tb) qR438).room s m args below meth c Q qK D base Hb 2 prog_4_method_5_code qP438 qC438.2.2.2.2 := by
  have S : CallFix p m c prog_4_method_5_code 2 s args (Jvm.Cond.code yX2_take prog_4_method_5_code 2 none :: zg_tb) RX2 := ⟨B.exec, B.bytes, hml, findClass_of_methodNamed B.named, atoms_spec (ws := (Jvm.Cond.code yX2_take prog_4_method_5_code 2 none :: zg_tb)) B.pre⟩
  exact ⟨List.forall_mem_cons.mpr ⟨zg_gp S (hK.2.1 2 _ rfl) (fun w h => (List.mem_cons_of_mem _ (zc2 w h))) rfl zt2_3 (List.mem_cons_of_mem _ zw1_99) rfl, List.forall_mem_cons.mpr ⟨zg_gp S (hK.2.1 2 _ rfl) (fun w h => (List.mem_cons_of_mem _ (zc2 w h))) rfl zt2_1 (List.mem_cons_of_mem _ zw1_96) rfl, List.forall_mem_cons.mpr ⟨zg_gp4 S (hK.2.1 2 _ rfl) (fun w h => (List.mem_cons_of_mem _ (zc2 w h))) rfl zt2_0 (List.mem_cons_of_mem _ zw1_94), List.forall_mem_cons.mpr ⟨zg_gp S (hK.2.1 2 _ rfl) (fun w h => (List.mem_cons_of_mem _ (zc2 w h))) rfl zt2_2 (List.mem_cons_of_mem _ zw1_98) rfl, fun _ h => absurd h List.not_mem_nil⟩⟩⟩⟩,
    fun _ h => absurd h List.not_mem_nil,
    fun _ h => absurd h List.not_mem_nil,
    fun _ h => absurd h List.not_mem_nil,
    fun h => absurd rfl h,
    fun _ h => absurd h List.not_mem_nil,
    List.forall_mem_cons.mpr ⟨zg_callS (fun w h => List.mem_cons_of_mem _ h) zg_tb_all S hK zg_Km qm34 zw2_171 zy_yX9_isByte_S (by decide +kernel) ⟨rfl, rfl⟩ (zk_dg_ok qdo_4_5 (by decide +kernel)), List.forall_mem_cons.mpr ⟨zg_callS (fun w h => List.mem_cons_of_mem _ h) zg_tb_all S hK zg_Km qm437 zw4_50 zy_yX9_longer_S (by decide +kernel) ⟨rfl, rfl⟩ (zk_dg_ok qdo_4_5 (by decide +kernel)), fun _ h => absurd h List.not_mem_nil⟩⟩⟩
set_option maxRecDepth 100000 in
theorem qm438 {l : Launch} {D : zk_D} {base : Nat} {Hb : Heap} : zk_Met l qK D base Hb (zg_K D base Hb) yX2_take (Jvm.Cond.code yX2_take prog_4_method_5_code 2 none :: zg_tb) qR438 qC438 := zk_met (ws' := zg_tb) (P := qP438) (AT := zg_AT) zpn_X2 rfl rfl rfl qk438 (fun s hK => zg_wd hK) (fun p e s m args below meth c s₁ Q B hml hK => qo438 B hml hK) (fun p e s m args below meth c s₁ v G0 H0 B hml hK ha hp hF q hq => absurd hq List.not_mem_nil)
set_option maxRecDepth 100000 in
def qR439 : Room := { frames := 1, cells := 0, slots := 0, locals := 20 }
set_option maxHeartbeats 4000000 in
set_option maxRecDepth 100000 in
theorem qo439 {p : Program} {l : Launch} {e : Env} {s : State} {m : MethodId} {args : Array Value} {below : List Frame} {meth : Method} {c : Code} {s₁ : State} {Q : State → Prop} {D : zk_D} {base : Nat} {Hb : Heap} (B : BodyLoose p l yJ0_isLatin1_aae02 (headSpec (Jvm.Cond.code yJ0_isLatin1_aae02 prog_19_method_154_code 1 (some .boolean) :: zg_tb) qR439) prog_19_method_154_code 1 (some .boolean) e s m args below meth c s₁) (hml : c.maxLocals = 1) (hK : zg_K D base Hb s) : zk_ok p l e (headSpec (Jvm.Cond.code yJ0_isLatin1_aae02 prog_19_method_154_code 1 (some .boolean) :: zg_tb) qR439).room s m args below meth c Q qK D base Hb 1 prog_19_method_154_code qP439 qC439.2.2.2.2 := by
  have S : CallFix p m c prog_19_method_154_code 1 s args (Jvm.Cond.code yJ0_isLatin1_aae02 prog_19_method_154_code 1 (some .boolean) :: zg_tb) RJ0 := ⟨B.exec, B.bytes, hml, findClass_of_methodNamed B.named, atoms_spec (ws := (Jvm.Cond.code yJ0_isLatin1_aae02 prog_19_method_154_code 1 (some .boolean) :: zg_tb)) B.pre⟩
  exact ⟨List.forall_mem_cons.mpr ⟨⟨zg_gokS S (hK.2.2.2.2.2.2.2.2.1 _ (List.mem_of_getElem? (i := 1) rfl)) (List.mem_cons_of_mem _ zw8_58), zg_pok4⟩, fun _ h => absurd h List.not_mem_nil⟩,
    fun _ h => absurd h List.not_mem_nil,
    fun _ h => absurd h List.not_mem_nil,
    fun _ h => absurd h List.not_mem_nil,
    fun h => absurd rfl h,
    List.forall_mem_cons.mpr ⟨zg_kokG S (hK.2.2.2.2.2.2.2.2.2.2.1 _ (List.mem_of_getElem? (i := 0) rfl)) (List.mem_cons_of_mem _ zw1_144) (by decide +kernel) (zk_dg_ok qdo_19_154 (by decide +kernel)), fun _ h => absurd h List.not_mem_nil⟩,
    fun _ h => absurd h List.not_mem_nil⟩
set_option maxRecDepth 100000 in
theorem qm439 {l : Launch} {D : zk_D} {base : Nat} {Hb : Heap} : zk_Met l qK D base Hb (zg_K D base Hb) yJ0_isLatin1_aae02 (Jvm.Cond.code yJ0_isLatin1_aae02 prog_19_method_154_code 1 (some .boolean) :: zg_tb) qR439 qC439 := zk_met (ws' := zg_tb) (P := qP439) (AT := zg_AT) zpn_J0 rfl rfl rfl qk439 (fun s hK => zg_wd hK) (fun p e s m args below meth c s₁ Q B hml hK => qo439 B hml hK) (fun p e s m args below meth c s₁ v G0 H0 B hml hK ha hp hF q hq => absurd hq List.not_mem_nil)
set_option maxRecDepth 100000 in
def qR440 : Room := { frames := 1, cells := 0, slots := 0, locals := 20 }
set_option maxHeartbeats 4000000 in
set_option maxRecDepth 100000 in
theorem qo440 {p : Program} {l : Launch} {e : Env} {s : State} {m : MethodId} {args : Array Value} {below : List Frame} {meth : Method} {c : Code} {s₁ : State} {Q : State → Prop} {D : zk_D} {base : Nat} {Hb : Heap} (B : BodyLoose p l yJ0_coder_7d493 (headSpec (Jvm.Cond.code yJ0_coder_7d493 prog_19_method_152_code 1 (some .byte) :: zg_tb) qR440) prog_19_method_152_code 1 (some .byte) e s m args below meth c s₁) (hml : c.maxLocals = 1) (hK : zg_K D base Hb s) : zk_ok p l e (headSpec (Jvm.Cond.code yJ0_coder_7d493 prog_19_method_152_code 1 (some .byte) :: zg_tb) qR440).room s m args below meth c Q qK D base Hb 1 prog_19_method_152_code qP440 qC440.2.2.2.2 := by
  have S : CallFix p m c prog_19_method_152_code 1 s args (Jvm.Cond.code yJ0_coder_7d493 prog_19_method_152_code 1 (some .byte) :: zg_tb) RJ0 := ⟨B.exec, B.bytes, hml, findClass_of_methodNamed B.named, atoms_spec (ws := (Jvm.Cond.code yJ0_coder_7d493 prog_19_method_152_code 1 (some .byte) :: zg_tb)) B.pre⟩
  exact ⟨List.forall_mem_cons.mpr ⟨⟨zg_gokS S (hK.2.2.2.2.2.2.2.2.1 _ (List.mem_of_getElem? (i := 1) rfl)) (List.mem_cons_of_mem _ zw8_58), zg_pok4⟩, fun _ h => absurd h List.not_mem_nil⟩,
    fun _ h => absurd h List.not_mem_nil,
    fun _ h => absurd h List.not_mem_nil,
    fun _ h => absurd h List.not_mem_nil,
    fun h => absurd rfl h,
    List.forall_mem_cons.mpr ⟨zg_kokG S (hK.2.2.2.2.2.2.2.2.2.2.1 _ (List.mem_of_getElem? (i := 0) rfl)) (List.mem_cons_of_mem _ zw1_144) (by decide +kernel) (zk_dg_ok qdo_19_152 (by decide +kernel)), fun _ h => absurd h List.not_mem_nil⟩,
    fun _ h => absurd h List.not_mem_nil⟩
set_option maxRecDepth 100000 in
theorem qm440 {l : Launch} {D : zk_D} {base : Nat} {Hb : Heap} : zk_Met l qK D base Hb (zg_K D base Hb) yJ0_coder_7d493 (Jvm.Cond.code yJ0_coder_7d493 prog_19_method_152_code 1 (some .byte) :: zg_tb) qR440 qC440 := zk_met (ws' := zg_tb) (P := qP440) (AT := zg_AT) zpn_J0 rfl rfl rfl qk440 (fun s hK => zg_wd hK) (fun p e s m args below meth c s₁ Q B hml hK => qo440 B hml hK) (fun p e s m args below meth c s₁ v G0 H0 B hml hK ha hp hF q hq => absurd hq List.not_mem_nil)
set_option maxRecDepth 100000 in
def qR441 : Room := { frames := 2, cells := 0, slots := 0, locals := 40 }
set_option maxHeartbeats 4000000 in
set_option maxRecDepth 100000 in
theorem qo441 {p : Program} {l : Launch} {e : Env} {s : State} {m : MethodId} {args : Array Value} {below : List Frame} {meth : Method} {c : Code} {s₁ : State} {Q : State → Prop} {D : zk_D} {base : Nat} {Hb : Heap} (B : BodyLoose p l yJ0_length_8abf5 (headSpec (Jvm.Cond.code yJ0_length_8abf5 prog_19_method_54_code 1 (some .int) :: zg_tb) qR441) prog_19_method_54_code 1 (some .int) e s m args below meth c s₁) (hml : c.maxLocals = 1) (hK : zg_K D base Hb s) : zk_ok p l e (headSpec (Jvm.Cond.code yJ0_length_8abf5 prog_19_method_54_code 1 (some .int) :: zg_tb) qR441).room s m args below meth c Q qK D base Hb 1 prog_19_method_54_code qP441 qC441.2.2.2.2 := by
  have S : CallFix p m c prog_19_method_54_code 1 s args (Jvm.Cond.code yJ0_length_8abf5 prog_19_method_54_code 1 (some .int) :: zg_tb) RJ0 := ⟨B.exec, B.bytes, hml, findClass_of_methodNamed B.named, atoms_spec (ws := (Jvm.Cond.code yJ0_length_8abf5 prog_19_method_54_code 1 (some .int) :: zg_tb)) B.pre⟩
  exact ⟨List.forall_mem_cons.mpr ⟨⟨zg_gokS S (hK.2.2.2.2.2.2.2.2.1 _ (List.mem_of_getElem? (i := 0) rfl)) (List.mem_cons_of_mem _ zw8_57), zg_pok4⟩, fun _ h => absurd h List.not_mem_nil⟩,
    fun _ h => absurd h List.not_mem_nil,
    fun _ h => absurd h List.not_mem_nil,
    fun _ h => absurd h List.not_mem_nil,
    fun h => absurd rfl h,
    fun _ h => absurd h List.not_mem_nil,
    List.forall_mem_cons.mpr ⟨zg_callV (fun w h => List.mem_cons_of_mem _ h) zg_tb_all S hK zg_Km qm440 zw1_140 zy_yJ0_coder_7d493_V (ci := 13) (by decide +kernel) hK.2.2.2.2.2.2.2.1 ⟨rfl, rfl⟩ (zk_dg_ok qdo_19_54 (by decide +kernel)), fun _ h => absurd h List.not_mem_nil⟩⟩
set_option maxRecDepth 100000 in
theorem qm441 {l : Launch} {D : zk_D} {base : Nat} {Hb : Heap} : zk_Met l qK D base Hb (zg_K D base Hb) yJ0_length_8abf5 (Jvm.Cond.code yJ0_length_8abf5 prog_19_method_54_code 1 (some .int) :: zg_tb) qR441 qC441 := zk_met (ws' := zg_tb) (P := qP441) (AT := zg_AT) zpn_J0 rfl rfl rfl qk441 (fun s hK => zg_wd hK) (fun p e s m args below meth c s₁ Q B hml hK => qo441 B hml hK) (fun p e s m args below meth c s₁ v G0 H0 B hml hK ha hp hF q hq => absurd hq List.not_mem_nil)
set_option maxRecDepth 100000 in
def qR442 : Room := { frames := 1, cells := 0, slots := 0, locals := 20 }
set_option maxHeartbeats 4000000 in
set_option maxRecDepth 100000 in
theorem qo442 {p : Program} {l : Launch} {e : Env} {s : State} {m : MethodId} {args : Array Value} {below : List Frame} {meth : Method} {c : Code} {s₁ : State} {Q : State → Prop} {D : zk_D} {base : Nat} {Hb : Heap} (B : BodyLoose p l yJ1_canEncode_9a6ad (headSpec (Jvm.Cond.code yJ1_canEncode_9a6ad prog_20_method_4_code 1 (some .boolean) :: zg_tb) qR442) prog_20_method_4_code 1 (some .boolean) e s m args below meth c s₁) (hml : c.maxLocals = 1) (hK : zg_K D base Hb s) : zk_ok p l e (headSpec (Jvm.Cond.code yJ1_canEncode_9a6ad prog_20_method_4_code 1 (some .boolean) :: zg_tb) qR442).room s m args below meth c Q qK D base Hb 1 prog_20_method_4_code qP442 qC442.2.2.2.2 := by
  have S : CallFix p m c prog_20_method_4_code 1 s args (Jvm.Cond.code yJ1_canEncode_9a6ad prog_20_method_4_code 1 (some .boolean) :: zg_tb) RJ1 := ⟨B.exec, B.bytes, hml, findClass_of_methodNamed B.named, atoms_spec (ws := (Jvm.Cond.code yJ1_canEncode_9a6ad prog_20_method_4_code 1 (some .boolean) :: zg_tb)) B.pre⟩
  exact ⟨fun _ h => absurd h List.not_mem_nil,
    fun _ h => absurd h List.not_mem_nil,
    fun _ h => absurd h List.not_mem_nil,
    fun _ h => absurd h List.not_mem_nil,
    fun h => absurd rfl h,
    fun _ h => absurd h List.not_mem_nil,
    fun _ h => absurd h List.not_mem_nil⟩
set_option maxRecDepth 100000 in
theorem qm442 {l : Launch} {D : zk_D} {base : Nat} {Hb : Heap} : zk_Met l qK D base Hb (zg_K D base Hb) yJ1_canEncode_9a6ad (Jvm.Cond.code yJ1_canEncode_9a6ad prog_20_method_4_code 1 (some .boolean) :: zg_tb) qR442 qC442 := zk_met (ws' := zg_tb) (P := qP442) (AT := zg_AT) zpn_J1 rfl rfl rfl qk442 (fun s hK => zg_wd hK) (fun p e s m args below meth c s₁ Q B hml hK => qo442 B hml hK) (fun p e s m args below meth c s₁ v G0 H0 B hml hK ha hp hF q hq => absurd hq List.not_mem_nil)
set_option maxRecDepth 100000 in
def qR443 : Room := { frames := 1, cells := 0, slots := 0, locals := 20 }
set_option maxHeartbeats 4000000 in
set_option maxRecDepth 100000 in
theorem qo443 {p : Program} {l : Launch} {e : Env} {s : State} {m : MethodId} {args : Array Value} {below : List Frame} {meth : Method} {c : Code} {s₁ : State} {Q : State → Prop} {D : zk_D} {base : Nat} {Hb : Heap} (B : BodyLoose p l yJ9_max_7cf53 (headSpec (Jvm.Cond.code yJ9_max_7cf53 prog_18_method_65_code 2 (some .int) :: zg_tb) qR443) prog_18_method_65_code 2 (some .int) e s m args below meth c s₁) (hml : c.maxLocals = 2) (hK : zg_K D base Hb s) : zk_ok p l e (headSpec (Jvm.Cond.code yJ9_max_7cf53 prog_18_method_65_code 2 (some .int) :: zg_tb) qR443).room s m args below meth c Q qK D base Hb 2 prog_18_method_65_code qP443 qC443.2.2.2.2 := by
  have S : CallFix p m c prog_18_method_65_code 2 s args (Jvm.Cond.code yJ9_max_7cf53 prog_18_method_65_code 2 (some .int) :: zg_tb) RJ9 := ⟨B.exec, B.bytes, hml, findClass_of_methodNamed B.named, atoms_spec (ws := (Jvm.Cond.code yJ9_max_7cf53 prog_18_method_65_code 2 (some .int) :: zg_tb)) B.pre⟩
  exact ⟨fun _ h => absurd h List.not_mem_nil,
    fun _ h => absurd h List.not_mem_nil,
    fun _ h => absurd h List.not_mem_nil,
    fun _ h => absurd h List.not_mem_nil,
    fun h => absurd rfl h,
    fun _ h => absurd h List.not_mem_nil,
    fun _ h => absurd h List.not_mem_nil⟩
set_option maxRecDepth 100000 in
theorem qm443 {l : Launch} {D : zk_D} {base : Nat} {Hb : Heap} : zk_Met l qK D base Hb (zg_K D base Hb) yJ9_max_7cf53 (Jvm.Cond.code yJ9_max_7cf53 prog_18_method_65_code 2 (some .int) :: zg_tb) qR443 qC443 := zk_metF (ws' := zg_tb) (P := qP443) (AT := zg_AT) zpf_yJ9_max_7cf53 rfl rfl rfl qk443 (fun s hK => zg_wd hK) (fun p e s m args below meth c s₁ Q B hml hK => qo443 B hml hK) (fun p e s m args below meth c s₁ v G0 H0 B hml hK ha hp hF q hq => absurd hq List.not_mem_nil)
set_option maxRecDepth 100000 in
def qR444 : Room := { frames := 1, cells := 0, slots := 0, locals := 20 }
set_option maxHeartbeats 4000000 in
set_option maxRecDepth 100000 in
theorem qo444 {p : Program} {l : Launch} {e : Env} {s : State} {m : MethodId} {args : Array Value} {below : List Frame} {meth : Method} {c : Code} {s₁ : State} {Q : State → Prop} {D : zk_D} {base : Nat} {Hb : Heap} (B : BodyLoose p l yJ9_min_7cf53 (headSpec (Jvm.Cond.code yJ9_min_7cf53 prog_18_method_69_code 2 (some .int) :: zg_tb) qR444) prog_18_method_69_code 2 (some .int) e s m args below meth c s₁) (hml : c.maxLocals = 2) (hK : zg_K D base Hb s) : zk_ok p l e (headSpec (Jvm.Cond.code yJ9_min_7cf53 prog_18_method_69_code 2 (some .int) :: zg_tb) qR444).room s m args below meth c Q qK D base Hb 2 prog_18_method_69_code qP444 qC444.2.2.2.2 := by
  have S : CallFix p m c prog_18_method_69_code 2 s args (Jvm.Cond.code yJ9_min_7cf53 prog_18_method_69_code 2 (some .int) :: zg_tb) RJ9 := ⟨B.exec, B.bytes, hml, findClass_of_methodNamed B.named, atoms_spec (ws := (Jvm.Cond.code yJ9_min_7cf53 prog_18_method_69_code 2 (some .int) :: zg_tb)) B.pre⟩
  exact ⟨fun _ h => absurd h List.not_mem_nil,
    fun _ h => absurd h List.not_mem_nil,
    fun _ h => absurd h List.not_mem_nil,
    fun _ h => absurd h List.not_mem_nil,
    fun h => absurd rfl h,
    fun _ h => absurd h List.not_mem_nil,
    fun _ h => absurd h List.not_mem_nil⟩
set_option maxRecDepth 100000 in
theorem qm444 {l : Launch} {D : zk_D} {base : Nat} {Hb : Heap} : zk_Met l qK D base Hb (zg_K D base Hb) yJ9_min_7cf53 (Jvm.Cond.code yJ9_min_7cf53 prog_18_method_69_code 2 (some .int) :: zg_tb) qR444 qC444 := zk_metF (ws' := zg_tb) (P := qP444) (AT := zg_AT) zpf_yJ9_min_7cf53 rfl rfl rfl qk444 (fun s hK => zg_wd hK) (fun p e s m args below meth c s₁ Q B hml hK => qo444 B hml hK) (fun p e s m args below meth c s₁ v G0 H0 B hml hK ha hp hF q hq => absurd hq List.not_mem_nil)
set_option maxRecDepth 100000 in
def qR445 : Room := { frames := 1, cells := 0, slots := 0, locals := 20 }
set_option maxHeartbeats 4000000 in
set_option maxRecDepth 100000 in
theorem qo445 {p : Program} {l : Launch} {e : Env} {s : State} {m : MethodId} {args : Array Value} {below : List Frame} {meth : Method} {c : Code} {s₁ : State} {Q : State → Prop} {D : zk_D} {base : Nat} {Hb : Heap} (B : BodyLoose p l yJ1_indexOfChar_4cfef (headSpec (Jvm.Cond.code yJ1_indexOfChar_4cfef prog_20_method_23_code 6 (some .int) :: zg_tb) qR445) prog_20_method_23_code 6 (some .int) e s m args below meth c s₁) (hml : c.maxLocals = 6) (hK : zg_K D base Hb s) : zk_ok p l e (headSpec (Jvm.Cond.code yJ1_indexOfChar_4cfef prog_20_method_23_code 6 (some .int) :: zg_tb) qR445).room s m args below meth c Q qK D base Hb 6 prog_20_method_23_code qP445 qC445.2.2.2.2 := by
  have S : CallFix p m c prog_20_method_23_code 6 s args (Jvm.Cond.code yJ1_indexOfChar_4cfef prog_20_method_23_code 6 (some .int) :: zg_tb) RJ1 := ⟨B.exec, B.bytes, hml, findClass_of_methodNamed B.named, atoms_spec (ws := (Jvm.Cond.code yJ1_indexOfChar_4cfef prog_20_method_23_code 6 (some .int) :: zg_tb)) B.pre⟩
  exact ⟨fun _ h => absurd h List.not_mem_nil,
    fun _ h => absurd h List.not_mem_nil,
    fun _ h => absurd h List.not_mem_nil,
    fun _ h => absurd h List.not_mem_nil,
    fun h => absurd rfl h,
    fun _ h => absurd h List.not_mem_nil,
    fun _ h => absurd h List.not_mem_nil⟩
set_option maxRecDepth 100000 in
theorem qm445 {l : Launch} {D : zk_D} {base : Nat} {Hb : Heap} : zk_Met l qK D base Hb (zg_K D base Hb) yJ1_indexOfChar_4cfef (Jvm.Cond.code yJ1_indexOfChar_4cfef prog_20_method_23_code 6 (some .int) :: zg_tb) qR445 qC445 := zk_met (ws' := zg_tb) (P := qP445) (AT := zg_AT) zpn_J1 rfl rfl rfl qk445 (fun s hK => zg_wd hK) (fun p e s m args below meth c s₁ Q B hml hK => qo445 B hml hK) (fun p e s m args below meth c s₁ v G0 H0 B hml hK ha hp hF q hq => absurd hq List.not_mem_nil)
set_option maxRecDepth 100000 in
def qR446 : Room := { frames := 2, cells := 0, slots := 0, locals := 45 }
set_option maxHeartbeats 4000000 in
set_option maxRecDepth 100000 in
theorem qo446 {p : Program} {l : Launch} {e : Env} {s : State} {m : MethodId} {args : Array Value} {below : List Frame} {meth : Method} {c : Code} {s₁ : State} {Q : State → Prop} {D : zk_D} {base : Nat} {Hb : Heap} (B : BodyLoose p l yJ1_indexOf_4cfef (headSpec (Jvm.Cond.code yJ1_indexOf_4cfef prog_20_method_22_code 4 (some .int) :: zg_tb) qR446) prog_20_method_22_code 4 (some .int) e s m args below meth c s₁) (hml : c.maxLocals = 4) (hK : zg_K D base Hb s) : zk_ok p l e (headSpec (Jvm.Cond.code yJ1_indexOf_4cfef prog_20_method_22_code 4 (some .int) :: zg_tb) qR446).room s m args below meth c Q qK D base Hb 4 prog_20_method_22_code qP446 qC446.2.2.2.2 := by
  have S : CallFix p m c prog_20_method_22_code 4 s args (Jvm.Cond.code yJ1_indexOf_4cfef prog_20_method_22_code 4 (some .int) :: zg_tb) RJ1 := ⟨B.exec, B.bytes, hml, findClass_of_methodNamed B.named, atoms_spec (ws := (Jvm.Cond.code yJ1_indexOf_4cfef prog_20_method_22_code 4 (some .int) :: zg_tb)) B.pre⟩
  exact ⟨fun _ h => absurd h List.not_mem_nil,
    fun _ h => absurd h List.not_mem_nil,
    fun _ h => absurd h List.not_mem_nil,
    fun _ h => absurd h List.not_mem_nil,
    fun h => absurd rfl h,
    fun _ h => absurd h List.not_mem_nil,
    List.forall_mem_cons.mpr ⟨zg_callS (fun w h => List.mem_cons_of_mem _ h) zg_tb_all S hK zg_Km qm442 zw2_204 zy_yJ1_canEncode_9a6ad_S (by decide +kernel) ⟨rfl, rfl⟩ (zk_dg_ok qdo_20_22 (by decide +kernel)), List.forall_mem_cons.mpr ⟨zg_callS (fun w h => List.mem_cons_of_mem _ h) zg_tb_all S hK zg_Km qm443 zw2_207 zy_yJ9_max_7cf53_S (by decide +kernel) ⟨rfl, rfl⟩ (zk_dg_ok qdo_20_22 (by decide +kernel)), List.forall_mem_cons.mpr ⟨zg_callS (fun w h => List.mem_cons_of_mem _ h) zg_tb_all S hK zg_Km qm444 zw2_210 zy_yJ9_min_7cf53_S (by decide +kernel) ⟨rfl, rfl⟩ (zk_dg_ok qdo_20_22 (by decide +kernel)), List.forall_mem_cons.mpr ⟨zg_callS (fun w h => List.mem_cons_of_mem _ h) zg_tb_all S hK zg_Km qm445 zw2_213 zy_yJ1_indexOfChar_4cfef_S (by decide +kernel) ⟨rfl, rfl⟩ (zk_dg_ok qdo_20_22 (by decide +kernel)), fun _ h => absurd h List.not_mem_nil⟩⟩⟩⟩⟩
set_option maxRecDepth 100000 in
theorem qm446 {l : Launch} {D : zk_D} {base : Nat} {Hb : Heap} : zk_Met l qK D base Hb (zg_K D base Hb) yJ1_indexOf_4cfef (Jvm.Cond.code yJ1_indexOf_4cfef prog_20_method_22_code 4 (some .int) :: zg_tb) qR446 qC446 := zk_met (ws' := zg_tb) (P := qP446) (AT := zg_AT) zpn_J1 rfl rfl rfl qk446 (fun s hK => zg_wd hK) (fun p e s m args below meth c s₁ Q B hml hK => qo446 B hml hK) (fun p e s m args below meth c s₁ v G0 H0 B hml hK ha hp hF q hq => absurd hq List.not_mem_nil)
set_option maxRecDepth 100000 in
def qR447 : Room := { frames := 3, cells := 0, slots := 0, locals := 68 }
set_option maxHeartbeats 4000000 in
set_option maxRecDepth 100000 in
theorem qo447 {p : Program} {l : Launch} {e : Env} {s : State} {m : MethodId} {args : Array Value} {below : List Frame} {meth : Method} {c : Code} {s₁ : State} {Q : State → Prop} {D : zk_D} {base : Nat} {Hb : Heap} (B : BodyLoose p l yJ0_indexOf_7cf53 (headSpec (Jvm.Cond.code yJ0_indexOf_7cf53 prog_19_method_80_code 3 (some .int) :: zg_tb) qR447) prog_19_method_80_code 3 (some .int) e s m args below meth c s₁) (hml : c.maxLocals = 3) (hK : zg_K D base Hb s) : zk_ok p l e (headSpec (Jvm.Cond.code yJ0_indexOf_7cf53 prog_19_method_80_code 3 (some .int) :: zg_tb) qR447).room s m args below meth c Q qK D base Hb 3 prog_19_method_80_code qP447 qC447.2.2.2.2 := by
  have S : CallFix p m c prog_19_method_80_code 3 s args (Jvm.Cond.code yJ0_indexOf_7cf53 prog_19_method_80_code 3 (some .int) :: zg_tb) RJ0 := ⟨B.exec, B.bytes, hml, findClass_of_methodNamed B.named, atoms_spec (ws := (Jvm.Cond.code yJ0_indexOf_7cf53 prog_19_method_80_code 3 (some .int) :: zg_tb)) B.pre⟩
  exact ⟨List.forall_mem_cons.mpr ⟨⟨zg_gokS S (hK.2.2.2.2.2.2.2.2.1 _ (List.mem_of_getElem? (i := 0) rfl)) (List.mem_cons_of_mem _ zw8_57), zg_pok4⟩, fun _ h => absurd h List.not_mem_nil⟩,
    fun _ h => absurd h List.not_mem_nil,
    fun _ h => absurd h List.not_mem_nil,
    fun _ h => absurd h List.not_mem_nil,
    fun h => absurd rfl h,
    fun _ h => absurd h List.not_mem_nil,
    List.forall_mem_cons.mpr ⟨zg_callV (fun w h => List.mem_cons_of_mem _ h) zg_tb_all S hK zg_Km qm439 zw2_196 zy_yJ0_isLatin1_aae02_V (ci := 13) (by decide +kernel) hK.2.2.2.2.2.2.2.1 ⟨rfl, rfl⟩ (zk_dg_ok qdo_19_80 (by decide +kernel)), List.forall_mem_cons.mpr ⟨zg_callV (fun w h => List.mem_cons_of_mem _ h) zg_tb_all S hK zg_Km qm441 zw2_200 zy_yJ0_length_8abf5_V (ci := 13) (by decide +kernel) hK.2.2.2.2.2.2.2.1 ⟨rfl, rfl⟩ (zk_dg_ok qdo_19_80 (by decide +kernel)), List.forall_mem_cons.mpr ⟨zg_callS (fun w h => List.mem_cons_of_mem _ h) zg_tb_all S hK zg_Km qm446 zw2_201 zy_yJ1_indexOf_4cfef_S (by decide +kernel) ⟨rfl, rfl⟩ (zk_dg_ok qdo_19_80 (by decide +kernel)), fun _ h => absurd h List.not_mem_nil⟩⟩⟩⟩
set_option maxRecDepth 100000 in
theorem qm447 {l : Launch} {D : zk_D} {base : Nat} {Hb : Heap} : zk_Met l qK D base Hb (zg_K D base Hb) yJ0_indexOf_7cf53 (Jvm.Cond.code yJ0_indexOf_7cf53 prog_19_method_80_code 3 (some .int) :: zg_tb) qR447 qC447 := zk_met (ws' := zg_tb) (P := qP447) (AT := zg_AT) zpn_J0 rfl rfl rfl qk447 (fun s hK => zg_wd hK) (fun p e s m args below meth c s₁ Q B hml hK => qo447 B hml hK) (fun p e s m args below meth c s₁ v G0 H0 B hml hK ha hp hF q hq => absurd hq List.not_mem_nil)
set_option maxRecDepth 100000 in
def qR448 : Room := { frames := 4, cells := 0, slots := 0, locals := 90 }
set_option maxHeartbeats 4000000 in
set_option maxRecDepth 100000 in
theorem qo448 {p : Program} {l : Launch} {e : Env} {s : State} {m : MethodId} {args : Array Value} {below : List Frame} {meth : Method} {c : Code} {s₁ : State} {Q : State → Prop} {D : zk_D} {base : Nat} {Hb : Heap} (B : BodyLoose p l yJ0_indexOf_0f7a4 (headSpec (Jvm.Cond.code yJ0_indexOf_0f7a4 prog_19_method_79_code 2 (some .int) :: zg_tb) qR448) prog_19_method_79_code 2 (some .int) e s m args below meth c s₁) (hml : c.maxLocals = 2) (hK : zg_K D base Hb s) : zk_ok p l e (headSpec (Jvm.Cond.code yJ0_indexOf_0f7a4 prog_19_method_79_code 2 (some .int) :: zg_tb) qR448).room s m args below meth c Q qK D base Hb 2 prog_19_method_79_code qP448 qC448.2.2.2.2 := by
  have S : CallFix p m c prog_19_method_79_code 2 s args (Jvm.Cond.code yJ0_indexOf_0f7a4 prog_19_method_79_code 2 (some .int) :: zg_tb) RJ0 := ⟨B.exec, B.bytes, hml, findClass_of_methodNamed B.named, atoms_spec (ws := (Jvm.Cond.code yJ0_indexOf_0f7a4 prog_19_method_79_code 2 (some .int) :: zg_tb)) B.pre⟩
  exact ⟨fun _ h => absurd h List.not_mem_nil,
    fun _ h => absurd h List.not_mem_nil,
    fun _ h => absurd h List.not_mem_nil,
    fun _ h => absurd h List.not_mem_nil,
    fun h => absurd rfl h,
    fun _ h => absurd h List.not_mem_nil,
    List.forall_mem_cons.mpr ⟨zg_callV (fun w h => List.mem_cons_of_mem _ h) zg_tb_all S hK zg_Km qm447 zw2_192 zy_yJ0_indexOf_7cf53_V (ci := 13) (by decide +kernel) hK.2.2.2.2.2.2.2.1 ⟨rfl, rfl⟩ (zk_dg_ok qdo_19_79 (by decide +kernel)), fun _ h => absurd h List.not_mem_nil⟩⟩
set_option maxRecDepth 100000 in
theorem qm448 {l : Launch} {D : zk_D} {base : Nat} {Hb : Heap} : zk_Met l qK D base Hb (zg_K D base Hb) yJ0_indexOf_0f7a4 (Jvm.Cond.code yJ0_indexOf_0f7a4 prog_19_method_79_code 2 (some .int) :: zg_tb) qR448 qC448 := zk_met (ws' := zg_tb) (P := qP448) (AT := zg_AT) zpn_J0 rfl rfl rfl qk448 (fun s hK => zg_wd hK) (fun p e s m args below meth c s₁ Q B hml hK => qo448 B hml hK) (fun p e s m args below meth c s₁ v G0 H0 B hml hK ha hp hF q hq => absurd hq List.not_mem_nil)
set_option maxRecDepth 100000 in
def qR449 : Room := { frames := 1, cells := 0, slots := 0, locals := 20 }
set_option maxHeartbeats 4000000 in
set_option maxRecDepth 100000 in
theorem qo449 {p : Program} {l : Launch} {e : Env} {s : State} {m : MethodId} {args : Array Value} {below : List Frame} {meth : Method} {c : Code} {s₁ : State} {Q : State → Prop} {D : zk_D} {base : Nat} {Hb : Heap} (B : BodyLoose p l yJ0_coder_7d493 (headSpec (Jvm.Cond.code yJ0_coder_7d493 prog_19_method_152_code 1 (some .byte) :: zg_tb) qR449) prog_19_method_152_code 1 (some .byte) e s m args below meth c s₁) (hml : c.maxLocals = 1) (hK : zg_K D base Hb s) : zk_ok p l e (headSpec (Jvm.Cond.code yJ0_coder_7d493 prog_19_method_152_code 1 (some .byte) :: zg_tb) qR449).room s m args below meth c Q qK D base Hb 1 prog_19_method_152_code qP449 qC449.2.2.2.2 := by
  have S : CallFix p m c prog_19_method_152_code 1 s args (Jvm.Cond.code yJ0_coder_7d493 prog_19_method_152_code 1 (some .byte) :: zg_tb) RJ0 := ⟨B.exec, B.bytes, hml, findClass_of_methodNamed B.named, atoms_spec (ws := (Jvm.Cond.code yJ0_coder_7d493 prog_19_method_152_code 1 (some .byte) :: zg_tb)) B.pre⟩
  exact ⟨List.forall_mem_cons.mpr ⟨⟨zg_gokS S (hK.2.2.2.2.2.2.2.2.1 _ (List.mem_of_getElem? (i := 1) rfl)) (List.mem_cons_of_mem _ zw8_58), zg_pok4⟩, fun _ h => absurd h List.not_mem_nil⟩,
    fun _ h => absurd h List.not_mem_nil,
    fun _ h => absurd h List.not_mem_nil,
    fun _ h => absurd h List.not_mem_nil,
    fun h => absurd rfl h,
    List.forall_mem_cons.mpr ⟨zg_kokG S (hK.2.2.2.2.2.2.2.2.2.2.1 _ (List.mem_of_getElem? (i := 0) rfl)) (List.mem_cons_of_mem _ zw1_144) (by decide +kernel) (zk_dg_ok qdo_19_152 (by decide +kernel)), fun _ h => absurd h List.not_mem_nil⟩,
    fun _ h => absurd h List.not_mem_nil⟩
set_option maxRecDepth 100000 in
theorem qm449 {l : Launch} {D : zk_D} {base : Nat} {Hb : Heap} : zk_Met l qK D base Hb (zg_K D base Hb) yJ0_coder_7d493 (Jvm.Cond.code yJ0_coder_7d493 prog_19_method_152_code 1 (some .byte) :: zg_tb) qR449 qC449 := zk_met (ws' := zg_tb) (P := qP449) (AT := zg_AT) zpn_J0 rfl rfl rfl qk449 (fun s hK => zg_wd hK) (fun p e s m args below meth c s₁ Q B hml hK => qo449 B hml hK) (fun p e s m args below meth c s₁ v G0 H0 B hml hK ha hp hF q hq => absurd hq List.not_mem_nil)
set_option maxRecDepth 100000 in
def qR450 : Room := { frames := 2, cells := 0, slots := 0, locals := 40 }
set_option maxHeartbeats 4000000 in
set_option maxRecDepth 100000 in
theorem qo450 {p : Program} {l : Launch} {e : Env} {s : State} {m : MethodId} {args : Array Value} {below : List Frame} {meth : Method} {c : Code} {s₁ : State} {Q : State → Prop} {D : zk_D} {base : Nat} {Hb : Heap} (B : BodyLoose p l yJ0_length_8abf5 (headSpec (Jvm.Cond.code yJ0_length_8abf5 prog_19_method_54_code 1 (some .int) :: zg_tb) qR450) prog_19_method_54_code 1 (some .int) e s m args below meth c s₁) (hml : c.maxLocals = 1) (hK : zg_K D base Hb s) : zk_ok p l e (headSpec (Jvm.Cond.code yJ0_length_8abf5 prog_19_method_54_code 1 (some .int) :: zg_tb) qR450).room s m args below meth c Q qK D base Hb 1 prog_19_method_54_code qP450 qC450.2.2.2.2 := by
  have S : CallFix p m c prog_19_method_54_code 1 s args (Jvm.Cond.code yJ0_length_8abf5 prog_19_method_54_code 1 (some .int) :: zg_tb) RJ0 := ⟨B.exec, B.bytes, hml, findClass_of_methodNamed B.named, atoms_spec (ws := (Jvm.Cond.code yJ0_length_8abf5 prog_19_method_54_code 1 (some .int) :: zg_tb)) B.pre⟩
  exact ⟨List.forall_mem_cons.mpr ⟨⟨zg_gokS S (hK.2.2.2.2.2.2.2.2.1 _ (List.mem_of_getElem? (i := 0) rfl)) (List.mem_cons_of_mem _ zw8_57), zg_pok4⟩, fun _ h => absurd h List.not_mem_nil⟩,
    fun _ h => absurd h List.not_mem_nil,
    fun _ h => absurd h List.not_mem_nil,
    fun _ h => absurd h List.not_mem_nil,
    fun h => absurd rfl h,
    fun _ h => absurd h List.not_mem_nil,
    List.forall_mem_cons.mpr ⟨zg_callV (fun w h => List.mem_cons_of_mem _ h) zg_tb_all S hK zg_Km qm449 zw1_140 zy_yJ0_coder_7d493_V (ci := 13) (by decide +kernel) hK.2.2.2.2.2.2.2.1 ⟨rfl, rfl⟩ (zk_dg_ok qdo_19_54 (by decide +kernel)), fun _ h => absurd h List.not_mem_nil⟩⟩
set_option maxRecDepth 100000 in
theorem qm450 {l : Launch} {D : zk_D} {base : Nat} {Hb : Heap} : zk_Met l qK D base Hb (zg_K D base Hb) yJ0_length_8abf5 (Jvm.Cond.code yJ0_length_8abf5 prog_19_method_54_code 1 (some .int) :: zg_tb) qR450 qC450 := zk_met (ws' := zg_tb) (P := qP450) (AT := zg_AT) zpn_J0 rfl rfl rfl qk450 (fun s hK => zg_wd hK) (fun p e s m args below meth c s₁ Q B hml hK => qo450 B hml hK) (fun p e s m args below meth c s₁ v G0 H0 B hml hK ha hp hF q hq => absurd hq List.not_mem_nil)
set_option maxRecDepth 100000 in
def qR451 : Room := { frames := 1, cells := 0, slots := 0, locals := 20 }
set_option maxHeartbeats 4000000 in
set_option maxRecDepth 100000 in
theorem qo451 {p : Program} {l : Launch} {e : Env} {s : State} {m : MethodId} {args : Array Value} {below : List Frame} {meth : Method} {c : Code} {s₁ : State} {Q : State → Prop} {D : zk_D} {base : Nat} {Hb : Heap} (B : BodyLoose p l yJ0_isLatin1_aae02 (headSpec (Jvm.Cond.code yJ0_isLatin1_aae02 prog_19_method_154_code 1 (some .boolean) :: zg_tb) qR451) prog_19_method_154_code 1 (some .boolean) e s m args below meth c s₁) (hml : c.maxLocals = 1) (hK : zg_K D base Hb s) : zk_ok p l e (headSpec (Jvm.Cond.code yJ0_isLatin1_aae02 prog_19_method_154_code 1 (some .boolean) :: zg_tb) qR451).room s m args below meth c Q qK D base Hb 1 prog_19_method_154_code qP451 qC451.2.2.2.2 := by
  have S : CallFix p m c prog_19_method_154_code 1 s args (Jvm.Cond.code yJ0_isLatin1_aae02 prog_19_method_154_code 1 (some .boolean) :: zg_tb) RJ0 := ⟨B.exec, B.bytes, hml, findClass_of_methodNamed B.named, atoms_spec (ws := (Jvm.Cond.code yJ0_isLatin1_aae02 prog_19_method_154_code 1 (some .boolean) :: zg_tb)) B.pre⟩
  exact ⟨List.forall_mem_cons.mpr ⟨⟨zg_gokS S (hK.2.2.2.2.2.2.2.2.1 _ (List.mem_of_getElem? (i := 1) rfl)) (List.mem_cons_of_mem _ zw8_58), zg_pok4⟩, fun _ h => absurd h List.not_mem_nil⟩,
    fun _ h => absurd h List.not_mem_nil,
    fun _ h => absurd h List.not_mem_nil,
    fun _ h => absurd h List.not_mem_nil,
    fun h => absurd rfl h,
    List.forall_mem_cons.mpr ⟨zg_kokG S (hK.2.2.2.2.2.2.2.2.2.2.1 _ (List.mem_of_getElem? (i := 0) rfl)) (List.mem_cons_of_mem _ zw1_144) (by decide +kernel) (zk_dg_ok qdo_19_154 (by decide +kernel)), fun _ h => absurd h List.not_mem_nil⟩,
    fun _ h => absurd h List.not_mem_nil⟩
set_option maxRecDepth 100000 in
theorem qm451 {l : Launch} {D : zk_D} {base : Nat} {Hb : Heap} : zk_Met l qK D base Hb (zg_K D base Hb) yJ0_isLatin1_aae02 (Jvm.Cond.code yJ0_isLatin1_aae02 prog_19_method_154_code 1 (some .boolean) :: zg_tb) qR451 qC451 := zk_met (ws' := zg_tb) (P := qP451) (AT := zg_AT) zpn_J0 rfl rfl rfl qk451 (fun s hK => zg_wd hK) (fun p e s m args below meth c s₁ Q B hml hK => qo451 B hml hK) (fun p e s m args below meth c s₁ v G0 H0 B hml hK ha hp hF q hq => absurd hq List.not_mem_nil)
set_option maxRecDepth 100000 in
def qR453 : Room := { frames := 3, cells := 0, slots := 0, locals := 81 }
set_option maxHeartbeats 4000000 in
set_option maxRecDepth 100000 in
theorem qo453 {p : Program} {l : Launch} {e : Env} {s : State} {m : MethodId} {args : Array Value} {below : List Frame} {meth : Method} {c : Code} {s₁ : State} {Q : State → Prop} {D : zk_D} {base : Nat} {Hb : Heap} (B : BodyLoose p l yJ1_charAt_3b067 (headSpec (Jvm.Cond.code yJ1_charAt_3b067 prog_20_method_2_code 2 (some .char) :: zg_tb) qR453) prog_20_method_2_code 2 (some .char) e s m args below meth c s₁) (hml : c.maxLocals = 2) (hK : zg_K D base Hb s) : zk_ok p l e (headSpec (Jvm.Cond.code yJ1_charAt_3b067 prog_20_method_2_code 2 (some .char) :: zg_tb) qR453).room s m args below meth c Q qK D base Hb 2 prog_20_method_2_code qP453 qC453.2.2.2.2 := by
  have S : CallFix p m c prog_20_method_2_code 2 s args (Jvm.Cond.code yJ1_charAt_3b067 prog_20_method_2_code 2 (some .char) :: zg_tb) RJ1 := ⟨B.exec, B.bytes, hml, findClass_of_methodNamed B.named, atoms_spec (ws := (Jvm.Cond.code yJ1_charAt_3b067 prog_20_method_2_code 2 (some .char) :: zg_tb)) B.pre⟩
  exact ⟨fun _ h => absurd h List.not_mem_nil,
    fun _ h => absurd h List.not_mem_nil,
    fun _ h => absurd h List.not_mem_nil,
    fun _ h => absurd h List.not_mem_nil,
    fun h => absurd rfl h,
    fun _ h => absurd h List.not_mem_nil,
    List.forall_mem_cons.mpr ⟨zg_callS (fun w h => List.mem_cons_of_mem _ h) zg_tb_all S hK zg_Km qm452 zw4_68 zy_yJ0_checkIndex_df160_S (by decide +kernel) ⟨rfl, rfl⟩ (zk_dg_ok qdo_20_2 (by decide +kernel)), fun _ h => absurd h List.not_mem_nil⟩⟩
set_option maxRecDepth 100000 in
theorem qm453 {l : Launch} {D : zk_D} {base : Nat} {Hb : Heap} : zk_Met l qK D base Hb (zg_K D base Hb) yJ1_charAt_3b067 (Jvm.Cond.code yJ1_charAt_3b067 prog_20_method_2_code 2 (some .char) :: zg_tb) qR453 qC453 := zk_met (ws' := zg_tb) (P := qP453) (AT := zg_AT) zpn_J1 rfl rfl rfl qk453 (fun s hK => zg_wd hK) (fun p e s m args below meth c s₁ Q B hml hK => qo453 B hml hK) (fun p e s m args below meth c s₁ v G0 H0 B hml hK ha hp hF q hq => absurd hq List.not_mem_nil)
set_option maxRecDepth 100000 in
def qR454 : Room := { frames := 4, cells := 0, slots := 0, locals := 102 }
set_option maxHeartbeats 4000000 in
set_option maxRecDepth 100000 in
theorem qo454 {p : Program} {l : Launch} {e : Env} {s : State} {m : MethodId} {args : Array Value} {below : List Frame} {meth : Method} {c : Code} {s₁ : State} {Q : State → Prop} {D : zk_D} {base : Nat} {Hb : Heap} (B : BodyLoose p l yJ0_charAt_5068e (headSpec (Jvm.Cond.code yJ0_charAt_5068e prog_19_method_56_code 2 (some .char) :: zg_tb) qR454) prog_19_method_56_code 2 (some .char) e s m args below meth c s₁) (hml : c.maxLocals = 2) (hK : zg_K D base Hb s) : zk_ok p l e (headSpec (Jvm.Cond.code yJ0_charAt_5068e prog_19_method_56_code 2 (some .char) :: zg_tb) qR454).room s m args below meth c Q qK D base Hb 2 prog_19_method_56_code qP454 qC454.2.2.2.2 := by
  have S : CallFix p m c prog_19_method_56_code 2 s args (Jvm.Cond.code yJ0_charAt_5068e prog_19_method_56_code 2 (some .char) :: zg_tb) RJ0 := ⟨B.exec, B.bytes, hml, findClass_of_methodNamed B.named, atoms_spec (ws := (Jvm.Cond.code yJ0_charAt_5068e prog_19_method_56_code 2 (some .char) :: zg_tb)) B.pre⟩
  exact ⟨List.forall_mem_cons.mpr ⟨⟨zg_gokS S (hK.2.2.2.2.2.2.2.2.1 _ (List.mem_of_getElem? (i := 0) rfl)) (List.mem_cons_of_mem _ zw8_57), zg_pok4⟩, fun _ h => absurd h List.not_mem_nil⟩,
    fun _ h => absurd h List.not_mem_nil,
    fun _ h => absurd h List.not_mem_nil,
    fun _ h => absurd h List.not_mem_nil,
    fun h => absurd rfl h,
    fun _ h => absurd h List.not_mem_nil,
    List.forall_mem_cons.mpr ⟨zg_callV (fun w h => List.mem_cons_of_mem _ h) zg_tb_all S hK zg_Km qm451 zw2_196 zy_yJ0_isLatin1_aae02_V (ci := 13) (by decide +kernel) hK.2.2.2.2.2.2.2.1 ⟨rfl, rfl⟩ (zk_dg_ok qdo_19_56 (by decide +kernel)), List.forall_mem_cons.mpr ⟨zg_callS (fun w h => List.mem_cons_of_mem _ h) zg_tb_all S hK zg_Km qm453 zw4_65 zy_yJ1_charAt_3b067_S (by decide +kernel) ⟨rfl, rfl⟩ (zk_dg_ok qdo_19_56 (by decide +kernel)), fun _ h => absurd h List.not_mem_nil⟩⟩⟩
set_option maxRecDepth 100000 in
theorem qm454 {l : Launch} {D : zk_D} {base : Nat} {Hb : Heap} : zk_Met l qK D base Hb (zg_K D base Hb) yJ0_charAt_5068e (Jvm.Cond.code yJ0_charAt_5068e prog_19_method_56_code 2 (some .char) :: zg_tb) qR454 qC454 := zk_met (ws' := zg_tb) (P := qP454) (AT := zg_AT) zpn_J0 rfl rfl rfl qk454 (fun s hK => zg_wd hK) (fun p e s m args below meth c s₁ Q B hml hK => qo454 B hml hK) (fun p e s m args below meth c s₁ v G0 H0 B hml hK ha hp hF q hq => absurd hq List.not_mem_nil)
set_option maxRecDepth 100000 in
def qR455 : Room := { frames := 5, cells := 0, slots := 0, locals := 123 }
set_option maxHeartbeats 4000000 in
set_option maxRecDepth 100000 in
theorem qo455 {p : Program} {l : Launch} {e : Env} {s : State} {m : MethodId} {args : Array Value} {below : List Frame} {meth : Method} {c : Code} {s₁ : State} {Q : State → Prop} {D : zk_D} {base : Nat} {Hb : Heap} (B : BodyLoose p l yX2_folded (headSpec (Jvm.Cond.code yX2_folded prog_4_method_6_code 2 (some .int) :: zg_tb) qR455) prog_4_method_6_code 2 (some .int) e s m args below meth c s₁) (hml : c.maxLocals = 2) (hK : zg_K D base Hb s) : zk_ok p l e (headSpec (Jvm.Cond.code yX2_folded prog_4_method_6_code 2 (some .int) :: zg_tb) qR455).room s m args below meth c Q qK D base Hb 2 prog_4_method_6_code qP455 qC455.2.2.2.2 := by
  have S : CallFix p m c prog_4_method_6_code 2 s args (Jvm.Cond.code yX2_folded prog_4_method_6_code 2 (some .int) :: zg_tb) RX2 := ⟨B.exec, B.bytes, hml, findClass_of_methodNamed B.named, atoms_spec (ws := (Jvm.Cond.code yX2_folded prog_4_method_6_code 2 (some .int) :: zg_tb)) B.pre⟩
  exact ⟨fun _ h => absurd h List.not_mem_nil,
    fun _ h => absurd h List.not_mem_nil,
    fun _ h => absurd h List.not_mem_nil,
    fun _ h => absurd h List.not_mem_nil,
    fun h => absurd rfl h,
    List.forall_mem_cons.mpr ⟨zg_kokS (k := 117) (tx := "0135") S (zg_sR3 hK) (by decide +kernel) (by decide) (zk_dg_ok qdo_4_6 (by decide +kernel)), List.forall_mem_cons.mpr ⟨zg_kokS (k := 119) (tx := "oles") S (zg_sR4 hK) (by decide +kernel) (by decide) (zk_dg_ok qdo_4_6 (by decide +kernel)), List.forall_mem_cons.mpr ⟨zg_kokS (k := 119) (tx := "oles") S (zg_sR4 hK) (by decide +kernel) (by decide) (zk_dg_ok qdo_4_6 (by decide +kernel)), fun _ h => absurd h List.not_mem_nil⟩⟩⟩,
    List.forall_mem_cons.mpr ⟨zg_callV (fun w h => List.mem_cons_of_mem _ h) zg_tb_all S hK zg_Km qm448 zw4_58 zy_yJ0_indexOf_0f7a4_V (ci := 13) (by decide +kernel) hK.2.2.2.2.2.2.2.1 ⟨rfl, rfl⟩ (zk_dg_ok qdo_4_6 (by decide +kernel)), List.forall_mem_cons.mpr ⟨zg_callV (fun w h => List.mem_cons_of_mem _ h) zg_tb_all S hK zg_Km qm450 zw4_60 zy_yJ0_length_8abf5_V (ci := 13) (by decide +kernel) hK.2.2.2.2.2.2.2.1 ⟨rfl, rfl⟩ (zk_dg_ok qdo_4_6 (by decide +kernel)), List.forall_mem_cons.mpr ⟨zg_callV (fun w h => List.mem_cons_of_mem _ h) zg_tb_all S hK zg_Km qm454 zw4_61 zy_yJ0_charAt_5068e_V (ci := 13) (by decide +kernel) hK.2.2.2.2.2.2.2.1 ⟨rfl, rfl⟩ (zk_dg_ok qdo_4_6 (by decide +kernel)), fun _ h => absurd h List.not_mem_nil⟩⟩⟩⟩
set_option maxRecDepth 100000 in
theorem qm455 {l : Launch} {D : zk_D} {base : Nat} {Hb : Heap} : zk_Met l qK D base Hb (zg_K D base Hb) yX2_folded (Jvm.Cond.code yX2_folded prog_4_method_6_code 2 (some .int) :: zg_tb) qR455 qC455 := zk_met (ws' := zg_tb) (P := qP455) (AT := zg_AT) zpn_X2 rfl rfl rfl qk455 (fun s hK => zg_wd hK) (fun p e s m args below meth c s₁ Q B hml hK => qo455 B hml hK) (fun p e s m args below meth c s₁ v G0 H0 B hml hK ha hp hF q hq => absurd hq List.not_mem_nil)
set_option maxRecDepth 100000 in
def qR456 : Room := { frames := 6, cells := 0, slots := 0, locals := 144 }
set_option maxHeartbeats 4000000 in
set_option maxRecDepth 100000 in
theorem qo456 {p : Program} {l : Launch} {e : Env} {s : State} {m : MethodId} {args : Array Value} {below : List Frame} {meth : Method} {c : Code} {s₁ : State} {Q : State → Prop} {D : zk_D} {base : Nat} {Hb : Heap} (B : BodyLoose p l yX2_see (headSpec (Jvm.Cond.code yX2_see prog_4_method_4_code 7 none :: zg_tb) qR456) prog_4_method_4_code 7 none e s m args below meth c s₁) (hml : c.maxLocals = 7) (hK : zg_K D base Hb s) : zk_ok p l e (headSpec (Jvm.Cond.code yX2_see prog_4_method_4_code 7 none :: zg_tb) qR456).room s m args below meth c Q qK D base Hb 7 prog_4_method_4_code qP456 qC456.2.2.2.2 := by
  have S : CallFix p m c prog_4_method_4_code 7 s args (Jvm.Cond.code yX2_see prog_4_method_4_code 7 none :: zg_tb) RX2 := ⟨B.exec, B.bytes, hml, findClass_of_methodNamed B.named, atoms_spec (ws := (Jvm.Cond.code yX2_see prog_4_method_4_code 7 none :: zg_tb)) B.pre⟩
  exact ⟨List.forall_mem_cons.mpr ⟨zg_gp S (hK.2.1 2 _ rfl) (fun w h => (List.mem_cons_of_mem _ (zc2 w h))) rfl zt2_1 (List.mem_cons_of_mem _ zw1_96) rfl, List.forall_mem_cons.mpr ⟨zg_gp S (hK.2.1 2 _ rfl) (fun w h => (List.mem_cons_of_mem _ (zc2 w h))) rfl zt2_2 (List.mem_cons_of_mem _ zw1_98) rfl, List.forall_mem_cons.mpr ⟨zg_gp S (hK.2.1 2 _ rfl) (fun w h => (List.mem_cons_of_mem _ (zc2 w h))) rfl zt2_3 (List.mem_cons_of_mem _ zw1_99) rfl, List.forall_mem_cons.mpr ⟨zg_gp S (hK.2.1 8 _ rfl) (fun w h => (List.mem_cons_of_mem _ (zc8 w h))) rfl zt8_1 (List.mem_cons_of_mem _ zw1_78) rfl, fun _ h => absurd h List.not_mem_nil⟩⟩⟩⟩,
    fun _ h => absurd h List.not_mem_nil,
    fun _ h => absurd h List.not_mem_nil,
    fun _ h => absurd h List.not_mem_nil,
    fun h => absurd rfl h,
    fun _ h => absurd h List.not_mem_nil,
    List.forall_mem_cons.mpr ⟨zg_callV (fun w h => List.mem_cons_of_mem _ h) zg_tb_all S hK zg_Km qm32 zw2_164 zy_yX8_at_V (ci := 8) (by decide +kernel) (hK.2.1 8 _ rfl).2.1 ⟨rfl, rfl⟩ (zk_dg_ok qdo_4_4 (by decide +kernel)), List.forall_mem_cons.mpr ⟨zg_callV (fun w h => List.mem_cons_of_mem _ h) zg_tb_all S hK zg_Km qm438 zw4_46 zy_yX2_take_V (ci := 2) (by decide +kernel) (hK.2.1 2 _ rfl).2.1 ⟨rfl, rfl⟩ (zk_dg_ok qdo_4_4 (by decide +kernel)), List.forall_mem_cons.mpr ⟨zg_callV (fun w h => List.mem_cons_of_mem _ h) zg_tb_all S hK zg_Km qm32 zw2_164 zy_yX8_at_V (ci := 8) (by decide +kernel) (hK.2.1 8 _ rfl).2.1 ⟨rfl, rfl⟩ (zk_dg_ok qdo_4_4 (by decide +kernel)), List.forall_mem_cons.mpr ⟨zg_callS (fun w h => List.mem_cons_of_mem _ h) zg_tb_all S hK zg_Km qm33 zw2_168 zy_yX2_hexOf_S (by decide +kernel) ⟨rfl, rfl⟩ (zk_dg_ok qdo_4_4 (by decide +kernel)), List.forall_mem_cons.mpr ⟨zg_callV (fun w h => List.mem_cons_of_mem _ h) zg_tb_all S hK zg_Km qm32 zw2_164 zy_yX8_at_V (ci := 8) (by decide +kernel) (hK.2.1 8 _ rfl).2.1 ⟨rfl, rfl⟩ (zk_dg_ok qdo_4_4 (by decide +kernel)), List.forall_mem_cons.mpr ⟨zg_callS (fun w h => List.mem_cons_of_mem _ h) zg_tb_all S hK zg_Km qm33 zw2_168 zy_yX2_hexOf_S (by decide +kernel) ⟨rfl, rfl⟩ (zk_dg_ok qdo_4_4 (by decide +kernel)), List.forall_mem_cons.mpr ⟨zg_callS (fun w h => List.mem_cons_of_mem _ h) zg_tb_all S hK zg_Km qm455 zw4_54 zy_yX2_folded_S (by decide +kernel) ⟨rfl, rfl⟩ (zk_dg_ok qdo_4_4 (by decide +kernel)), List.forall_mem_cons.mpr ⟨zg_callV (fun w h => List.mem_cons_of_mem _ h) zg_tb_all S hK zg_Km qm438 zw4_46 zy_yX2_take_V (ci := 2) (by decide +kernel) (hK.2.1 2 _ rfl).2.1 ⟨rfl, rfl⟩ (zk_dg_ok qdo_4_4 (by decide +kernel)), List.forall_mem_cons.mpr ⟨zg_callS (fun w h => List.mem_cons_of_mem _ h) zg_tb_all S hK zg_Km qm455 zw4_54 zy_yX2_folded_S (by decide +kernel) ⟨rfl, rfl⟩ (zk_dg_ok qdo_4_4 (by decide +kernel)), List.forall_mem_cons.mpr ⟨zg_callV (fun w h => List.mem_cons_of_mem _ h) zg_tb_all S hK zg_Km qm438 zw4_46 zy_yX2_take_V (ci := 2) (by decide +kernel) (hK.2.1 2 _ rfl).2.1 ⟨rfl, rfl⟩ (zk_dg_ok qdo_4_4 (by decide +kernel)), List.forall_mem_cons.mpr ⟨zg_callV (fun w h => List.mem_cons_of_mem _ h) zg_tb_all S hK zg_Km qm438 zw4_46 zy_yX2_take_V (ci := 2) (by decide +kernel) (hK.2.1 2 _ rfl).2.1 ⟨rfl, rfl⟩ (zk_dg_ok qdo_4_4 (by decide +kernel)), fun _ h => absurd h List.not_mem_nil⟩⟩⟩⟩⟩⟩⟩⟩⟩⟩⟩⟩
set_option maxRecDepth 100000 in
theorem qm456 {l : Launch} {D : zk_D} {base : Nat} {Hb : Heap} : zk_Met l qK D base Hb (zg_K D base Hb) yX2_see (Jvm.Cond.code yX2_see prog_4_method_4_code 7 none :: zg_tb) qR456 qC456 := zk_met (ws' := zg_tb) (P := qP456) (AT := zg_AT) zpn_X2 rfl rfl rfl qk456 (fun s hK => zg_wd hK) (fun p e s m args below meth c s₁ Q B hml hK => qo456 B hml hK) (fun p e s m args below meth c s₁ v G0 H0 B hml hK ha hp hF q hq => absurd hq List.not_mem_nil)
set_option maxRecDepth 100000 in
def qR458 : Room := { frames := 1, cells := 0, slots := 0, locals := 20 }
set_option maxHeartbeats 4000000 in
set_option maxRecDepth 100000 in
theorem qo458 {p : Program} {l : Launch} {e : Env} {s : State} {m : MethodId} {args : Array Value} {below : List Frame} {meth : Method} {c : Code} {s₁ : State} {Q : State → Prop} {D : zk_D} {base : Nat} {Hb : Heap} (B : BodyLoose p l yX10_lookAnew (headSpec (Jvm.Cond.code yX10_lookAnew prog_12_method_3_code 1 none :: zg_tb) qR458) prog_12_method_3_code 1 none e s m args below meth c s₁) (hml : c.maxLocals = 1) (hK : zg_K D base Hb s) : zk_ok p l e (headSpec (Jvm.Cond.code yX10_lookAnew prog_12_method_3_code 1 none :: zg_tb) qR458).room s m args below meth c Q qK D base Hb 1 prog_12_method_3_code qP458 qC458.2.2.2.2 := by
  have S : CallFix p m c prog_12_method_3_code 1 s args (Jvm.Cond.code yX10_lookAnew prog_12_method_3_code 1 none :: zg_tb) RX10 := ⟨B.exec, B.bytes, hml, findClass_of_methodNamed B.named, atoms_spec (ws := (Jvm.Cond.code yX10_lookAnew prog_12_method_3_code 1 none :: zg_tb)) B.pre⟩
  exact ⟨List.forall_mem_cons.mpr ⟨zg_gp S (hK.2.1 10 _ rfl) (fun w h => (List.mem_cons_of_mem _ (zc10 w h))) rfl zt10_5 (List.mem_cons_of_mem _ zw1_226) rfl, fun _ h => absurd h List.not_mem_nil⟩,
    fun _ h => absurd h List.not_mem_nil,
    fun _ h => absurd h List.not_mem_nil,
    fun _ h => absurd h List.not_mem_nil,
    fun h => absurd rfl h,
    fun _ h => absurd h List.not_mem_nil,
    fun _ h => absurd h List.not_mem_nil⟩
set_option maxRecDepth 100000 in
theorem qm458 {l : Launch} {D : zk_D} {base : Nat} {Hb : Heap} : zk_Met l qK D base Hb (zg_K D base Hb) yX10_lookAnew (Jvm.Cond.code yX10_lookAnew prog_12_method_3_code 1 none :: zg_tb) qR458 qC458 := zk_met (ws' := zg_tb) (P := qP458) (AT := zg_AT) zpn_X10 rfl rfl rfl qk458 (fun s hK => zg_wd hK) (fun p e s m args below meth c s₁ Q B hml hK => qo458 B hml hK) (fun p e s m args below meth c s₁ v G0 H0 B hml hK ha hp hF q hq => absurd hq List.not_mem_nil)
set_option maxRecDepth 100000 in
def qR460 : Room := { frames := 1, cells := 0, slots := 0, locals := 20 }
set_option maxHeartbeats 4000000 in
set_option maxRecDepth 100000 in
theorem qo460 {p : Program} {l : Launch} {e : Env} {s : State} {m : MethodId} {args : Array Value} {below : List Frame} {meth : Method} {c : Code} {s₁ : State} {Q : State → Prop} {D : zk_D} {base : Nat} {Hb : Heap} (B : BodyLoose p l yX9_init (headSpec (Jvm.Cond.code yX9_init prog_11_method_1_code 4 none :: zg_tb) qR460) prog_11_method_1_code 4 none e s m args below meth c s₁) (hml : c.maxLocals = 4) (hK : zg_K D base Hb s) : zk_ok p l e (headSpec (Jvm.Cond.code yX9_init prog_11_method_1_code 4 none :: zg_tb) qR460).room s m args below meth c Q qK D base Hb 4 prog_11_method_1_code qP460 qC460.2.2.2.2 := by
  have S : CallFix p m c prog_11_method_1_code 4 s args (Jvm.Cond.code yX9_init prog_11_method_1_code 4 none :: zg_tb) RX9 := ⟨B.exec, B.bytes, hml, findClass_of_methodNamed B.named, atoms_spec (ws := (Jvm.Cond.code yX9_init prog_11_method_1_code 4 none :: zg_tb)) B.pre⟩
  have hin2 : meth.name = "<init>" := (name_of_methodNamed B.named B.method).1
  exact ⟨List.forall_mem_cons.mpr ⟨zg_gpF S (hK.2.1 9 _ rfl) (fun w h => (List.mem_cons_of_mem _ (zc9 w h))) rfl hin2 zt9_0 (List.mem_cons_of_mem _ zw4_111) rfl, List.forall_mem_cons.mpr ⟨zg_gpF S (hK.2.1 9 _ rfl) (fun w h => (List.mem_cons_of_mem _ (zc9 w h))) rfl hin2 zt9_1 (List.mem_cons_of_mem _ zw4_115) rfl, fun _ h => absurd h List.not_mem_nil⟩⟩,
    fun _ h => absurd h List.not_mem_nil,
    fun _ h => absurd h List.not_mem_nil,
    fun _ h => absurd h List.not_mem_nil,
    fun h => absurd rfl h,
    fun _ h => absurd h List.not_mem_nil,
    List.forall_mem_cons.mpr ⟨zg_callO S (List.mem_cons_of_mem _ zw4_110) (List.mem_cons_of_mem _ zw1_29) (List.mem_cons_of_mem _ zw1_30) ⟨rfl, rfl⟩ (zk_dg_ok qdo_11_1 (by decide +kernel)), fun _ h => absurd h List.not_mem_nil⟩⟩
set_option maxRecDepth 100000 in
theorem qm460 {l : Launch} {D : zk_D} {base : Nat} {Hb : Heap} : zk_Met l qK D base Hb (zg_K D base Hb) yX9_init (Jvm.Cond.code yX9_init prog_11_method_1_code 4 none :: zg_tb) qR460 qC460 := zk_met (ws' := zg_tb) (P := qP460) (AT := zg_AT) zpn_X9 rfl rfl rfl qk460 (fun s hK => zg_wd hK) (fun p e s m args below meth c s₁ Q B hml hK => qo460 B hml hK) (fun p e s m args below meth c s₁ v G0 H0 B hml hK ha hp hF q hq => absurd hq List.not_mem_nil)
set_option maxRecDepth 100000 in
def qR461 : Room := { frames := 2, cells := 1, slots := 6, locals := 45 }
set_option maxHeartbeats 4000000 in
set_option maxRecDepth 100000 in
theorem qo461 {p : Program} {l : Launch} {e : Env} {s : State} {m : MethodId} {args : Array Value} {below : List Frame} {meth : Method} {c : Code} {s₁ : State} {Q : State → Prop} {D : zk_D} {base : Nat} {Hb : Heap} (B : BodyLoose p l yX10_find (headSpec (Jvm.Cond.code yX10_find prog_12_method_2_code 5 (some (.object "UnaskedLetters$Word")) :: zg_tb) qR461) prog_12_method_2_code 5 (some (.object "UnaskedLetters$Word")) e s m args below meth c s₁) (hml : c.maxLocals = 5) (hK : zg_K D base Hb s) : zk_ok p l e (headSpec (Jvm.Cond.code yX10_find prog_12_method_2_code 5 (some (.object "UnaskedLetters$Word")) :: zg_tb) qR461).room s m args below meth c Q qK D base Hb 5 prog_12_method_2_code qP461 qC461.2.2.2.2 := by
  have S : CallFix p m c prog_12_method_2_code 5 s args (Jvm.Cond.code yX10_find prog_12_method_2_code 5 (some (.object "UnaskedLetters$Word")) :: zg_tb) RX10 := ⟨B.exec, B.bytes, hml, findClass_of_methodNamed B.named, atoms_spec (ws := (Jvm.Cond.code yX10_find prog_12_method_2_code 5 (some (.object "UnaskedLetters$Word")) :: zg_tb)) B.pre⟩
  exact ⟨List.forall_mem_cons.mpr ⟨zg_gp4 S (hK.2.1 10 _ rfl) (fun w h => (List.mem_cons_of_mem _ (zc10 w h))) rfl zt10_0 (List.mem_cons_of_mem _ zw1_219), List.forall_mem_cons.mpr ⟨zg_gp4 S (hK.2.1 9 _ rfl) (fun w h => (List.mem_cons_of_mem _ (zc9 w h))) rfl zt9_0 (List.mem_cons_of_mem _ zw4_112), List.forall_mem_cons.mpr ⟨zg_gp4 S (hK.2.1 9 _ rfl) (fun w h => (List.mem_cons_of_mem _ (zc9 w h))) rfl zt9_1 (List.mem_cons_of_mem _ zw4_116), fun _ h => absurd h List.not_mem_nil⟩⟩⟩,
    List.forall_mem_cons.mpr ⟨zg_sokR (ci := 9) S (hK.2.2.2.1 (11, _) (List.mem_of_getElem? (i := 6) rfl)) (hK.2.2.2.2.2.1 _ (List.mem_of_getElem? (i := 0) rfl)) (hK.2.1 9 _ rfl).2.1 (by decide +kernel) (by decide +kernel), fun _ h => absurd h List.not_mem_nil⟩,
    List.forall_mem_cons.mpr ⟨zg_nokE (by decide +kernel) (zg_nok tyX9 S (hK.2.1 9 _ rfl) (fun w h => (List.mem_cons_of_mem _ (zc9 w h))) tyX9_ok (List.mem_cons_of_mem _ zw1_217) (List.mem_cons_of_mem _ zw4_106) (List.mem_cons_of_mem _ zw1_13) rfl (by decide +kernel)), fun _ h => absurd h List.not_mem_nil⟩,
    fun _ h => absurd h List.not_mem_nil,
    fun h => absurd rfl h,
    List.forall_mem_cons.mpr ⟨zg_kokL S (List.mem_cons_of_mem _ zw4_102) (by decide +kernel) (zk_dg_ok qdo_12_2 (by decide +kernel)), fun _ h => absurd h List.not_mem_nil⟩,
    List.forall_mem_cons.mpr ⟨zg_callS (fun w h => List.mem_cons_of_mem _ h) zg_tb_all S hK zg_Km qm459 zw4_103 zy_yJ9_floorMod_f86c9_S (by decide +kernel) ⟨rfl, rfl⟩ (zk_dg_ok qdo_12_2 (by decide +kernel)), List.forall_mem_cons.mpr ⟨zg_callI (fun w h => List.mem_cons_of_mem _ h) zg_tb_all S hK zg_Km qm460 zw4_107 zy_yX9_init_I rfl (ci := 9) (by decide +kernel) ⟨rfl, rfl⟩ (zk_dg_ok qdo_12_2 (by decide +kernel)), fun _ h => absurd h List.not_mem_nil⟩⟩⟩
set_option maxRecDepth 100000 in
theorem qm461 {l : Launch} {D : zk_D} {base : Nat} {Hb : Heap} : zk_Met l qK D base Hb (zg_K D base Hb) yX10_find (Jvm.Cond.code yX10_find prog_12_method_2_code 5 (some (.object "UnaskedLetters$Word")) :: zg_tb) qR461 qC461 := zk_met (ws' := zg_tb) (P := qP461) (AT := zg_AT) zpn_X10 rfl rfl rfl qk461 (fun s hK => zg_wd hK) (fun p e s m args below meth c s₁ Q B hml hK => qo461 B hml hK) (fun p e s m args below meth c s₁ v G0 H0 B hml hK ha hp hF q hq => absurd hq List.not_mem_nil)
set_option maxRecDepth 100000 in
def qR462 : Room := { frames := 1, cells := 0, slots := 0, locals := 20 }
set_option maxHeartbeats 4000000 in
set_option maxRecDepth 100000 in
theorem qo462 {p : Program} {l : Launch} {e : Env} {s : State} {m : MethodId} {args : Array Value} {below : List Frame} {meth : Method} {c : Code} {s₁ : State} {Q : State → Prop} {D : zk_D} {base : Nat} {Hb : Heap} (B : BodyLoose p l yX10_isNew (headSpec (Jvm.Cond.code yX10_isNew prog_12_method_4_code 2 (some .boolean) :: zg_tb) qR462) prog_12_method_4_code 2 (some .boolean) e s m args below meth c s₁) (hml : c.maxLocals = 2) (hK : zg_K D base Hb s) : zk_ok p l e (headSpec (Jvm.Cond.code yX10_isNew prog_12_method_4_code 2 (some .boolean) :: zg_tb) qR462).room s m args below meth c Q qK D base Hb 2 prog_12_method_4_code qP462 qC462.2.2.2.2 := by
  have S : CallFix p m c prog_12_method_4_code 2 s args (Jvm.Cond.code yX10_isNew prog_12_method_4_code 2 (some .boolean) :: zg_tb) RX10 := ⟨B.exec, B.bytes, hml, findClass_of_methodNamed B.named, atoms_spec (ws := (Jvm.Cond.code yX10_isNew prog_12_method_4_code 2 (some .boolean) :: zg_tb)) B.pre⟩
  exact ⟨List.forall_mem_cons.mpr ⟨zg_gp S (hK.2.1 9 _ rfl) (fun w h => (List.mem_cons_of_mem _ (zc9 w h))) rfl zt9_3 (List.mem_cons_of_mem _ zw4_118) rfl, List.forall_mem_cons.mpr ⟨zg_gp S (hK.2.1 10 _ rfl) (fun w h => (List.mem_cons_of_mem _ (zc10 w h))) rfl zt10_5 (List.mem_cons_of_mem _ zw1_226) rfl, fun _ h => absurd h List.not_mem_nil⟩⟩,
    fun _ h => absurd h List.not_mem_nil,
    fun _ h => absurd h List.not_mem_nil,
    fun _ h => absurd h List.not_mem_nil,
    fun h => absurd rfl h,
    fun _ h => absurd h List.not_mem_nil,
    fun _ h => absurd h List.not_mem_nil⟩
set_option maxRecDepth 100000 in
theorem qm462 {l : Launch} {D : zk_D} {base : Nat} {Hb : Heap} : zk_Met l qK D base Hb (zg_K D base Hb) yX10_isNew (Jvm.Cond.code yX10_isNew prog_12_method_4_code 2 (some .boolean) :: zg_tb) qR462 qC462 := zk_met (ws' := zg_tb) (P := qP462) (AT := zg_AT) zpn_X10 rfl rfl rfl qk462 (fun s hK => zg_wd hK) (fun p e s m args below meth c s₁ Q B hml hK => qo462 B hml hK) (fun p e s m args below meth c s₁ v G0 H0 B hml hK ha hp hF q hq => absurd hq List.not_mem_nil)
set_option maxRecDepth 100000 in
def qR463 : Room := { frames := 3, cells := 164, slots := 1446, locals := 69 }
set_option maxHeartbeats 4000000 in
set_option maxRecDepth 100000 in
theorem qo463 {p : Program} {l : Launch} {e : Env} {s : State} {m : MethodId} {args : Array Value} {below : List Frame} {meth : Method} {c : Code} {s₁ : State} {Q : State → Prop} {D : zk_D} {base : Nat} {Hb : Heap} (B : BodyLoose p l yX11_takeWords (headSpec (Jvm.Cond.code yX11_takeWords prog_1_method_46_code 5 none :: zg_tb) qR463) prog_1_method_46_code 5 none e s m args below meth c s₁) (hml : c.maxLocals = 5) (hK : zg_K D base Hb s) : zk_ok p l e (headSpec (Jvm.Cond.code yX11_takeWords prog_1_method_46_code 5 none :: zg_tb) qR463).room s m args below meth c Q qK D base Hb 5 prog_1_method_46_code qP463 qC463.2.2.2.2 := by
  have S : CallFix p m c prog_1_method_46_code 5 s args (Jvm.Cond.code yX11_takeWords prog_1_method_46_code 5 none :: zg_tb) RX11 := ⟨B.exec, B.bytes, hml, findClass_of_methodNamed B.named, atoms_spec (ws := (Jvm.Cond.code yX11_takeWords prog_1_method_46_code 5 none :: zg_tb)) B.pre⟩
  exact ⟨List.forall_mem_cons.mpr ⟨zg_gp4 S (hK.2.1 11 _ rfl) (fun w h => (List.mem_cons_of_mem _ (zc11 w h))) rfl zt11_2 (List.mem_cons_of_mem _ zw2_55), List.forall_mem_cons.mpr ⟨zg_gp S (hK.2.1 2 _ rfl) (fun w h => (List.mem_cons_of_mem _ (zc2 w h))) rfl zt2_1 (List.mem_cons_of_mem _ zw1_97) rfl, List.forall_mem_cons.mpr ⟨zg_gp S (hK.2.1 1 _ rfl) (fun w h => (List.mem_cons_of_mem _ (zc1 w h))) rfl zt1_10 (List.mem_cons_of_mem _ zw3_233) rfl, List.forall_mem_cons.mpr ⟨zg_gp S (hK.2.1 1 _ rfl) (fun w h => (List.mem_cons_of_mem _ (zc1 w h))) rfl zt1_11 (List.mem_cons_of_mem _ zw3_236) rfl, List.forall_mem_cons.mpr ⟨zg_gp S (hK.2.1 1 _ rfl) (fun w h => (List.mem_cons_of_mem _ (zc1 w h))) rfl zt1_12 (List.mem_cons_of_mem _ zw3_237) rfl, List.forall_mem_cons.mpr ⟨zg_gp4 S (hK.2.1 11 _ rfl) (fun w h => (List.mem_cons_of_mem _ (zc11 w h))) rfl zt11_6 (List.mem_cons_of_mem _ zw2_59), List.forall_mem_cons.mpr ⟨zg_gp4 S (hK.2.1 2 _ rfl) (fun w h => (List.mem_cons_of_mem _ (zc2 w h))) rfl zt2_0 (List.mem_cons_of_mem _ zw1_95), List.forall_mem_cons.mpr ⟨zg_gp S (hK.2.1 1 _ rfl) (fun w h => (List.mem_cons_of_mem _ (zc1 w h))) rfl zt1_13 (List.mem_cons_of_mem _ zw4_0) rfl, fun _ h => absurd h List.not_mem_nil⟩⟩⟩⟩⟩⟩⟩⟩,
    List.forall_mem_cons.mpr ⟨zg_sokR (ci := 9) S (hK.2.2.2.1 (11, _) (List.mem_of_getElem? (i := 6) rfl)) (hK.2.2.2.2.2.1 _ (List.mem_of_getElem? (i := 0) rfl)) (hK.2.1 9 _ rfl).2.1 (by decide +kernel) (by decide +kernel), fun _ h => absurd h List.not_mem_nil⟩,
    fun _ h => absurd h List.not_mem_nil,
    List.forall_mem_cons.mpr ⟨zg_nakE (tag := 11) (by decide +kernel) (zg_nakR S (hK.2.2.2.1 (11, _) (List.mem_of_getElem? (i := 6) rfl)) (List.mem_cons_of_mem _ zw4_93) (hK.2.2.2.2.2.1 _ (List.mem_of_getElem? (i := 0) rfl)) (zk_dg_ok qdo_1_46 (by decide +kernel)) rfl), List.forall_mem_cons.mpr ⟨zg_nakE (tag := 11) (by decide +kernel) (zg_nakR S (hK.2.2.2.1 (11, _) (List.mem_of_getElem? (i := 6) rfl)) (List.mem_cons_of_mem _ zw4_93) (hK.2.2.2.2.2.1 _ (List.mem_of_getElem? (i := 0) rfl)) (zk_dg_ok qdo_1_46 (by decide +kernel)) rfl), List.forall_mem_cons.mpr ⟨zg_nakE (tag := 0) (by decide +kernel) (zg_nak (atype := .int) S (hK.2.2.2.1 (0, _) (List.mem_of_getElem? (i := 0) rfl)) (List.mem_cons_of_mem _ zw1_70) (zk_dg_ok qdo_1_46 (by decide +kernel)) rfl rfl), fun _ h => absurd h List.not_mem_nil⟩⟩⟩,
    fun _ => Nat.le_of_ble_eq_true rfl,
    fun _ h => absurd h List.not_mem_nil,
    List.forall_mem_cons.mpr ⟨zg_callV (fun w h => List.mem_cons_of_mem _ h) zg_tb_all S hK zg_Km qm458 zw4_94 zy_yX10_lookAnew_V (ci := 10) (by decide +kernel) (hK.2.1 10 _ rfl).2.1 ⟨rfl, rfl⟩ (zk_dg_ok qdo_1_46 (by decide +kernel)), List.forall_mem_cons.mpr ⟨zg_callV (fun w h => List.mem_cons_of_mem _ h) zg_tb_all S hK zg_Km qm461 zw4_98 zy_yX10_find_V (ci := 10) (by decide +kernel) (hK.2.1 10 _ rfl).2.1 ⟨rfl, rfl⟩ (zk_dg_ok qdo_1_46 (by decide +kernel)), List.forall_mem_cons.mpr ⟨zg_callV (fun w h => List.mem_cons_of_mem _ h) zg_tb_all S hK zg_Km qm462 zw4_134 zy_yX10_isNew_V (ci := 10) (by decide +kernel) (hK.2.1 10 _ rfl).2.1 ⟨rfl, rfl⟩ (zk_dg_ok qdo_1_46 (by decide +kernel)), fun _ h => absurd h List.not_mem_nil⟩⟩⟩⟩
set_option maxRecDepth 100000 in
theorem qm463 {l : Launch} {D : zk_D} {base : Nat} {Hb : Heap} : zk_Met l qK D base Hb (zg_K D base Hb) yX11_takeWords (Jvm.Cond.code yX11_takeWords prog_1_method_46_code 5 none :: zg_tb) qR463 qC463 :=
  zk_met (ws' := zg_tb) (P := qP463) (AT := zg_AT) (by decide +kernel) rfl rfl rfl qk463 (fun s hK => zg_wd hK) (fun p e s m args below meth c s₁ Q B hml hK => qo463 B hml hK) (fun p e s m args below meth c s₁ v G0 H0 B hml hK ha hp0 hF0 q hq G H locs ls vs v' hp he hl hF hL => by
    have hq := List.mem_singleton.mp hq
    subst hq
    exact zk_turns (P := qP463) (C := qC463) (pc := 40) (T := 1) (U := 6) (c0 := 3) (s0 := 480) (n := 160) (st := qX463.2.1) (mz := (160, none, some 22)) B.exec B.bytes (zg_wd hK) (qo463 B hml hK) rfl rfl B.returns B.notSynchronized (fun t h => h) qt463 (by decide +kernel) (by decide +kernel) (by decide +kernel) (by decide +kernel) (by decide +kernel) 160 G H locs ls vs v' (zk_mb_ok hF (by decide +kernel)) (Nat.le_refl _) hp he hl hF hL)
set_option maxRecDepth 100000 in
def qR464 : Room := { frames := 7, cells := 168, slots := 1635, locals := 170 }
set_option maxHeartbeats 4000000 in
set_option maxRecDepth 100000 in
theorem qo464 {p : Program} {l : Launch} {e : Env} {s : State} {m : MethodId} {args : Array Value} {below : List Frame} {meth : Method} {c : Code} {s₁ : State} {Q : State → Prop} {D : zk_D} {base : Nat} {Hb : Heap} (B : BodyLoose p l yX11_write (headSpec (Jvm.Cond.code yX11_write prog_1_method_15_code 6 (some .int) :: zg_tb) qR464) prog_1_method_15_code 6 (some .int) e s m args below meth c s₁) (hml : c.maxLocals = 6) (hK : zg_K D base Hb s) : zk_ok p l e (headSpec (Jvm.Cond.code yX11_write prog_1_method_15_code 6 (some .int) :: zg_tb) qR464).room s m args below meth c Q qK D base Hb 6 prog_1_method_15_code qP464 qC464.2.2.2.2 := by
  have S : CallFix p m c prog_1_method_15_code 6 s args (Jvm.Cond.code yX11_write prog_1_method_15_code 6 (some .int) :: zg_tb) RX11 := ⟨B.exec, B.bytes, hml, findClass_of_methodNamed B.named, atoms_spec (ws := (Jvm.Cond.code yX11_write prog_1_method_15_code 6 (some .int) :: zg_tb)) B.pre⟩
  exact ⟨List.forall_mem_cons.mpr ⟨zg_gp4 S (hK.2.1 11 _ rfl) (fun w h => (List.mem_cons_of_mem _ (zc11 w h))) rfl zt11_0 (List.mem_cons_of_mem _ zw2_53), List.forall_mem_cons.mpr ⟨zg_gp S (hK.2.1 11 _ rfl) (fun w h => (List.mem_cons_of_mem _ (zc11 w h))) rfl zt11_15 (List.mem_cons_of_mem _ zw2_68) rfl, List.forall_mem_cons.mpr ⟨zg_gp4 S (hK.2.1 11 _ rfl) (fun w h => (List.mem_cons_of_mem _ (zc11 w h))) rfl zt11_2 (List.mem_cons_of_mem _ zw2_55), List.forall_mem_cons.mpr ⟨zg_gp4 S (hK.2.1 11 _ rfl) (fun w h => (List.mem_cons_of_mem _ (zc11 w h))) rfl zt11_1 (List.mem_cons_of_mem _ zw2_54), List.forall_mem_cons.mpr ⟨zg_gp S (hK.2.1 11 _ rfl) (fun w h => (List.mem_cons_of_mem _ (zc11 w h))) rfl zt11_13 (List.mem_cons_of_mem _ zw2_66) rfl, List.forall_mem_cons.mpr ⟨zg_gp4 S (hK.2.1 2 _ rfl) (fun w h => (List.mem_cons_of_mem _ (zc2 w h))) rfl zt2_0 (List.mem_cons_of_mem _ zw1_95), List.forall_mem_cons.mpr ⟨zg_gp S (hK.2.1 2 _ rfl) (fun w h => (List.mem_cons_of_mem _ (zc2 w h))) rfl zt2_1 (List.mem_cons_of_mem _ zw1_97) rfl, List.forall_mem_cons.mpr ⟨zg_gp S (hK.2.1 1 _ rfl) (fun w h => (List.mem_cons_of_mem _ (zc1 w h))) rfl zt1_9 (List.mem_cons_of_mem _ zw3_231) rfl, List.forall_mem_cons.mpr ⟨zg_gp S (hK.2.1 8 _ rfl) (fun w h => (List.mem_cons_of_mem _ (zc8 w h))) rfl zt8_1 (List.mem_cons_of_mem _ zw1_81) rfl, List.forall_mem_cons.mpr ⟨zg_gp4 S (hK.2.1 11 _ rfl) (fun w h => (List.mem_cons_of_mem _ (zc11 w h))) rfl zt11_7 (List.mem_cons_of_mem _ zw2_60), fun _ h => absurd h List.not_mem_nil⟩⟩⟩⟩⟩⟩⟩⟩⟩⟩,
    List.forall_mem_cons.mpr ⟨zg_sokR (ci := 1) S (hK.2.2.2.1 (12, _) (List.mem_of_getElem? (i := 7) rfl)) (hK.2.2.2.2.2.1 _ (List.mem_of_getElem? (i := 1) rfl)) (hK.2.1 1 _ rfl).2.1 (by decide +kernel) (by decide +kernel), fun _ h => absurd h List.not_mem_nil⟩,
    List.forall_mem_cons.mpr ⟨zg_nokE (by decide +kernel) (zg_nok tyX1 S (hK.2.1 1 _ rfl) (fun w h => (List.mem_cons_of_mem _ (zc1 w h))) tyX1_ok (List.mem_cons_of_mem _ zw2_0) (List.mem_cons_of_mem _ zw3_208) (List.mem_cons_of_mem _ zw1_21) rfl (by decide +kernel)), fun _ h => absurd h List.not_mem_nil⟩,
    fun _ h => absurd h List.not_mem_nil,
    fun h => absurd rfl h,
    fun _ h => absurd h List.not_mem_nil,
    List.forall_mem_cons.mpr ⟨zg_callV (fun w h => List.mem_cons_of_mem _ h) zg_tb_all S hK zg_Km qm435 zw3_204 zy_yX4_hasName_V (ci := 4) (by decide +kernel) (hK.2.1 4 _ rfl).2.1 ⟨rfl, rfl⟩ (zk_dg_ok qdo_1_15 (by decide +kernel)), List.forall_mem_cons.mpr ⟨zg_callV (fun w h => List.mem_cons_of_mem _ h) zg_tb_all S hK zg_Km qm435 zw3_204 zy_yX4_hasName_V (ci := 4) (by decide +kernel) (hK.2.1 4 _ rfl).2.1 ⟨rfl, rfl⟩ (zk_dg_ok qdo_1_15 (by decide +kernel)), List.forall_mem_cons.mpr ⟨zg_callV (fun w h => List.mem_cons_of_mem _ h) zg_tb_all S hK zg_Km qm35 zw2_160 zy_yX2_faultOf_V (ci := 2) (by decide +kernel) (hK.2.1 2 _ rfl).2.1 ⟨rfl, rfl⟩ (zk_dg_ok qdo_1_15 (by decide +kernel)), List.forall_mem_cons.mpr ⟨zg_callI (fun w h => List.mem_cons_of_mem _ h) zg_tb_all S hK zg_Km qm436 zw3_209 zy_yX1_init_I rfl (ci := 1) (by decide +kernel) ⟨rfl, rfl⟩ (zk_dg_ok qdo_1_15 (by decide +kernel)), List.forall_mem_cons.mpr ⟨zg_callV (fun w h => List.mem_cons_of_mem _ h) zg_tb_all S hK zg_Km qm456 zw4_42 zy_yX2_see_V (ci := 2) (by decide +kernel) (hK.2.1 2 _ rfl).2.1 ⟨rfl, rfl⟩ (zk_dg_ok qdo_1_15 (by decide +kernel)), List.forall_mem_cons.mpr ⟨zg_callS (fun w h => List.mem_cons_of_mem _ h) zg_tb_all S hK zg_Km qm457 zw4_81 zy_yJ7_copyOf_c38d5_S (by decide +kernel) ⟨rfl, rfl⟩ (zk_dg_ok qdo_1_15 (by decide +kernel)), List.forall_mem_cons.mpr ⟨zg_callV (fun w h => List.mem_cons_of_mem _ h) zg_tb_all S hK zg_Km qm456 zw4_42 zy_yX2_see_V (ci := 2) (by decide +kernel) (hK.2.1 2 _ rfl).2.1 ⟨rfl, rfl⟩ (zk_dg_ok qdo_1_15 (by decide +kernel)), List.forall_mem_cons.mpr ⟨zg_callV (fun w h => List.mem_cons_of_mem _ h) zg_tb_all S hK zg_Km qm463 zw4_89 zy_yX11_takeWords_V (ci := 11) (by decide +kernel) (hK.2.1 11 _ rfl).2.1 ⟨rfl, rfl⟩ (zk_dg_ok qdo_1_15 (by decide +kernel)), fun _ h => absurd h List.not_mem_nil⟩⟩⟩⟩⟩⟩⟩⟩⟩
set_option maxRecDepth 100000 in
theorem qm464 {l : Launch} {D : zk_D} {base : Nat} {Hb : Heap} : zk_Met l qK D base Hb (zg_K D base Hb) yX11_write (Jvm.Cond.code yX11_write prog_1_method_15_code 6 (some .int) :: zg_tb) qR464 qC464 := zk_met (ws' := zg_tb) (P := qP464) (AT := zg_AT) zpn_X11 rfl rfl rfl qk464 (fun s hK => zg_wd hK) (fun p e s m args below meth c s₁ Q B hml hK => qo464 B hml hK) (fun p e s m args below meth c s₁ v G0 H0 B hml hK ha hp hF q hq => absurd hq List.not_mem_nil)
set_option maxRecDepth 100000 in
def qR465 : Room := { frames := 1, cells := 0, slots := 0, locals := 20 }
set_option maxHeartbeats 4000000 in
set_option maxRecDepth 100000 in
theorem qo465 {p : Program} {l : Launch} {e : Env} {s : State} {m : MethodId} {args : Array Value} {below : List Frame} {meth : Method} {c : Code} {s₁ : State} {Q : State → Prop} {D : zk_D} {base : Nat} {Hb : Heap} (B : BodyLoose p l yX12_in (headSpec (Jvm.Cond.code yX12_in prog_14_method_1_code 3 (some .boolean) :: zg_tb) qR465) prog_14_method_1_code 3 (some .boolean) e s m args below meth c s₁) (hml : c.maxLocals = 3) (hK : zg_K D base Hb s) : zk_ok p l e (headSpec (Jvm.Cond.code yX12_in prog_14_method_1_code 3 (some .boolean) :: zg_tb) qR465).room s m args below meth c Q qK D base Hb 3 prog_14_method_1_code qP465 qC465.2.2.2.2 := by
  have S : CallFix p m c prog_14_method_1_code 3 s args (Jvm.Cond.code yX12_in prog_14_method_1_code 3 (some .boolean) :: zg_tb) RX12 := ⟨B.exec, B.bytes, hml, findClass_of_methodNamed B.named, atoms_spec (ws := (Jvm.Cond.code yX12_in prog_14_method_1_code 3 (some .boolean) :: zg_tb)) B.pre⟩
  exact ⟨fun _ h => absurd h List.not_mem_nil,
    fun _ h => absurd h List.not_mem_nil,
    fun _ h => absurd h List.not_mem_nil,
    fun _ h => absurd h List.not_mem_nil,
    fun h => absurd rfl h,
    fun _ h => absurd h List.not_mem_nil,
    fun _ h => absurd h List.not_mem_nil⟩
set_option maxRecDepth 100000 in
theorem qm465 {l : Launch} {D : zk_D} {base : Nat} {Hb : Heap} : zk_Met l qK D base Hb (zg_K D base Hb) yX12_in (Jvm.Cond.code yX12_in prog_14_method_1_code 3 (some .boolean) :: zg_tb) qR465 qC465 := zk_met (ws' := zg_tb) (P := qP465) (AT := zg_AT) zpn_X12 rfl rfl rfl qk465 (fun s hK => zg_wd hK) (fun p e s m args below meth c s₁ Q B hml hK => qo465 B hml hK) (fun p e s m args below meth c s₁ v G0 H0 B hml hK ha hp hF q hq => absurd hq List.not_mem_nil)
set_option maxRecDepth 100000 in
def qR466 : Room := { frames := 2, cells := 0, slots := 0, locals := 42 }
set_option maxHeartbeats 4000000 in
set_option maxRecDepth 100000 in
theorem qo466 {p : Program} {l : Launch} {e : Env} {s : State} {m : MethodId} {args : Array Value} {below : List Frame} {meth : Method} {c : Code} {s₁ : State} {Q : State → Prop} {D : zk_D} {base : Nat} {Hb : Heap} (B : BodyLoose p l yX12_isName (headSpec (Jvm.Cond.code yX12_isName prog_14_method_5_code 2 (some .boolean) :: zg_tb) qR466) prog_14_method_5_code 2 (some .boolean) e s m args below meth c s₁) (hml : c.maxLocals = 2) (hK : zg_K D base Hb s) : zk_ok p l e (headSpec (Jvm.Cond.code yX12_isName prog_14_method_5_code 2 (some .boolean) :: zg_tb) qR466).room s m args below meth c Q qK D base Hb 2 prog_14_method_5_code qP466 qC466.2.2.2.2 := by
  have S : CallFix p m c prog_14_method_5_code 2 s args (Jvm.Cond.code yX12_isName prog_14_method_5_code 2 (some .boolean) :: zg_tb) RX12 := ⟨B.exec, B.bytes, hml, findClass_of_methodNamed B.named, atoms_spec (ws := (Jvm.Cond.code yX12_isName prog_14_method_5_code 2 (some .boolean) :: zg_tb)) B.pre⟩
  exact ⟨List.forall_mem_cons.mpr ⟨zg_gp S (hK.2.1 12 _ rfl) (fun w h => (List.mem_cons_of_mem _ (zc12 w h))) rfl zt12_7 (List.mem_cons_of_mem _ zw5_166) rfl, fun _ h => absurd h List.not_mem_nil⟩,
    fun _ h => absurd h List.not_mem_nil,
    fun _ h => absurd h List.not_mem_nil,
    fun _ h => absurd h List.not_mem_nil,
    fun h => absurd rfl h,
    fun _ h => absurd h List.not_mem_nil,
    List.forall_mem_cons.mpr ⟨zg_callS (fun w h => List.mem_cons_of_mem _ h) zg_tb_all S hK zg_Km qm465 zw6_145 zy_yX12_in_S (by decide +kernel) ⟨rfl, rfl⟩ (zk_dg_ok qdo_14_5 (by decide +kernel)), fun _ h => absurd h List.not_mem_nil⟩⟩
set_option maxRecDepth 100000 in
theorem qm466 {l : Launch} {D : zk_D} {base : Nat} {Hb : Heap} : zk_Met l qK D base Hb (zg_K D base Hb) yX12_isName (Jvm.Cond.code yX12_isName prog_14_method_5_code 2 (some .boolean) :: zg_tb) qR466 qC466 := zk_met (ws' := zg_tb) (P := qP466) (AT := zg_AT) zpn_X12 rfl rfl rfl qk466 (fun s hK => zg_wd hK) (fun p e s m args below meth c s₁ Q B hml hK => qo466 B hml hK) (fun p e s m args below meth c s₁ v G0 H0 B hml hK ha hp hF q hq => absurd hq List.not_mem_nil)
set_option maxRecDepth 100000 in
def qR467 : Room := { frames := 1, cells := 0, slots := 0, locals := 20 }
set_option maxHeartbeats 4000000 in
set_option maxRecDepth 100000 in
theorem qo467 {p : Program} {l : Launch} {e : Env} {s : State} {m : MethodId} {args : Array Value} {below : List Frame} {meth : Method} {c : Code} {s₁ : State} {Q : State → Prop} {D : zk_D} {base : Nat} {Hb : Heap} (B : BodyLoose p l yX12_in (headSpec (Jvm.Cond.code yX12_in prog_14_method_1_code 3 (some .boolean) :: zg_tb) qR467) prog_14_method_1_code 3 (some .boolean) e s m args below meth c s₁) (hml : c.maxLocals = 3) (hK : zg_K D base Hb s) : zk_ok p l e (headSpec (Jvm.Cond.code yX12_in prog_14_method_1_code 3 (some .boolean) :: zg_tb) qR467).room s m args below meth c Q qK D base Hb 3 prog_14_method_1_code qP467 qC467.2.2.2.2 := by
  have S : CallFix p m c prog_14_method_1_code 3 s args (Jvm.Cond.code yX12_in prog_14_method_1_code 3 (some .boolean) :: zg_tb) RX12 := ⟨B.exec, B.bytes, hml, findClass_of_methodNamed B.named, atoms_spec (ws := (Jvm.Cond.code yX12_in prog_14_method_1_code 3 (some .boolean) :: zg_tb)) B.pre⟩
  exact ⟨fun _ h => absurd h List.not_mem_nil,
    fun _ h => absurd h List.not_mem_nil,
    fun _ h => absurd h List.not_mem_nil,
    fun _ h => absurd h List.not_mem_nil,
    fun h => absurd rfl h,
    fun _ h => absurd h List.not_mem_nil,
    fun _ h => absurd h List.not_mem_nil⟩
set_option maxRecDepth 100000 in
theorem qm467 {l : Launch} {D : zk_D} {base : Nat} {Hb : Heap} : zk_Met l qK D base Hb (zg_K D base Hb) yX12_in (Jvm.Cond.code yX12_in prog_14_method_1_code 3 (some .boolean) :: zg_tb) qR467 qC467 := zk_met (ws' := zg_tb) (P := qP467) (AT := zg_AT) zpn_X12 rfl rfl rfl qk467 (fun s hK => zg_wd hK) (fun p e s m args below meth c s₁ Q B hml hK => qo467 B hml hK) (fun p e s m args below meth c s₁ v G0 H0 B hml hK ha hp hF q hq => absurd hq List.not_mem_nil)
set_option maxRecDepth 100000 in
def qR468 : Room := { frames := 2, cells := 0, slots := 0, locals := 40 }
set_option maxHeartbeats 4000000 in
set_option maxRecDepth 100000 in
theorem qo468 {p : Program} {l : Launch} {e : Env} {s : State} {m : MethodId} {args : Array Value} {below : List Frame} {meth : Method} {c : Code} {s₁ : State} {Q : State → Prop} {D : zk_D} {base : Nat} {Hb : Heap} (B : BodyLoose p l yX12_codeOf (headSpec (Jvm.Cond.code yX12_codeOf prog_14_method_53_code 1 (some .int) :: zg_tb) qR468) prog_14_method_53_code 1 (some .int) e s m args below meth c s₁) (hml : c.maxLocals = 1) (hK : zg_K D base Hb s) : zk_ok p l e (headSpec (Jvm.Cond.code yX12_codeOf prog_14_method_53_code 1 (some .int) :: zg_tb) qR468).room s m args below meth c Q qK D base Hb 1 prog_14_method_53_code qP468 qC468.2.2.2.2 := by
  have S : CallFix p m c prog_14_method_53_code 1 s args (Jvm.Cond.code yX12_codeOf prog_14_method_53_code 1 (some .int) :: zg_tb) RX12 := ⟨B.exec, B.bytes, hml, findClass_of_methodNamed B.named, atoms_spec (ws := (Jvm.Cond.code yX12_codeOf prog_14_method_53_code 1 (some .int) :: zg_tb)) B.pre⟩
  exact ⟨fun _ h => absurd h List.not_mem_nil,
    fun _ h => absurd h List.not_mem_nil,
    fun _ h => absurd h List.not_mem_nil,
    fun _ h => absurd h List.not_mem_nil,
    fun h => absurd rfl h,
    fun _ h => absurd h List.not_mem_nil,
    List.forall_mem_cons.mpr ⟨zg_callS (fun w h => List.mem_cons_of_mem _ h) zg_tb_all S hK zg_Km qm169 zw6_210 zy_yX12_isFigure_S (by decide +kernel) ⟨rfl, rfl⟩ (zk_dg_ok qdo_14_53 (by decide +kernel)), fun _ h => absurd h List.not_mem_nil⟩⟩
set_option maxRecDepth 100000 in
theorem qm468 {l : Launch} {D : zk_D} {base : Nat} {Hb : Heap} : zk_Met l qK D base Hb (zg_K D base Hb) yX12_codeOf (Jvm.Cond.code yX12_codeOf prog_14_method_53_code 1 (some .int) :: zg_tb) qR468 qC468 := zk_met (ws' := zg_tb) (P := qP468) (AT := zg_AT) zpn_X12 rfl rfl rfl qk468 (fun s hK => zg_wd hK) (fun p e s m args below meth c s₁ Q B hml hK => qo468 B hml hK) (fun p e s m args below meth c s₁ v G0 H0 B hml hK ha hp hF q hq => absurd hq List.not_mem_nil)
set_option maxRecDepth 100000 in
def qR469 : Room := { frames := 3, cells := 0, slots := 0, locals := 60 }
set_option maxHeartbeats 4000000 in
set_option maxRecDepth 100000 in
theorem qo469 {p : Program} {l : Launch} {e : Env} {s : State} {m : MethodId} {args : Array Value} {below : List Frame} {meth : Method} {c : Code} {s₁ : State} {Q : State → Prop} {D : zk_D} {base : Nat} {Hb : Heap} (B : BodyLoose p l yX12_cutUp (headSpec (Jvm.Cond.code yX12_cutUp prog_14_method_54_code 7 (some .int) :: zg_tb) qR469) prog_14_method_54_code 7 (some .int) e s m args below meth c s₁) (hml : c.maxLocals = 7) (hK : zg_K D base Hb s) : zk_ok p l e (headSpec (Jvm.Cond.code yX12_cutUp prog_14_method_54_code 7 (some .int) :: zg_tb) qR469).room s m args below meth c Q qK D base Hb 7 prog_14_method_54_code qP469 qC469.2.2.2.2 := by
  have S : CallFix p m c prog_14_method_54_code 7 s args (Jvm.Cond.code yX12_cutUp prog_14_method_54_code 7 (some .int) :: zg_tb) RX12 := ⟨B.exec, B.bytes, hml, findClass_of_methodNamed B.named, atoms_spec (ws := (Jvm.Cond.code yX12_cutUp prog_14_method_54_code 7 (some .int) :: zg_tb)) B.pre⟩
  exact ⟨fun _ h => absurd h List.not_mem_nil,
    fun _ h => absurd h List.not_mem_nil,
    fun _ h => absurd h List.not_mem_nil,
    fun _ h => absurd h List.not_mem_nil,
    fun h => absurd rfl h,
    List.forall_mem_cons.mpr ⟨zg_kokL S (List.mem_cons_of_mem _ zw7_72) (by decide +kernel) (zk_dg_ok qdo_14_54 (by decide +kernel)), fun _ h => absurd h List.not_mem_nil⟩,
    List.forall_mem_cons.mpr ⟨zg_callS (fun w h => List.mem_cons_of_mem _ h) zg_tb_all S hK zg_Km qm170 zw6_207 zy_yX12_isWord_S (by decide +kernel) ⟨rfl, rfl⟩ (zk_dg_ok qdo_14_54 (by decide +kernel)), List.forall_mem_cons.mpr ⟨zg_callS (fun w h => List.mem_cons_of_mem _ h) zg_tb_all S hK zg_Km qm468 zw7_73 zy_yX12_codeOf_S (by decide +kernel) ⟨rfl, rfl⟩ (zk_dg_ok qdo_14_54 (by decide +kernel)), fun _ h => absurd h List.not_mem_nil⟩⟩⟩
set_option maxRecDepth 100000 in
theorem qm469 {l : Launch} {D : zk_D} {base : Nat} {Hb : Heap} : zk_Met l qK D base Hb (zg_K D base Hb) yX12_cutUp (Jvm.Cond.code yX12_cutUp prog_14_method_54_code 7 (some .int) :: zg_tb) qR469 qC469 := zk_met (ws' := zg_tb) (P := qP469) (AT := zg_AT) zpn_X12 rfl rfl rfl qk469 (fun s hK => zg_wd hK) (fun p e s m args below meth c s₁ Q B hml hK => qo469 B hml hK) (fun p e s m args below meth c s₁ v G0 H0 B hml hK ha hp hF q hq => absurd hq List.not_mem_nil)
set_option maxRecDepth 100000 in
def qR470 : Room := { frames := 3, cells := 0, slots := 0, locals := 60 }
set_option maxHeartbeats 4000000 in
set_option maxRecDepth 100000 in
theorem qo470 {p : Program} {l : Launch} {e : Env} {s : State} {m : MethodId} {args : Array Value} {below : List Frame} {meth : Method} {c : Code} {s₁ : State} {Q : State → Prop} {D : zk_D} {base : Nat} {Hb : Heap} (B : BodyLoose p l yX12_cutUp (headSpec (Jvm.Cond.code yX12_cutUp prog_14_method_54_code 7 (some .int) :: zg_tb) qR470) prog_14_method_54_code 7 (some .int) e s m args below meth c s₁) (hml : c.maxLocals = 7) (hK : zg_K D base Hb s) : zk_ok p l e (headSpec (Jvm.Cond.code yX12_cutUp prog_14_method_54_code 7 (some .int) :: zg_tb) qR470).room s m args below meth c Q qK D base Hb 7 prog_14_method_54_code qP470 qC470.2.2.2.2 := by
  have S : CallFix p m c prog_14_method_54_code 7 s args (Jvm.Cond.code yX12_cutUp prog_14_method_54_code 7 (some .int) :: zg_tb) RX12 := ⟨B.exec, B.bytes, hml, findClass_of_methodNamed B.named, atoms_spec (ws := (Jvm.Cond.code yX12_cutUp prog_14_method_54_code 7 (some .int) :: zg_tb)) B.pre⟩
  exact ⟨fun _ h => absurd h List.not_mem_nil,
    fun _ h => absurd h List.not_mem_nil,
    fun _ h => absurd h List.not_mem_nil,
    fun _ h => absurd h List.not_mem_nil,
    fun h => absurd rfl h,
    List.forall_mem_cons.mpr ⟨zg_kokL S (List.mem_cons_of_mem _ zw7_72) (by decide +kernel) (zk_dg_ok qdo_14_54 (by decide +kernel)), fun _ h => absurd h List.not_mem_nil⟩,
    List.forall_mem_cons.mpr ⟨zg_callS (fun w h => List.mem_cons_of_mem _ h) zg_tb_all S hK zg_Km qm170 zw6_207 zy_yX12_isWord_S (by decide +kernel) ⟨rfl, rfl⟩ (zk_dg_ok qdo_14_54 (by decide +kernel)), List.forall_mem_cons.mpr ⟨zg_callS (fun w h => List.mem_cons_of_mem _ h) zg_tb_all S hK zg_Km qm468 zw7_73 zy_yX12_codeOf_S (by decide +kernel) ⟨rfl, rfl⟩ (zk_dg_ok qdo_14_54 (by decide +kernel)), fun _ h => absurd h List.not_mem_nil⟩⟩⟩
set_option maxRecDepth 100000 in
theorem qm470 {l : Launch} {D : zk_D} {base : Nat} {Hb : Heap} : zk_Met l qK D base Hb (zg_K D base Hb) yX12_cutUp (Jvm.Cond.code yX12_cutUp prog_14_method_54_code 7 (some .int) :: zg_tb) qR470 qC470 := zk_met (ws' := zg_tb) (P := qP470) (AT := zg_AT) zpn_X12 rfl rfl rfl qk470 (fun s hK => zg_wd hK) (fun p e s m args below meth c s₁ Q B hml hK => qo470 B hml hK) (fun p e s m args below meth c s₁ v G0 H0 B hml hK ha hp hF q hq => absurd hq List.not_mem_nil)
set_option maxRecDepth 100000 in
def qR471 : Room := { frames := 18, cells := 0, slots := 0, locals := 371 }
set_option maxHeartbeats 4000000 in
set_option maxRecDepth 100000 in
theorem qo471 {p : Program} {l : Launch} {e : Env} {s : State} {m : MethodId} {args : Array Value} {below : List Frame} {meth : Method} {c : Code} {s₁ : State} {Q : State → Prop} {D : zk_D} {base : Nat} {Hb : Heap} (B : BodyLoose p l yX12_write (headSpec (Jvm.Cond.code yX12_write prog_14_method_55_code 6 (some .int) :: zg_tb) qR471) prog_14_method_55_code 6 (some .int) e s m args below meth c s₁) (hml : c.maxLocals = 6) (hK : zg_K D base Hb s) : zk_ok p l e (headSpec (Jvm.Cond.code yX12_write prog_14_method_55_code 6 (some .int) :: zg_tb) qR471).room s m args below meth c Q qK D base Hb 6 prog_14_method_55_code qP471 qC471.2.2.2.2 := by
  have S : CallFix p m c prog_14_method_55_code 6 s args (Jvm.Cond.code yX12_write prog_14_method_55_code 6 (some .int) :: zg_tb) RX12 := ⟨B.exec, B.bytes, hml, findClass_of_methodNamed B.named, atoms_spec (ws := (Jvm.Cond.code yX12_write prog_14_method_55_code 6 (some .int) :: zg_tb)) B.pre⟩
  exact ⟨List.forall_mem_cons.mpr ⟨zg_gp S (hK.2.1 12 _ rfl) (fun w h => (List.mem_cons_of_mem _ (zc12 w h))) rfl zt12_44 (List.mem_cons_of_mem _ zw5_203) rfl, List.forall_mem_cons.mpr ⟨zg_gp4 S (hK.2.1 12 _ rfl) (fun w h => (List.mem_cons_of_mem _ (zc12 w h))) rfl zt12_33 (List.mem_cons_of_mem _ zw5_192), List.forall_mem_cons.mpr ⟨zg_gp4 S (hK.2.1 12 _ rfl) (fun w h => (List.mem_cons_of_mem _ (zc12 w h))) rfl zt12_13 (List.mem_cons_of_mem _ zw5_172), List.forall_mem_cons.mpr ⟨zg_gp S (hK.2.1 12 _ rfl) (fun w h => (List.mem_cons_of_mem _ (zc12 w h))) rfl zt12_15 (List.mem_cons_of_mem _ zw5_174) rfl, List.forall_mem_cons.mpr ⟨zg_gp4 S (hK.2.1 12 _ rfl) (fun w h => (List.mem_cons_of_mem _ (zc12 w h))) rfl zt12_31 (List.mem_cons_of_mem _ zw5_190), List.forall_mem_cons.mpr ⟨zg_gp4 S (hK.2.1 12 _ rfl) (fun w h => (List.mem_cons_of_mem _ (zc12 w h))) rfl zt12_34 (List.mem_cons_of_mem _ zw5_193), List.forall_mem_cons.mpr ⟨zg_gp4 S (hK.2.1 12 _ rfl) (fun w h => (List.mem_cons_of_mem _ (zc12 w h))) rfl zt12_14 (List.mem_cons_of_mem _ zw5_173), List.forall_mem_cons.mpr ⟨zg_gp S (hK.2.1 12 _ rfl) (fun w h => (List.mem_cons_of_mem _ (zc12 w h))) rfl zt12_16 (List.mem_cons_of_mem _ zw5_175) rfl, List.forall_mem_cons.mpr ⟨zg_gp4 S (hK.2.1 12 _ rfl) (fun w h => (List.mem_cons_of_mem _ (zc12 w h))) rfl zt12_32 (List.mem_cons_of_mem _ zw5_191), List.forall_mem_cons.mpr ⟨zg_gp4 S (hK.2.1 12 _ rfl) (fun w h => (List.mem_cons_of_mem _ (zc12 w h))) rfl zt12_35 (List.mem_cons_of_mem _ zw5_194), List.forall_mem_cons.mpr ⟨zg_gp4 S (hK.2.1 12 _ rfl) (fun w h => (List.mem_cons_of_mem _ (zc12 w h))) rfl zt12_36 (List.mem_cons_of_mem _ zw5_195), List.forall_mem_cons.mpr ⟨zg_gp4 S (hK.2.1 12 _ rfl) (fun w h => (List.mem_cons_of_mem _ (zc12 w h))) rfl zt12_37 (List.mem_cons_of_mem _ zw5_196), List.forall_mem_cons.mpr ⟨zg_gp4 S (hK.2.1 12 _ rfl) (fun w h => (List.mem_cons_of_mem _ (zc12 w h))) rfl zt12_38 (List.mem_cons_of_mem _ zw5_197), List.forall_mem_cons.mpr ⟨zg_gp4 S (hK.2.1 12 _ rfl) (fun w h => (List.mem_cons_of_mem _ (zc12 w h))) rfl zt12_39 (List.mem_cons_of_mem _ zw5_198), List.forall_mem_cons.mpr ⟨zg_gp S (hK.2.1 12 _ rfl) (fun w h => (List.mem_cons_of_mem _ (zc12 w h))) rfl zt12_0 (List.mem_cons_of_mem _ zw5_159) rfl, List.forall_mem_cons.mpr ⟨zg_gp4 S (hK.2.1 12 _ rfl) (fun w h => (List.mem_cons_of_mem _ (zc12 w h))) rfl zt12_42 (List.mem_cons_of_mem _ zw5_201), List.forall_mem_cons.mpr ⟨zg_gp4 S (hK.2.1 12 _ rfl) (fun w h => (List.mem_cons_of_mem _ (zc12 w h))) rfl zt12_43 (List.mem_cons_of_mem _ zw5_202), List.forall_mem_cons.mpr ⟨zg_gp S (hK.2.1 12 _ rfl) (fun w h => (List.mem_cons_of_mem _ (zc12 w h))) rfl zt12_9 (List.mem_cons_of_mem _ zw5_168) rfl, fun _ h => absurd h List.not_mem_nil⟩⟩⟩⟩⟩⟩⟩⟩⟩⟩⟩⟩⟩⟩⟩⟩⟩⟩,
    fun _ h => absurd h List.not_mem_nil,
    fun _ h => absurd h List.not_mem_nil,
    fun _ h => absurd h List.not_mem_nil,
    fun h => absurd rfl h,
    fun _ h => absurd h List.not_mem_nil,
    List.forall_mem_cons.mpr ⟨zg_callV (fun w h => List.mem_cons_of_mem _ h) zg_tb_all S hK zg_Km qm466 zw6_160 zy_yX12_isName_V (ci := 12) (by decide +kernel) (hK.2.1 12 _ rfl).2.1 ⟨rfl, rfl⟩ (zk_dg_ok qdo_14_55 (by decide +kernel)), List.forall_mem_cons.mpr ⟨zg_callV (fun w h => List.mem_cons_of_mem _ h) zg_tb_all S hK zg_Km qm466 zw6_160 zy_yX12_isName_V (ci := 12) (by decide +kernel) (hK.2.1 12 _ rfl).2.1 ⟨rfl, rfl⟩ (zk_dg_ok qdo_14_55 (by decide +kernel)), List.forall_mem_cons.mpr ⟨zg_callS (fun w h => List.mem_cons_of_mem _ h) zg_tb_all S hK zg_Km qm467 zw6_145 zy_yX12_in_S (by decide +kernel) ⟨rfl, rfl⟩ (zk_dg_ok qdo_14_55 (by decide +kernel)), List.forall_mem_cons.mpr ⟨zg_callV (fun w h => List.mem_cons_of_mem _ h) zg_tb_all S hK zg_Km qm192 zw6_179 zy_yX12_textFault_V (ci := 12) (by decide +kernel) (hK.2.1 12 _ rfl).2.1 ⟨rfl, rfl⟩ (zk_dg_ok qdo_14_55 (by decide +kernel)), List.forall_mem_cons.mpr ⟨zg_callS (fun w h => List.mem_cons_of_mem _ h) zg_tb_all S hK zg_Km qm469 zw7_69 zy_yX12_cutUp_S (by decide +kernel) ⟨rfl, rfl⟩ (zk_dg_ok qdo_14_55 (by decide +kernel)), List.forall_mem_cons.mpr ⟨zg_callS (fun w h => List.mem_cons_of_mem _ h) zg_tb_all S hK zg_Km qm470 zw7_69 zy_yX12_cutUp_S (by decide +kernel) ⟨rfl, rfl⟩ (zk_dg_ok qdo_14_55 (by decide +kernel)), fun _ h => absurd h List.not_mem_nil⟩⟩⟩⟩⟩⟩⟩
set_option maxRecDepth 100000 in
theorem qm471 {l : Launch} {D : zk_D} {base : Nat} {Hb : Heap} : zk_Met l qK D base Hb (zg_K D base Hb) yX12_write (Jvm.Cond.code yX12_write prog_14_method_55_code 6 (some .int) :: zg_tb) qR471 qC471 := zk_met (ws' := zg_tb) (P := qP471) (AT := zg_AT) zpn_X12 rfl rfl rfl qk471 (fun s hK => zg_wd hK) (fun p e s m args below meth c s₁ Q B hml hK => qo471 B hml hK) (fun p e s m args below meth c s₁ v G0 H0 B hml hK ha hp hF q hq => absurd hq List.not_mem_nil)
set_option maxRecDepth 100000 in
def qR472 : Room := { frames := 1, cells := 0, slots := 0, locals := 20 }
set_option maxHeartbeats 4000000 in
set_option maxRecDepth 100000 in
theorem qo472 {p : Program} {l : Launch} {e : Env} {s : State} {m : MethodId} {args : Array Value} {below : List Frame} {meth : Method} {c : Code} {s₁ : State} {Q : State → Prop} {D : zk_D} {base : Nat} {Hb : Heap} (B : BodyLoose p l yX11_letterAt (headSpec (Jvm.Cond.code yX11_letterAt prog_1_method_42_code 2 (some (.object "UnaskedLetters$Letter")) :: zg_tb) qR472) prog_1_method_42_code 2 (some (.object "UnaskedLetters$Letter")) e s m args below meth c s₁) (hml : c.maxLocals = 2) (hK : zg_K D base Hb s) : zk_ok p l e (headSpec (Jvm.Cond.code yX11_letterAt prog_1_method_42_code 2 (some (.object "UnaskedLetters$Letter")) :: zg_tb) qR472).room s m args below meth c Q qK D base Hb 2 prog_1_method_42_code qP472 qC472.2.2.2.2 := by
  have S : CallFix p m c prog_1_method_42_code 2 s args (Jvm.Cond.code yX11_letterAt prog_1_method_42_code 2 (some (.object "UnaskedLetters$Letter")) :: zg_tb) RX11 := ⟨B.exec, B.bytes, hml, findClass_of_methodNamed B.named, atoms_spec (ws := (Jvm.Cond.code yX11_letterAt prog_1_method_42_code 2 (some (.object "UnaskedLetters$Letter")) :: zg_tb)) B.pre⟩
  exact ⟨List.forall_mem_cons.mpr ⟨zg_gp S (hK.2.1 11 _ rfl) (fun w h => (List.mem_cons_of_mem _ (zc11 w h))) rfl zt11_15 (List.mem_cons_of_mem _ zw2_68) rfl, List.forall_mem_cons.mpr ⟨zg_gp4 S (hK.2.1 11 _ rfl) (fun w h => (List.mem_cons_of_mem _ (zc11 w h))) rfl zt11_7 (List.mem_cons_of_mem _ zw2_60), fun _ h => absurd h List.not_mem_nil⟩⟩,
    fun _ h => absurd h List.not_mem_nil,
    fun _ h => absurd h List.not_mem_nil,
    fun _ h => absurd h List.not_mem_nil,
    fun h => absurd rfl h,
    fun _ h => absurd h List.not_mem_nil,
    fun _ h => absurd h List.not_mem_nil⟩
set_option maxRecDepth 100000 in
theorem qm472 {l : Launch} {D : zk_D} {base : Nat} {Hb : Heap} : zk_Met l qK D base Hb (zg_K D base Hb) yX11_letterAt (Jvm.Cond.code yX11_letterAt prog_1_method_42_code 2 (some (.object "UnaskedLetters$Letter")) :: zg_tb) qR472 qC472 := zk_met (ws' := zg_tb) (P := qP472) (AT := zg_AT) zpn_X11 rfl rfl rfl qk472 (fun s hK => zg_wd hK) (fun p e s m args below meth c s₁ Q B hml hK => qo472 B hml hK) (fun p e s m args below meth c s₁ v G0 H0 B hml hK ha hp hF q hq => absurd hq List.not_mem_nil)
end
