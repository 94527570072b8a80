/-! CONTRACTS MET: found by wip/an (python). -/
noncomputable section
set_option maxRecDepth 100000 in
def qR361 : Room := { frames := 22, cells := 0, slots := 0, locals := 460 }
set_option maxHeartbeats 4000000 in
set_option maxRecDepth 100000 in
theorem qo361 {p : Program} {l : Launch} {e : Env} {s : State} {m : MethodId} {args : Array Value} {below : List Frame} {meth : Method} {c : Code} {s₁ : State} {Q : State → Prop} {D : zk_D} {base : Nat} {Hb : Heap} (B : BodyLoose p l yX12_atom (headSpec (Jvm.Cond.code yX12_atom prog_14_method_33_code 2 none :: zg_tb) qR361) prog_14_method_33_code 2 none e s m args below meth c s₁) (hml : c.maxLocals = 2) (hK : zg_K D base Hb s) : zk_ok p l e (headSpec (Jvm.Cond.code yX12_atom prog_14_method_33_code 2 none :: zg_tb) qR361).room s m args below meth c Q qK D base Hb 2 prog_14_method_33_code qP361 qC361.2.2.2.2 := by
  have S : CallFix p m c prog_14_method_33_code 2 s args (Jvm.Cond.code yX12_atom prog_14_method_33_code 2 none :: zg_tb) RX12 := ⟨B.exec, B.bytes, hml, findClass_of_methodNamed B.named, atoms_spec (ws := (Jvm.Cond.code yX12_atom prog_14_method_33_code 2 none :: zg_tb)) B.pre⟩
  exact ⟨List.forall_mem_cons.mpr ⟨zg_gp S (hK.2.1 12 _ rfl) (fun w h => (List.mem_cons_of_mem _ (zc12 w h))) rfl zt12_10 (List.mem_cons_of_mem _ zw5_169) rfl, fun _ h => absurd h List.not_mem_nil⟩,
    fun _ h => absurd h List.not_mem_nil,
    fun _ h => absurd h List.not_mem_nil,
    fun _ h => absurd h List.not_mem_nil,
    fun h => absurd rfl h,
    fun _ h => absurd h List.not_mem_nil,
    List.forall_mem_cons.mpr ⟨zg_callV (fun w h => List.mem_cons_of_mem _ h) zg_tb_all S hK zg_Km qm193 zw6_232 zy_yX12_look_V (ci := 12) (by decide +kernel) (hK.2.1 12 _ rfl).2.1 ⟨rfl, rfl⟩ (zk_dg_ok qdo_14_33 (by decide +kernel)), List.forall_mem_cons.mpr ⟨zg_callV (fun w h => List.mem_cons_of_mem _ h) zg_tb_all S hK zg_Km qm196 zw7_15 zy_yX12_opens_V (ci := 12) (by decide +kernel) (hK.2.1 12 _ rfl).2.1 ⟨rfl, rfl⟩ (zk_dg_ok qdo_14_33 (by decide +kernel)), List.forall_mem_cons.mpr ⟨zg_callV (fun w h => List.mem_cons_of_mem _ h) zg_tb_all S hK zg_Km qm359 zw7_3 zy_yX12_sum_V (ci := 12) (by decide +kernel) (hK.2.1 12 _ rfl).2.1 ⟨rfl, rfl⟩ (zk_dg_ok qdo_14_33 (by decide +kernel)), List.forall_mem_cons.mpr ⟨zg_callV (fun w h => List.mem_cons_of_mem _ h) zg_tb_all S hK zg_Km qm251 zw7_19 zy_yX12_closes_V (ci := 12) (by decide +kernel) (hK.2.1 12 _ rfl).2.1 ⟨rfl, rfl⟩ (zk_dg_ok qdo_14_33 (by decide +kernel)), List.forall_mem_cons.mpr ⟨zg_callV (fun w h => List.mem_cons_of_mem _ h) zg_tb_all S hK zg_Km qm252 zw7_19 zy_yX12_closes_V (ci := 12) (by decide +kernel) (hK.2.1 12 _ rfl).2.1 ⟨rfl, rfl⟩ (zk_dg_ok qdo_14_33 (by decide +kernel)), List.forall_mem_cons.mpr ⟨zg_callS (fun w h => List.mem_cons_of_mem _ h) zg_tb_all S hK zg_Km qm203 zw7_23 zy_yX12_isLetterOf_S (by decide +kernel) ⟨rfl, rfl⟩ (zk_dg_ok qdo_14_33 (by decide +kernel)), List.forall_mem_cons.mpr ⟨zg_callV (fun w h => List.mem_cons_of_mem _ h) zg_tb_all S hK zg_Km qm330 zw6_239 zy_yX12_say_V (ci := 12) (by decide +kernel) (hK.2.1 12 _ rfl).2.1 ⟨rfl, rfl⟩ (zk_dg_ok qdo_14_33 (by decide +kernel)), List.forall_mem_cons.mpr ⟨zg_callV (fun w h => List.mem_cons_of_mem _ h) zg_tb_all S hK zg_Km qm331 zw6_239 zy_yX12_say_V (ci := 12) (by decide +kernel) (hK.2.1 12 _ rfl).2.1 ⟨rfl, rfl⟩ (zk_dg_ok qdo_14_33 (by decide +kernel)), List.forall_mem_cons.mpr ⟨zg_callV (fun w h => List.mem_cons_of_mem _ h) zg_tb_all S hK zg_Km qm360 zw7_26 zy_yX12_number_V (ci := 12) (by decide +kernel) (hK.2.1 12 _ rfl).2.1 ⟨rfl, rfl⟩ (zk_dg_ok qdo_14_33 (by decide +kernel)), fun _ h => absurd h List.not_mem_nil⟩⟩⟩⟩⟩⟩⟩⟩⟩⟩
set_option maxRecDepth 100000 in
theorem qm361 {l : Launch} {D : zk_D} {base : Nat} {Hb : Heap} : zk_Met l qK D base Hb (zg_K D base Hb) yX12_atom (Jvm.Cond.code yX12_atom prog_14_method_33_code 2 none :: zg_tb) qR361 qC361 := zk_met (ws' := zg_tb) (P := qP361) (AT := zg_AT) zpn_X12 rfl rfl rfl qk361 (fun s hK => zg_wd hK) (fun p e s m args below meth c s₁ Q B hml hK => qo361 B hml hK) (fun p e s m args below meth c s₁ v G0 H0 B hml hK ha hp hF q hq => absurd hq List.not_mem_nil)
set_option maxRecDepth 100000 in
def qR362 : Room := { frames := 23, cells := 0, slots := 0, locals := 481 }
set_option maxHeartbeats 4000000 in
set_option maxRecDepth 100000 in
theorem qo362 {p : Program} {l : Launch} {e : Env} {s : State} {m : MethodId} {args : Array Value} {below : List Frame} {meth : Method} {c : Code} {s₁ : State} {Q : State → Prop} {D : zk_D} {base : Nat} {Hb : Heap} (B : BodyLoose p l yX12_term (headSpec (Jvm.Cond.code yX12_term prog_14_method_34_code 2 none :: zg_tb) qR362) prog_14_method_34_code 2 none e s m args below meth c s₁) (hml : c.maxLocals = 2) (hK : zg_K D base Hb s) : zk_ok p l e (headSpec (Jvm.Cond.code yX12_term prog_14_method_34_code 2 none :: zg_tb) qR362).room s m args below meth c Q qK D base Hb 2 prog_14_method_34_code qP362 qC362.2.2.2.2 := by
  have S : CallFix p m c prog_14_method_34_code 2 s args (Jvm.Cond.code yX12_term prog_14_method_34_code 2 none :: zg_tb) RX12 := ⟨B.exec, B.bytes, hml, findClass_of_methodNamed B.named, atoms_spec (ws := (Jvm.Cond.code yX12_term prog_14_method_34_code 2 none :: zg_tb)) B.pre⟩
  exact ⟨List.forall_mem_cons.mpr ⟨zg_gp S (hK.2.1 12 _ rfl) (fun w h => (List.mem_cons_of_mem _ (zc12 w h))) rfl zt12_11 (List.mem_cons_of_mem _ zw5_170) rfl, List.forall_mem_cons.mpr ⟨zg_gp S (hK.2.1 12 _ rfl) (fun w h => (List.mem_cons_of_mem _ (zc12 w h))) rfl zt12_10 (List.mem_cons_of_mem _ zw5_169) rfl, fun _ h => absurd h List.not_mem_nil⟩⟩,
    fun _ h => absurd h List.not_mem_nil,
    fun _ h => absurd h List.not_mem_nil,
    fun _ h => absurd h List.not_mem_nil,
    fun h => absurd rfl h,
    fun _ h => absurd h List.not_mem_nil,
    List.forall_mem_cons.mpr ⟨zg_callV (fun w h => List.mem_cons_of_mem _ h) zg_tb_all S hK zg_Km qm361 zw7_11 zy_yX12_atom_V (ci := 12) (by decide +kernel) (hK.2.1 12 _ rfl).2.1 ⟨rfl, rfl⟩ (zk_dg_ok qdo_14_34 (by decide +kernel)), List.forall_mem_cons.mpr ⟨zg_callV (fun w h => List.mem_cons_of_mem _ h) zg_tb_all S hK zg_Km qm193 zw6_232 zy_yX12_look_V (ci := 12) (by decide +kernel) (hK.2.1 12 _ rfl).2.1 ⟨rfl, rfl⟩ (zk_dg_ok qdo_14_34 (by decide +kernel)), List.forall_mem_cons.mpr ⟨zg_callV (fun w h => List.mem_cons_of_mem _ h) zg_tb_all S hK zg_Km qm255 zw6_232 zy_yX12_look_V (ci := 12) (by decide +kernel) (hK.2.1 12 _ rfl).2.1 ⟨rfl, rfl⟩ (zk_dg_ok qdo_14_34 (by decide +kernel)), List.forall_mem_cons.mpr ⟨zg_callV (fun w h => List.mem_cons_of_mem _ h) zg_tb_all S hK zg_Km qm361 zw7_11 zy_yX12_atom_V (ci := 12) (by decide +kernel) (hK.2.1 12 _ rfl).2.1 ⟨rfl, rfl⟩ (zk_dg_ok qdo_14_34 (by decide +kernel)), List.forall_mem_cons.mpr ⟨zg_callV (fun w h => List.mem_cons_of_mem _ h) zg_tb_all S hK zg_Km qm336 zw6_239 zy_yX12_say_V (ci := 12) (by decide +kernel) (hK.2.1 12 _ rfl).2.1 ⟨rfl, rfl⟩ (zk_dg_ok qdo_14_34 (by decide +kernel)), List.forall_mem_cons.mpr ⟨zg_callV (fun w h => List.mem_cons_of_mem _ h) zg_tb_all S hK zg_Km qm211 zw6_239 zy_yX12_say_V (ci := 12) (by decide +kernel) (hK.2.1 12 _ rfl).2.1 ⟨rfl, rfl⟩ (zk_dg_ok qdo_14_34 (by decide +kernel)), List.forall_mem_cons.mpr ⟨zg_callV (fun w h => List.mem_cons_of_mem _ h) zg_tb_all S hK zg_Km qm193 zw6_232 zy_yX12_look_V (ci := 12) (by decide +kernel) (hK.2.1 12 _ rfl).2.1 ⟨rfl, rfl⟩ (zk_dg_ok qdo_14_34 (by decide +kernel)), List.forall_mem_cons.mpr ⟨zg_callV (fun w h => List.mem_cons_of_mem _ h) zg_tb_all S hK zg_Km qm255 zw6_232 zy_yX12_look_V (ci := 12) (by decide +kernel) (hK.2.1 12 _ rfl).2.1 ⟨rfl, rfl⟩ (zk_dg_ok qdo_14_34 (by decide +kernel)), fun _ h => absurd h List.not_mem_nil⟩⟩⟩⟩⟩⟩⟩⟩⟩
set_option maxRecDepth 100000 in
theorem qm362 {l : Launch} {D : zk_D} {base : Nat} {Hb : Heap} : zk_Met l qK D base Hb (zg_K D base Hb) yX12_term (Jvm.Cond.code yX12_term prog_14_method_34_code 2 none :: zg_tb) qR362 qC362 := zk_met (ws' := zg_tb) (P := qP362) (AT := zg_AT) zpn_X12 rfl rfl rfl qk362 (fun s hK => zg_wd hK) (fun p e s m args below meth c s₁ Q B hml hK => qo362 B hml hK) (fun p e s m args below meth c s₁ v G0 H0 B hml hK ha hp hF q hq => absurd hq List.not_mem_nil)
set_option maxRecDepth 100000 in
def qR363 : Room := { frames := 24, cells := 0, slots := 0, locals := 502 }
set_option maxHeartbeats 4000000 in
set_option maxRecDepth 100000 in
theorem qo363 {p : Program} {l : Launch} {e : Env} {s : State} {m : MethodId} {args : Array Value} {below : List Frame} {meth : Method} {c : Code} {s₁ : State} {Q : State → Prop} {D : zk_D} {base : Nat} {Hb : Heap} (B : BodyLoose p l yX12_sum (headSpec (Jvm.Cond.code yX12_sum prog_14_method_35_code 2 none :: zg_tb) qR363) prog_14_method_35_code 2 none e s m args below meth c s₁) (hml : c.maxLocals = 2) (hK : zg_K D base Hb s) : zk_ok p l e (headSpec (Jvm.Cond.code yX12_sum prog_14_method_35_code 2 none :: zg_tb) qR363).room s m args below meth c Q qK D base Hb 2 prog_14_method_35_code qP363 qC363.2.2.2.2 := by
  have S : CallFix p m c prog_14_method_35_code 2 s args (Jvm.Cond.code yX12_sum prog_14_method_35_code 2 none :: zg_tb) RX12 := ⟨B.exec, B.bytes, hml, findClass_of_methodNamed B.named, atoms_spec (ws := (Jvm.Cond.code yX12_sum prog_14_method_35_code 2 none :: zg_tb)) B.pre⟩
  exact ⟨List.forall_mem_cons.mpr ⟨zg_gp S (hK.2.1 12 _ rfl) (fun w h => (List.mem_cons_of_mem _ (zc12 w h))) rfl zt12_11 (List.mem_cons_of_mem _ zw5_170) rfl, List.forall_mem_cons.mpr ⟨zg_gp S (hK.2.1 12 _ rfl) (fun w h => (List.mem_cons_of_mem _ (zc12 w h))) rfl zt12_10 (List.mem_cons_of_mem _ zw5_169) rfl, fun _ h => absurd h List.not_mem_nil⟩⟩,
    fun _ h => absurd h List.not_mem_nil,
    fun _ h => absurd h List.not_mem_nil,
    fun _ h => absurd h List.not_mem_nil,
    fun h => absurd rfl h,
    fun _ h => absurd h List.not_mem_nil,
    List.forall_mem_cons.mpr ⟨zg_callV (fun w h => List.mem_cons_of_mem _ h) zg_tb_all S hK zg_Km qm362 zw7_7 zy_yX12_term_V (ci := 12) (by decide +kernel) (hK.2.1 12 _ rfl).2.1 ⟨rfl, rfl⟩ (zk_dg_ok qdo_14_35 (by decide +kernel)), List.forall_mem_cons.mpr ⟨zg_callV (fun w h => List.mem_cons_of_mem _ h) zg_tb_all S hK zg_Km qm193 zw6_232 zy_yX12_look_V (ci := 12) (by decide +kernel) (hK.2.1 12 _ rfl).2.1 ⟨rfl, rfl⟩ (zk_dg_ok qdo_14_35 (by decide +kernel)), List.forall_mem_cons.mpr ⟨zg_callV (fun w h => List.mem_cons_of_mem _ h) zg_tb_all S hK zg_Km qm255 zw6_232 zy_yX12_look_V (ci := 12) (by decide +kernel) (hK.2.1 12 _ rfl).2.1 ⟨rfl, rfl⟩ (zk_dg_ok qdo_14_35 (by decide +kernel)), List.forall_mem_cons.mpr ⟨zg_callV (fun w h => List.mem_cons_of_mem _ h) zg_tb_all S hK zg_Km qm362 zw7_7 zy_yX12_term_V (ci := 12) (by decide +kernel) (hK.2.1 12 _ rfl).2.1 ⟨rfl, rfl⟩ (zk_dg_ok qdo_14_35 (by decide +kernel)), List.forall_mem_cons.mpr ⟨zg_callV (fun w h => List.mem_cons_of_mem _ h) zg_tb_all S hK zg_Km qm338 zw6_239 zy_yX12_say_V (ci := 12) (by decide +kernel) (hK.2.1 12 _ rfl).2.1 ⟨rfl, rfl⟩ (zk_dg_ok qdo_14_35 (by decide +kernel)), List.forall_mem_cons.mpr ⟨zg_callV (fun w h => List.mem_cons_of_mem _ h) zg_tb_all S hK zg_Km qm211 zw6_239 zy_yX12_say_V (ci := 12) (by decide +kernel) (hK.2.1 12 _ rfl).2.1 ⟨rfl, rfl⟩ (zk_dg_ok qdo_14_35 (by decide +kernel)), List.forall_mem_cons.mpr ⟨zg_callV (fun w h => List.mem_cons_of_mem _ h) zg_tb_all S hK zg_Km qm193 zw6_232 zy_yX12_look_V (ci := 12) (by decide +kernel) (hK.2.1 12 _ rfl).2.1 ⟨rfl, rfl⟩ (zk_dg_ok qdo_14_35 (by decide +kernel)), List.forall_mem_cons.mpr ⟨zg_callV (fun w h => List.mem_cons_of_mem _ h) zg_tb_all S hK zg_Km qm255 zw6_232 zy_yX12_look_V (ci := 12) (by decide +kernel) (hK.2.1 12 _ rfl).2.1 ⟨rfl, rfl⟩ (zk_dg_ok qdo_14_35 (by decide +kernel)), fun _ h => absurd h List.not_mem_nil⟩⟩⟩⟩⟩⟩⟩⟩⟩
set_option maxRecDepth 100000 in
theorem qm363 {l : Launch} {D : zk_D} {base : Nat} {Hb : Heap} : zk_Met l qK D base Hb (zg_K D base Hb) yX12_sum (Jvm.Cond.code yX12_sum prog_14_method_35_code 2 none :: zg_tb) qR363 qC363 := zk_met (ws' := zg_tb) (P := qP363) (AT := zg_AT) zpn_X12 rfl rfl rfl qk363 (fun s hK => zg_wd hK) (fun p e s m args below meth c s₁ Q B hml hK => qo363 B hml hK) (fun p e s m args below meth c s₁ v G0 H0 B hml hK ha hp hF q hq => absurd hq List.not_mem_nil)
set_option maxRecDepth 100000 in
def qR364 : Room := { frames := 29, cells := 0, slots := 0, locals := 607 }
set_option maxHeartbeats 4000000 in
set_option maxRecDepth 100000 in
theorem qo364 {p : Program} {l : Launch} {e : Env} {s : State} {m : MethodId} {args : Array Value} {below : List Frame} {meth : Method} {c : Code} {s₁ : State} {Q : State → Prop} {D : zk_D} {base : Nat} {Hb : Heap} (B : BodyLoose p l yX12_clause (headSpec (Jvm.Cond.code yX12_clause prog_14_method_41_code 6 none :: zg_tb) qR364) prog_14_method_41_code 6 none e s m args below meth c s₁) (hml : c.maxLocals = 6) (hK : zg_K D base Hb s) : zk_ok p l e (headSpec (Jvm.Cond.code yX12_clause prog_14_method_41_code 6 none :: zg_tb) qR364).room s m args below meth c Q qK D base Hb 6 prog_14_method_41_code qP364 qC364.2.2.2.2 := by
  have S : CallFix p m c prog_14_method_41_code 6 s args (Jvm.Cond.code yX12_clause prog_14_method_41_code 6 none :: zg_tb) RX12 := ⟨B.exec, B.bytes, hml, findClass_of_methodNamed B.named, atoms_spec (ws := (Jvm.Cond.code yX12_clause prog_14_method_41_code 6 none :: zg_tb)) B.pre⟩
  exact ⟨List.forall_mem_cons.mpr ⟨zg_gp S (hK.2.1 12 _ rfl) (fun w h => (List.mem_cons_of_mem _ (zc12 w h))) rfl zt12_10 (List.mem_cons_of_mem _ zw5_169) rfl, List.forall_mem_cons.mpr ⟨zg_gp S (hK.2.1 12 _ rfl) (fun w h => (List.mem_cons_of_mem _ (zc12 w h))) rfl zt12_25 (List.mem_cons_of_mem _ zw5_184) rfl, List.forall_mem_cons.mpr ⟨zg_gp S (hK.2.1 12 _ rfl) (fun w h => (List.mem_cons_of_mem _ (zc12 w h))) rfl zt12_11 (List.mem_cons_of_mem _ zw5_170) rfl, List.forall_mem_cons.mpr ⟨zg_gp4 S (hK.2.1 12 _ rfl) (fun w h => (List.mem_cons_of_mem _ (zc12 w h))) rfl zt12_18 (List.mem_cons_of_mem _ zw5_177), fun _ h => absurd h List.not_mem_nil⟩⟩⟩⟩,
    fun _ h => absurd h List.not_mem_nil,
    fun _ h => absurd h List.not_mem_nil,
    fun _ h => absurd h List.not_mem_nil,
    fun h => absurd rfl h,
    fun _ h => absurd h List.not_mem_nil,
    List.forall_mem_cons.mpr ⟨zg_callV (fun w h => List.mem_cons_of_mem _ h) zg_tb_all S hK zg_Km qm193 zw6_232 zy_yX12_look_V (ci := 12) (by decide +kernel) (hK.2.1 12 _ rfl).2.1 ⟨rfl, rfl⟩ (zk_dg_ok qdo_14_41 (by decide +kernel)), List.forall_mem_cons.mpr ⟨zg_callS (fun w h => List.mem_cons_of_mem _ h) zg_tb_all S hK zg_Km qm194 zw6_236 zy_yX12_isLabel_S (by decide +kernel) ⟨rfl, rfl⟩ (zk_dg_ok qdo_14_41 (by decide +kernel)), List.forall_mem_cons.mpr ⟨zg_callV (fun w h => List.mem_cons_of_mem _ h) zg_tb_all S hK zg_Km qm172 zw6_220 zy_yX12_bad_V (ci := 12) (by decide +kernel) (hK.2.1 12 _ rfl).2.1 ⟨rfl, rfl⟩ (zk_dg_ok qdo_14_41 (by decide +kernel)), List.forall_mem_cons.mpr ⟨zg_callV (fun w h => List.mem_cons_of_mem _ h) zg_tb_all S hK zg_Km qm193 zw6_232 zy_yX12_look_V (ci := 12) (by decide +kernel) (hK.2.1 12 _ rfl).2.1 ⟨rfl, rfl⟩ (zk_dg_ok qdo_14_41 (by decide +kernel)), List.forall_mem_cons.mpr ⟨zg_callV (fun w h => List.mem_cons_of_mem _ h) zg_tb_all S hK zg_Km qm172 zw6_220 zy_yX12_bad_V (ci := 12) (by decide +kernel) (hK.2.1 12 _ rfl).2.1 ⟨rfl, rfl⟩ (zk_dg_ok qdo_14_41 (by decide +kernel)), List.forall_mem_cons.mpr ⟨zg_callV (fun w h => List.mem_cons_of_mem _ h) zg_tb_all S hK zg_Km qm195 zw6_239 zy_yX12_say_V (ci := 12) (by decide +kernel) (hK.2.1 12 _ rfl).2.1 ⟨rfl, rfl⟩ (zk_dg_ok qdo_14_41 (by decide +kernel)), List.forall_mem_cons.mpr ⟨zg_callV (fun w h => List.mem_cons_of_mem _ h) zg_tb_all S hK zg_Km qm193 zw6_232 zy_yX12_look_V (ci := 12) (by decide +kernel) (hK.2.1 12 _ rfl).2.1 ⟨rfl, rfl⟩ (zk_dg_ok qdo_14_41 (by decide +kernel)), List.forall_mem_cons.mpr ⟨zg_callV (fun w h => List.mem_cons_of_mem _ h) zg_tb_all S hK zg_Km qm257 zw7_3 zy_yX12_sum_V (ci := 12) (by decide +kernel) (hK.2.1 12 _ rfl).2.1 ⟨rfl, rfl⟩ (zk_dg_ok qdo_14_41 (by decide +kernel)), List.forall_mem_cons.mpr ⟨zg_callV (fun w h => List.mem_cons_of_mem _ h) zg_tb_all S hK zg_Km qm193 zw6_232 zy_yX12_look_V (ci := 12) (by decide +kernel) (hK.2.1 12 _ rfl).2.1 ⟨rfl, rfl⟩ (zk_dg_ok qdo_14_41 (by decide +kernel)), List.forall_mem_cons.mpr ⟨zg_callS (fun w h => List.mem_cons_of_mem _ h) zg_tb_all S hK zg_Km qm258 zw7_30 zy_yX12_isSign_S (by decide +kernel) ⟨rfl, rfl⟩ (zk_dg_ok qdo_14_41 (by decide +kernel)), List.forall_mem_cons.mpr ⟨zg_callV (fun w h => List.mem_cons_of_mem _ h) zg_tb_all S hK zg_Km qm259 zw6_239 zy_yX12_say_V (ci := 12) (by decide +kernel) (hK.2.1 12 _ rfl).2.1 ⟨rfl, rfl⟩ (zk_dg_ok qdo_14_41 (by decide +kernel)), List.forall_mem_cons.mpr ⟨zg_callV (fun w h => List.mem_cons_of_mem _ h) zg_tb_all S hK zg_Km qm326 zw7_33 zy_yX12_condition_V (ci := 12) (by decide +kernel) (hK.2.1 12 _ rfl).2.1 ⟨rfl, rfl⟩ (zk_dg_ok qdo_14_41 (by decide +kernel)), List.forall_mem_cons.mpr ⟨zg_callV (fun w h => List.mem_cons_of_mem _ h) zg_tb_all S hK zg_Km qm328 zw7_33 zy_yX12_condition_V (ci := 12) (by decide +kernel) (hK.2.1 12 _ rfl).2.1 ⟨rfl, rfl⟩ (zk_dg_ok qdo_14_41 (by decide +kernel)), List.forall_mem_cons.mpr ⟨zg_callV (fun w h => List.mem_cons_of_mem _ h) zg_tb_all S hK zg_Km qm193 zw6_232 zy_yX12_look_V (ci := 12) (by decide +kernel) (hK.2.1 12 _ rfl).2.1 ⟨rfl, rfl⟩ (zk_dg_ok qdo_14_41 (by decide +kernel)), List.forall_mem_cons.mpr ⟨zg_callV (fun w h => List.mem_cons_of_mem _ h) zg_tb_all S hK zg_Km qm172 zw6_220 zy_yX12_bad_V (ci := 12) (by decide +kernel) (hK.2.1 12 _ rfl).2.1 ⟨rfl, rfl⟩ (zk_dg_ok qdo_14_41 (by decide +kernel)), List.forall_mem_cons.mpr ⟨zg_callV (fun w h => List.mem_cons_of_mem _ h) zg_tb_all S hK zg_Km qm329 zw6_239 zy_yX12_say_V (ci := 12) (by decide +kernel) (hK.2.1 12 _ rfl).2.1 ⟨rfl, rfl⟩ (zk_dg_ok qdo_14_41 (by decide +kernel)), List.forall_mem_cons.mpr ⟨zg_callV (fun w h => List.mem_cons_of_mem _ h) zg_tb_all S hK zg_Km qm363 zw7_3 zy_yX12_sum_V (ci := 12) (by decide +kernel) (hK.2.1 12 _ rfl).2.1 ⟨rfl, rfl⟩ (zk_dg_ok qdo_14_41 (by decide +kernel)), List.forall_mem_cons.mpr ⟨zg_callV (fun w h => List.mem_cons_of_mem _ h) zg_tb_all S hK zg_Km qm259 zw6_239 zy_yX12_say_V (ci := 12) (by decide +kernel) (hK.2.1 12 _ rfl).2.1 ⟨rfl, rfl⟩ (zk_dg_ok qdo_14_41 (by decide +kernel)), List.forall_mem_cons.mpr ⟨zg_callV (fun w h => List.mem_cons_of_mem _ h) zg_tb_all S hK zg_Km qm211 zw6_239 zy_yX12_say_V (ci := 12) (by decide +kernel) (hK.2.1 12 _ rfl).2.1 ⟨rfl, rfl⟩ (zk_dg_ok qdo_14_41 (by decide +kernel)), fun _ h => absurd h List.not_mem_nil⟩⟩⟩⟩⟩⟩⟩⟩⟩⟩⟩⟩⟩⟩⟩⟩⟩⟩⟩⟩
set_option maxRecDepth 100000 in
theorem qm364 {l : Launch} {D : zk_D} {base : Nat} {Hb : Heap} : zk_Met l qK D base Hb (zg_K D base Hb) yX12_clause (Jvm.Cond.code yX12_clause prog_14_method_41_code 6 none :: zg_tb) qR364 qC364 :=
  zk_met (ws' := zg_tb) (P := qP364) (AT := zg_AT) (by decide +kernel) rfl rfl rfl qk364 (fun s hK => zg_wd hK) (fun p e s m args below meth c s₁ Q B hml hK => qo364 B hml hK) (fun p e s m args below meth c s₁ v G0 H0 B hml hK ha hp0 hF0 q hq G H locs ls vs v' hp he hl hF hL => by
    have hq := List.mem_singleton.mp hq
    subst hq
    exact zq_cl_x (x := qX364.2.1) (sy := 10) (tl := 7) (gz := 9) (kM := qn_M) (kS := qn_saying) (kC := qn_codes) (kT := qn_textSize) (kP := qn_SC) (kA := qn_pickAt) (ci := 12) (iS := 35) (iD := 240) (hi := 420) (l0 := 3) (h0 := 317) (lI := 6) (hI := 320) B.exec B.bytes (zg_wd hK) (qo364 B hml hK) rfl rfl B.returns B.notSynchronized (fun t h => h) hK.1.2.2 (by decide +kernel) (zq_ne hK) (by decide +kernel) (by decide +kernel) (by decide +kernel) zq_qM zq_qS zq_18 zq_lo zq_hs zq_hi qd_clause_112 qd_clause_113 qd_clause_116 qd_clause_117 qd_clause_118 qd_clause_120 qd_clause_122 qd_clause_124 qd_clause_127 qd_clause_128 qd_clause_131 qd_clause_133 qd_clause_134 qd_clause_135 qd_clause_136 qd_clause_139 qd_clause_141 qd_clause_142 qd_clause_143 qd_clause_146 qd_clause_149 qd_clause_150 qd_clause_153 qd_clause_155 qd_clause_156 qd_clause_157 qd_clause_158 qd_clause_161 qd_clause_163 qd_clause_164 qd_clause_165 qd_clause_166 qd_clause_167 qd_clause_168 qd_clause_171 qd_clause_173 qd_clause_174 qd_clause_175 qd_clause_176 qd_clause_177 qd_clause_178 qd_clause_179 qd_clause_182 qd_clause_183 qd_clause_184 rfl rfl rfl (by decide +kernel) (by decide +kernel) (by decide +kernel) (by decide +kernel) (by decide +kernel) (by decide +kernel) (by decide) rfl rfl qh364 hp he hl hF hL)
set_option maxRecDepth 100000 in
def qR365 : Room := { frames := 30, cells := 0, slots := 0, locals := 632 }
set_option maxHeartbeats 4000000 in
set_option maxRecDepth 100000 in
theorem qo365 {p : Program} {l : Launch} {e : Env} {s : State} {m : MethodId} {args : Array Value} {below : List Frame} {meth : Method} {c : Code} {s₁ : State} {Q : State → Prop} {D : zk_D} {base : Nat} {Hb : Heap} (B : BodyLoose p l yX12_ruleFault (headSpec (Jvm.Cond.code yX12_ruleFault prog_14_method_42_code 1 (some .int) :: zg_tb) qR365) prog_14_method_42_code 1 (some .int) e s m args below meth c s₁) (hml : c.maxLocals = 1) (hK : zg_K D base Hb s) : zk_ok p l e (headSpec (Jvm.Cond.code yX12_ruleFault prog_14_method_42_code 1 (some .int) :: zg_tb) qR365).room s m args below meth c Q qK D base Hb 1 prog_14_method_42_code qP365 qC365.2.2.2.2 := by
  have S : CallFix p m c prog_14_method_42_code 1 s args (Jvm.Cond.code yX12_ruleFault prog_14_method_42_code 1 (some .int) :: zg_tb) RX12 := ⟨B.exec, B.bytes, hml, findClass_of_methodNamed B.named, atoms_spec (ws := (Jvm.Cond.code yX12_ruleFault prog_14_method_42_code 1 (some .int) :: zg_tb)) B.pre⟩
  exact ⟨List.forall_mem_cons.mpr ⟨zg_gp S (hK.2.1 12 _ rfl) (fun w h => (List.mem_cons_of_mem _ (zc12 w h))) rfl zt12_10 (List.mem_cons_of_mem _ zw5_169) rfl, List.forall_mem_cons.mpr ⟨zg_gp S (hK.2.1 12 _ rfl) (fun w h => (List.mem_cons_of_mem _ (zc12 w h))) rfl zt12_11 (List.mem_cons_of_mem _ zw5_170) rfl, List.forall_mem_cons.mpr ⟨zg_gp S (hK.2.1 12 _ rfl) (fun w h => (List.mem_cons_of_mem _ (zc12 w h))) rfl zt12_12 (List.mem_cons_of_mem _ zw5_171) rfl, List.forall_mem_cons.mpr ⟨zg_gp S (hK.2.1 12 _ rfl) (fun w h => (List.mem_cons_of_mem _ (zc12 w h))) rfl zt12_25 (List.mem_cons_of_mem _ zw5_184) rfl, fun _ h => absurd h List.not_mem_nil⟩⟩⟩⟩,
    fun _ h => absurd h List.not_mem_nil,
    fun _ h => absurd h List.not_mem_nil,
    fun _ h => absurd h List.not_mem_nil,
    fun h => absurd rfl h,
    fun _ h => absurd h List.not_mem_nil,
    List.forall_mem_cons.mpr ⟨zg_callV (fun w h => List.mem_cons_of_mem _ h) zg_tb_all S hK zg_Km qm364 zw6_228 zy_yX12_clause_V (ci := 12) (by decide +kernel) (hK.2.1 12 _ rfl).2.1 ⟨rfl, rfl⟩ (zk_dg_ok qdo_14_42 (by decide +kernel)), List.forall_mem_cons.mpr ⟨zg_callV (fun w h => List.mem_cons_of_mem _ h) zg_tb_all S hK zg_Km qm193 zw6_232 zy_yX12_look_V (ci := 12) (by decide +kernel) (hK.2.1 12 _ rfl).2.1 ⟨rfl, rfl⟩ (zk_dg_ok qdo_14_42 (by decide +kernel)), List.forall_mem_cons.mpr ⟨zg_callV (fun w h => List.mem_cons_of_mem _ h) zg_tb_all S hK zg_Km qm364 zw6_228 zy_yX12_clause_V (ci := 12) (by decide +kernel) (hK.2.1 12 _ rfl).2.1 ⟨rfl, rfl⟩ (zk_dg_ok qdo_14_42 (by decide +kernel)), List.forall_mem_cons.mpr ⟨zg_callV (fun w h => List.mem_cons_of_mem _ h) zg_tb_all S hK zg_Km qm193 zw6_232 zy_yX12_look_V (ci := 12) (by decide +kernel) (hK.2.1 12 _ rfl).2.1 ⟨rfl, rfl⟩ (zk_dg_ok qdo_14_42 (by decide +kernel)), List.forall_mem_cons.mpr ⟨zg_callV (fun w h => List.mem_cons_of_mem _ h) zg_tb_all S hK zg_Km qm172 zw6_220 zy_yX12_bad_V (ci := 12) (by decide +kernel) (hK.2.1 12 _ rfl).2.1 ⟨rfl, rfl⟩ (zk_dg_ok qdo_14_42 (by decide +kernel)), fun _ h => absurd h List.not_mem_nil⟩⟩⟩⟩⟩⟩
set_option maxRecDepth 100000 in
theorem qm365 {l : Launch} {D : zk_D} {base : Nat} {Hb : Heap} : zk_Met l qK D base Hb (zg_K D base Hb) yX12_ruleFault (Jvm.Cond.code yX12_ruleFault prog_14_method_42_code 1 (some .int) :: zg_tb) qR365 qC365 :=
  zk_met (ws' := zg_tb) (P := qP365) (AT := zg_AT) (by decide +kernel) rfl rfl rfl qk365 (fun s hK => zg_wd hK) (fun p e s m args below meth c s₁ Q B hml hK => qo365 B hml hK) (fun p e s m args below meth c s₁ v G0 H0 B hml hK ha hp0 hF0 q hq G H locs ls vs v' hp he hl hF hL => by
    have hq := List.mem_singleton.mp hq
    subst hq
    exact zk_from (q0 := qG365) (hd := qH365) (xs := []) B.exec B.bytes (zg_wd hK) (qo365 B hml hK) rfl rfl B.returns B.notSynchronized (fun t h => h) qg365 (fun q hq => absurd hq List.not_mem_nil) hp he hl (zq_beg1 (x := qX365.2.1) (sy := 4) (kM := qn_M) (kS := qn_saying) (kC := qn_codes) (kT := qn_textSize) (kP := qn_SC) (kA := qn_pickAt) hK.1.2.2 zq_qM zq_18 (by decide +kernel) (by decide +kernel) (by decide +kernel) hp hF) (zk_LS_af (fs := [(0, 1001, 4)]) (ns := []) (ps := []) hL))
set_option maxRecDepth 100000 in
def qR366 : Room := { frames := 31, cells := 0, slots := 0, locals := 652 }
set_option maxHeartbeats 4000000 in
set_option maxRecDepth 100000 in
theorem qo366 {p : Program} {l : Launch} {e : Env} {s : State} {m : MethodId} {args : Array Value} {below : List Frame} {meth : Method} {c : Code} {s₁ : State} {Q : State → Prop} {D : zk_D} {base : Nat} {Hb : Heap} (B : BodyLoose p l yX12_fault (headSpec (Jvm.Cond.code yX12_fault prog_14_method_43_code 2 (some .int) :: zg_tb) qR366) prog_14_method_43_code 2 (some .int) e s m args below meth c s₁) (hml : c.maxLocals = 2) (hK : zg_K D base Hb s) : zk_ok p l e (headSpec (Jvm.Cond.code yX12_fault prog_14_method_43_code 2 (some .int) :: zg_tb) qR366).room s m args below meth c Q qK D base Hb 2 prog_14_method_43_code qP366 qC366.2.2.2.2 := by
  have S : CallFix p m c prog_14_method_43_code 2 s args (Jvm.Cond.code yX12_fault prog_14_method_43_code 2 (some .int) :: zg_tb) RX12 := ⟨B.exec, B.bytes, hml, findClass_of_methodNamed B.named, atoms_spec (ws := (Jvm.Cond.code yX12_fault prog_14_method_43_code 2 (some .int) :: zg_tb)) B.pre⟩
  exact ⟨fun _ h => absurd h List.not_mem_nil,
    fun _ h => absurd h List.not_mem_nil,
    fun _ h => absurd h List.not_mem_nil,
    fun _ h => absurd h List.not_mem_nil,
    fun h => absurd rfl h,
    fun _ h => absurd h List.not_mem_nil,
    List.forall_mem_cons.mpr ⟨zg_callV (fun w h => List.mem_cons_of_mem _ h) zg_tb_all S hK zg_Km qm192 zw6_179 zy_yX12_textFault_V (ci := 12) (by decide +kernel) (hK.2.1 12 _ rfl).2.1 ⟨rfl, rfl⟩ (zk_dg_ok qdo_14_43 (by decide +kernel)), List.forall_mem_cons.mpr ⟨zg_callV (fun w h => List.mem_cons_of_mem _ h) zg_tb_all S hK zg_Km qm365 zw6_224 zy_yX12_ruleFault_V (ci := 12) (by decide +kernel) (hK.2.1 12 _ rfl).2.1 ⟨rfl, rfl⟩ (zk_dg_ok qdo_14_43 (by decide +kernel)), fun _ h => absurd h List.not_mem_nil⟩⟩⟩
set_option maxRecDepth 100000 in
theorem qm366 {l : Launch} {D : zk_D} {base : Nat} {Hb : Heap} : zk_Met l qK D base Hb (zg_K D base Hb) yX12_fault (Jvm.Cond.code yX12_fault prog_14_method_43_code 2 (some .int) :: zg_tb) qR366 qC366 := zk_met (ws' := zg_tb) (P := qP366) (AT := zg_AT) zpn_X12 rfl rfl rfl qk366 (fun s hK => zg_wd hK) (fun p e s m args below meth c s₁ Q B hml hK => qo366 B hml hK) (fun p e s m args below meth c s₁ v G0 H0 B hml hK ha hp hF q hq => absurd hq List.not_mem_nil)
set_option maxRecDepth 100000 in
def qR367 : Room := { frames := 1, cells := 0, slots := 0, locals := 20 }
set_option maxHeartbeats 4000000 in
set_option maxRecDepth 100000 in
theorem qo367 {p : Program} {l : Launch} {e : Env} {s : State} {m : MethodId} {args : Array Value} {below : List Frame} {meth : Method} {c : Code} {s₁ : State} {Q : State → Prop} {D : zk_D} {base : Nat} {Hb : Heap} (B : BodyLoose p l yX11_hasList (headSpec (Jvm.Cond.code yX11_hasList prog_1_method_40_code 2 (some .boolean) :: zg_tb) qR367) prog_1_method_40_code 2 (some .boolean) e s m args below meth c s₁) (hml : c.maxLocals = 2) (hK : zg_K D base Hb s) : zk_ok p l e (headSpec (Jvm.Cond.code yX11_hasList prog_1_method_40_code 2 (some .boolean) :: zg_tb) qR367).room s m args below meth c Q qK D base Hb 2 prog_1_method_40_code qP367 qC367.2.2.2.2 := by
  have S : CallFix p m c prog_1_method_40_code 2 s args (Jvm.Cond.code yX11_hasList prog_1_method_40_code 2 (some .boolean) :: zg_tb) RX11 := ⟨B.exec, B.bytes, hml, findClass_of_methodNamed B.named, atoms_spec (ws := (Jvm.Cond.code yX11_hasList prog_1_method_40_code 2 (some .boolean) :: zg_tb)) B.pre⟩
  exact ⟨List.forall_mem_cons.mpr ⟨zg_gp S (hK.2.1 11 _ rfl) (fun w h => (List.mem_cons_of_mem _ (zc11 w h))) rfl zt11_14 (List.mem_cons_of_mem _ zw2_67) rfl, fun _ h => absurd h List.not_mem_nil⟩,
    fun _ h => absurd h List.not_mem_nil,
    fun _ h => absurd h List.not_mem_nil,
    fun _ h => absurd h List.not_mem_nil,
    fun h => absurd rfl h,
    fun _ h => absurd h List.not_mem_nil,
    fun _ h => absurd h List.not_mem_nil⟩
set_option maxRecDepth 100000 in
theorem qm367 {l : Launch} {D : zk_D} {base : Nat} {Hb : Heap} : zk_Met l qK D base Hb (zg_K D base Hb) yX11_hasList (Jvm.Cond.code yX11_hasList prog_1_method_40_code 2 (some .boolean) :: zg_tb) qR367 qC367 := zk_met (ws' := zg_tb) (P := qP367) (AT := zg_AT) zpn_X11 rfl rfl rfl qk367 (fun s hK => zg_wd hK) (fun p e s m args below meth c s₁ Q B hml hK => qo367 B hml hK) (fun p e s m args below meth c s₁ v G0 H0 B hml hK ha hp hF q hq => absurd hq List.not_mem_nil)
set_option maxRecDepth 100000 in
def qR368 : Room := { frames := 2, cells := 0, slots := 0, locals := 41 }
set_option maxHeartbeats 4000000 in
set_option maxRecDepth 100000 in
theorem qo368 {p : Program} {l : Launch} {e : Env} {s : State} {m : MethodId} {args : Array Value} {below : List Frame} {meth : Method} {c : Code} {s₁ : State} {Q : State → Prop} {D : zk_D} {base : Nat} {Hb : Heap} (B : BodyLoose p l yX11_hasRuler (headSpec (Jvm.Cond.code yX11_hasRuler prog_1_method_41_code 3 (some .boolean) :: zg_tb) qR368) prog_1_method_41_code 3 (some .boolean) e s m args below meth c s₁) (hml : c.maxLocals = 3) (hK : zg_K D base Hb s) : zk_ok p l e (headSpec (Jvm.Cond.code yX11_hasRuler prog_1_method_41_code 3 (some .boolean) :: zg_tb) qR368).room s m args below meth c Q qK D base Hb 3 prog_1_method_41_code qP368 qC368.2.2.2.2 := by
  have S : CallFix p m c prog_1_method_41_code 3 s args (Jvm.Cond.code yX11_hasRuler prog_1_method_41_code 3 (some .boolean) :: zg_tb) RX11 := ⟨B.exec, B.bytes, hml, findClass_of_methodNamed B.named, atoms_spec (ws := (Jvm.Cond.code yX11_hasRuler prog_1_method_41_code 3 (some .boolean) :: zg_tb)) B.pre⟩
  exact ⟨List.forall_mem_cons.mpr ⟨zg_gp4 S (hK.2.1 11 _ rfl) (fun w h => (List.mem_cons_of_mem _ (zc11 w h))) rfl zt11_0 (List.mem_cons_of_mem _ zw2_53), fun _ h => absurd h List.not_mem_nil⟩,
    fun _ h => absurd h List.not_mem_nil,
    fun _ h => absurd h List.not_mem_nil,
    fun _ h => absurd h List.not_mem_nil,
    fun h => absurd rfl h,
    fun _ h => absurd h List.not_mem_nil,
    List.forall_mem_cons.mpr ⟨zg_callV (fun w h => List.mem_cons_of_mem _ h) zg_tb_all S hK zg_Km qm367 zw3_73 zy_yX11_hasList_V (ci := 11) (by decide +kernel) (hK.2.1 11 _ rfl).2.1 ⟨rfl, rfl⟩ (zk_dg_ok qdo_1_41 (by decide +kernel)), List.forall_mem_cons.mpr ⟨zg_callV (fun w h => List.mem_cons_of_mem _ h) zg_tb_all S hK zg_Km qm16 zw2_117 zy_yX4_hasHouse_V (ci := 4) (by decide +kernel) (hK.2.1 4 _ rfl).2.1 ⟨rfl, rfl⟩ (zk_dg_ok qdo_1_41 (by decide +kernel)), fun _ h => absurd h List.not_mem_nil⟩⟩⟩
set_option maxRecDepth 100000 in
theorem qm368 {l : Launch} {D : zk_D} {base : Nat} {Hb : Heap} : zk_Met l qK D base Hb (zg_K D base Hb) yX11_hasRuler (Jvm.Cond.code yX11_hasRuler prog_1_method_41_code 3 (some .boolean) :: zg_tb) qR368 qC368 := zk_met (ws' := zg_tb) (P := qP368) (AT := zg_AT) zpn_X11 rfl rfl rfl qk368 (fun s hK => zg_wd hK) (fun p e s m args below meth c s₁ Q B hml hK => qo368 B hml hK) (fun p e s m args below meth c s₁ v G0 H0 B hml hK ha hp hF q hq => absurd hq List.not_mem_nil)
set_option maxRecDepth 100000 in
def qR369 : Room := { frames := 1, cells := 0, slots := 0, locals := 20 }
set_option maxHeartbeats 4000000 in
set_option maxRecDepth 100000 in
theorem qo369 {p : Program} {l : Launch} {e : Env} {s : State} {m : MethodId} {args : Array Value} {below : List Frame} {meth : Method} {c : Code} {s₁ : State} {Q : State → Prop} {D : zk_D} {base : Nat} {Hb : Heap} (B : BodyLoose p l yX5_isFull (headSpec (Jvm.Cond.code yX5_isFull prog_7_method_2_code 1 (some .boolean) :: zg_tb) qR369) prog_7_method_2_code 1 (some .boolean) e s m args below meth c s₁) (hml : c.maxLocals = 1) (hK : zg_K D base Hb s) : zk_ok p l e (headSpec (Jvm.Cond.code yX5_isFull prog_7_method_2_code 1 (some .boolean) :: zg_tb) qR369).room s m args below meth c Q qK D base Hb 1 prog_7_method_2_code qP369 qC369.2.2.2.2 := by
  have S : CallFix p m c prog_7_method_2_code 1 s args (Jvm.Cond.code yX5_isFull prog_7_method_2_code 1 (some .boolean) :: zg_tb) RX5 := ⟨B.exec, B.bytes, hml, findClass_of_methodNamed B.named, atoms_spec (ws := (Jvm.Cond.code yX5_isFull prog_7_method_2_code 1 (some .boolean) :: zg_tb)) B.pre⟩
  exact ⟨List.forall_mem_cons.mpr ⟨zg_gp S (hK.2.1 5 _ rfl) (fun w h => (List.mem_cons_of_mem _ (zc5 w h))) rfl zt5_5 (List.mem_cons_of_mem _ zw1_184) rfl, fun _ h => absurd h List.not_mem_nil⟩,
    fun _ h => absurd h List.not_mem_nil,
    fun _ h => absurd h List.not_mem_nil,
    fun _ h => absurd h List.not_mem_nil,
    fun h => absurd rfl h,
    fun _ h => absurd h List.not_mem_nil,
    fun _ h => absurd h List.not_mem_nil⟩
set_option maxRecDepth 100000 in
theorem qm369 {l : Launch} {D : zk_D} {base : Nat} {Hb : Heap} : zk_Met l qK D base Hb (zg_K D base Hb) yX5_isFull (Jvm.Cond.code yX5_isFull prog_7_method_2_code 1 (some .boolean) :: zg_tb) qR369 qC369 := zk_met (ws' := zg_tb) (P := qP369) (AT := zg_AT) zpn_X5 rfl rfl rfl qk369 (fun s hK => zg_wd hK) (fun p e s m args below meth c s₁ Q B hml hK => qo369 B hml hK) (fun p e s m args below meth c s₁ v G0 H0 B hml hK ha hp hF q hq => absurd hq List.not_mem_nil)
set_option maxRecDepth 100000 in
def qR371 : Room := { frames := 3, cells := 1, slots := 320, locals := 82 }
set_option maxHeartbeats 4000000 in
set_option maxRecDepth 100000 in
theorem qo371 {p : Program} {l : Launch} {e : Env} {s : State} {m : MethodId} {args : Array Value} {below : List Frame} {meth : Method} {c : Code} {s₁ : State} {Q : State → Prop} {D : zk_D} {base : Nat} {Hb : Heap} (B : BodyLoose p l yX6_takeCode (headSpec (Jvm.Cond.code yX6_takeCode prog_8_method_3_code 1 (some (.array .int)) :: zg_tb) qR371) prog_8_method_3_code 1 (some (.array .int)) e s m args below meth c s₁) (hml : c.maxLocals = 1) (hK : zg_K D base Hb s) : zk_ok p l e (headSpec (Jvm.Cond.code yX6_takeCode prog_8_method_3_code 1 (some (.array .int)) :: zg_tb) qR371).room s m args below meth c Q qK D base Hb 1 prog_8_method_3_code qP371 qC371.2.2.2.2 := by
  have S : CallFix p m c prog_8_method_3_code 1 s args (Jvm.Cond.code yX6_takeCode prog_8_method_3_code 1 (some (.array .int)) :: zg_tb) RX6 := ⟨B.exec, B.bytes, hml, findClass_of_methodNamed B.named, atoms_spec (ws := (Jvm.Cond.code yX6_takeCode prog_8_method_3_code 1 (some (.array .int)) :: zg_tb)) B.pre⟩
  exact ⟨List.forall_mem_cons.mpr ⟨zg_gp4 S (hK.2.1 6 _ rfl) (fun w h => (List.mem_cons_of_mem _ (zc6 w h))) rfl zt6_0 (List.mem_cons_of_mem _ zw1_116), List.forall_mem_cons.mpr ⟨zg_gp S (hK.2.1 6 _ rfl) (fun w h => (List.mem_cons_of_mem _ (zc6 w h))) rfl zt6_2 (List.mem_cons_of_mem _ zw1_118) rfl, fun _ h => absurd h List.not_mem_nil⟩⟩,
    fun _ h => absurd h List.not_mem_nil,
    fun _ h => absurd h List.not_mem_nil,
    fun _ h => absurd h List.not_mem_nil,
    fun h => absurd rfl h,
    fun _ h => absurd h List.not_mem_nil,
    List.forall_mem_cons.mpr ⟨zg_callS (fun w h => List.mem_cons_of_mem _ h) zg_tb_all S hK zg_Km qm370 zw3_85 zy_yJ7_copyOf_59c91_S (by decide +kernel) ⟨rfl, rfl⟩ (zk_dg_ok qdo_8_3 (by decide +kernel)), fun _ h => absurd h List.not_mem_nil⟩⟩
set_option maxRecDepth 100000 in
theorem qm371 {l : Launch} {D : zk_D} {base : Nat} {Hb : Heap} : zk_Met l qK D base Hb (zg_K D base Hb) yX6_takeCode (Jvm.Cond.code yX6_takeCode prog_8_method_3_code 1 (some (.array .int)) :: zg_tb) qR371 qC371 := zk_met (ws' := zg_tb) (P := qP371) (AT := zg_AT) zpn_X6 rfl rfl rfl qk371 (fun s hK => zg_wd hK) (fun p e s m args below meth c s₁ Q B hml hK => qo371 B hml hK) (fun p e s m args below meth c s₁ v G0 H0 B hml hK ha hp hF q hq => absurd hq List.not_mem_nil)
set_option maxRecDepth 100000 in
def qR372 : Room := { frames := 2, cells := 0, slots := 0, locals := 40 }
set_option maxHeartbeats 4000000 in
set_option maxRecDepth 100000 in
theorem qo372 {p : Program} {l : Launch} {e : Env} {s : State} {m : MethodId} {args : Array Value} {below : List Frame} {meth : Method} {c : Code} {s₁ : State} {Q : State → Prop} {D : zk_D} {base : Nat} {Hb : Heap} (B : BodyLoose p l yX5_add (headSpec (Jvm.Cond.code yX5_add prog_7_method_3_code 6 (some .int) :: zg_tb) qR372) prog_7_method_3_code 6 (some .int) e s m args below meth c s₁) (hml : c.maxLocals = 6) (hK : zg_K D base Hb s) : zk_ok p l e (headSpec (Jvm.Cond.code yX5_add prog_7_method_3_code 6 (some .int) :: zg_tb) qR372).room s m args below meth c Q qK D base Hb 6 prog_7_method_3_code qP372 qC372.2.2.2.2 := by
  have S : CallFix p m c prog_7_method_3_code 6 s args (Jvm.Cond.code yX5_add prog_7_method_3_code 6 (some .int) :: zg_tb) RX5 := ⟨B.exec, B.bytes, hml, findClass_of_methodNamed B.named, atoms_spec (ws := (Jvm.Cond.code yX5_add prog_7_method_3_code 6 (some .int) :: zg_tb)) B.pre⟩
  exact ⟨List.forall_mem_cons.mpr ⟨zg_gp4 S (hK.2.1 5 _ rfl) (fun w h => (List.mem_cons_of_mem _ (zc5 w h))) rfl zt5_0 (List.mem_cons_of_mem _ zw1_179), List.forall_mem_cons.mpr ⟨zg_gp S (hK.2.1 5 _ rfl) (fun w h => (List.mem_cons_of_mem _ (zc5 w h))) rfl zt5_5 (List.mem_cons_of_mem _ zw1_184) rfl, List.forall_mem_cons.mpr ⟨zg_gp4 S (hK.2.1 5 _ rfl) (fun w h => (List.mem_cons_of_mem _ (zc5 w h))) rfl zt5_1 (List.mem_cons_of_mem _ zw1_180), List.forall_mem_cons.mpr ⟨zg_gp4 S (hK.2.1 5 _ rfl) (fun w h => (List.mem_cons_of_mem _ (zc5 w h))) rfl zt5_2 (List.mem_cons_of_mem _ zw1_181), List.forall_mem_cons.mpr ⟨zg_gp4 S (hK.2.1 5 _ rfl) (fun w h => (List.mem_cons_of_mem _ (zc5 w h))) rfl zt5_3 (List.mem_cons_of_mem _ zw1_182), List.forall_mem_cons.mpr ⟨zg_gp4 S (hK.2.1 5 _ rfl) (fun w h => (List.mem_cons_of_mem _ (zc5 w h))) rfl zt5_4 (List.mem_cons_of_mem _ zw1_183), fun _ h => absurd h List.not_mem_nil⟩⟩⟩⟩⟩⟩,
    List.forall_mem_cons.mpr ⟨zg_sokA (g := 0) S (hK.2.2.2.1 (10, _) (List.mem_of_getElem? (i := 5) rfl)) (hK.2.2.2.2.2.2.1 _ (List.mem_of_getElem? (i := 0) rfl)) (hK.2.2.2.1 (0, _) (List.mem_of_getElem? (i := 0) rfl)) (by decide +kernel) (by decide +kernel), fun _ h => absurd h List.not_mem_nil⟩,
    fun _ h => absurd h List.not_mem_nil,
    fun _ h => absurd h List.not_mem_nil,
    fun h => absurd rfl h,
    fun _ h => absurd h List.not_mem_nil,
    List.forall_mem_cons.mpr ⟨zg_callV (fun w h => List.mem_cons_of_mem _ h) zg_tb_all S hK zg_Km qm369 zw3_103 zy_yX5_isFull_V (ci := 5) (by decide +kernel) (hK.2.1 5 _ rfl).2.1 ⟨rfl, rfl⟩ (zk_dg_ok qdo_7_3 (by decide +kernel)), fun _ h => absurd h List.not_mem_nil⟩⟩
set_option maxRecDepth 100000 in
theorem qm372 {l : Launch} {D : zk_D} {base : Nat} {Hb : Heap} : zk_Met l qK D base Hb (zg_K D base Hb) yX5_add (Jvm.Cond.code yX5_add prog_7_method_3_code 6 (some .int) :: zg_tb) qR372 qC372 := zk_met (ws' := zg_tb) (P := qP372) (AT := zg_AT) zpn_X5 rfl rfl rfl qk372 (fun s hK => zg_wd hK) (fun p e s m args below meth c s₁ Q B hml hK => qo372 B hml hK) (fun p e s m args below meth c s₁ v G0 H0 B hml hK ha hp hF q hq => absurd hq List.not_mem_nil)
set_option maxRecDepth 100000 in
def qR373 : Room := { frames := 31, cells := 1, slots := 320, locals := 715 }
set_option maxHeartbeats 4000000 in
set_option maxRecDepth 100000 in
theorem qo373 {p : Program} {l : Launch} {e : Env} {s : State} {m : MethodId} {args : Array Value} {below : List Frame} {meth : Method} {c : Code} {s₁ : State} {Q : State → Prop} {D : zk_D} {base : Nat} {Hb : Heap} (B : BodyLoose p l yX11_rules (headSpec (Jvm.Cond.code yX11_rules prog_1_method_9_code 4 (some .int) :: zg_tb) qR373) prog_1_method_9_code 4 (some .int) e s m args below meth c s₁) (hml : c.maxLocals = 4) (hK : zg_K D base Hb s) : zk_ok p l e (headSpec (Jvm.Cond.code yX11_rules prog_1_method_9_code 4 (some .int) :: zg_tb) qR373).room s m args below meth c Q qK D base Hb 4 prog_1_method_9_code qP373 qC373.2.2.2.2 := by
  have S : CallFix p m c prog_1_method_9_code 4 s args (Jvm.Cond.code yX11_rules prog_1_method_9_code 4 (some .int) :: zg_tb) RX11 := ⟨B.exec, B.bytes, hml, findClass_of_methodNamed B.named, atoms_spec (ws := (Jvm.Cond.code yX11_rules prog_1_method_9_code 4 (some .int) :: zg_tb)) B.pre⟩
  exact ⟨List.forall_mem_cons.mpr ⟨zg_gp S (hK.2.1 11 _ rfl) (fun w h => (List.mem_cons_of_mem _ (zc11 w h))) rfl zt11_13 (List.mem_cons_of_mem _ zw2_66) rfl, List.forall_mem_cons.mpr ⟨zg_gp4 S (hK.2.1 11 _ rfl) (fun w h => (List.mem_cons_of_mem _ (zc11 w h))) rfl zt11_5 (List.mem_cons_of_mem _ zw2_58), List.forall_mem_cons.mpr ⟨zg_gp4 S (hK.2.1 11 _ rfl) (fun w h => (List.mem_cons_of_mem _ (zc11 w h))) rfl zt11_3 (List.mem_cons_of_mem _ zw2_56), List.forall_mem_cons.mpr ⟨zg_gp4 S (hK.2.1 11 _ rfl) (fun w h => (List.mem_cons_of_mem _ (zc11 w h))) rfl zt11_1 (List.mem_cons_of_mem _ zw2_54), List.forall_mem_cons.mpr ⟨zg_gp S (hK.2.1 8 _ rfl) (fun w h => (List.mem_cons_of_mem _ (zc8 w h))) rfl zt8_1 (List.mem_cons_of_mem _ zw1_81) rfl, fun _ h => absurd h List.not_mem_nil⟩⟩⟩⟩⟩,
    fun _ h => absurd h List.not_mem_nil,
    fun _ h => absurd h List.not_mem_nil,
    fun _ h => absurd h List.not_mem_nil,
    fun h => absurd rfl h,
    fun _ h => absurd h List.not_mem_nil,
    List.forall_mem_cons.mpr ⟨zg_callV (fun w h => List.mem_cons_of_mem _ h) zg_tb_all S hK zg_Km qm368 zw3_69 zy_yX11_hasRuler_V (ci := 11) (by decide +kernel) (hK.2.1 11 _ rfl).2.1 ⟨rfl, rfl⟩ (zk_dg_ok qdo_1_9 (by decide +kernel)), List.forall_mem_cons.mpr ⟨zg_callV (fun w h => List.mem_cons_of_mem _ h) zg_tb_all S hK zg_Km qm369 zw3_77 zy_yX5_isFull_V (ci := 5) (by decide +kernel) (hK.2.1 5 _ rfl).2.1 ⟨rfl, rfl⟩ (zk_dg_ok qdo_1_9 (by decide +kernel)), List.forall_mem_cons.mpr ⟨zg_callV (fun w h => List.mem_cons_of_mem _ h) zg_tb_all S hK zg_Km qm164 zw2_174 zy_yX6_faultOf_V (ci := 6) (by decide +kernel) (hK.2.1 6 _ rfl).2.1 ⟨rfl, rfl⟩ (zk_dg_ok qdo_1_9 (by decide +kernel)), List.forall_mem_cons.mpr ⟨zg_callV (fun w h => List.mem_cons_of_mem _ h) zg_tb_all S hK zg_Km qm371 zw3_81 zy_yX6_takeCode_V (ci := 6) (by decide +kernel) (hK.2.1 6 _ rfl).2.1 ⟨rfl, rfl⟩ (zk_dg_ok qdo_1_9 (by decide +kernel)), List.forall_mem_cons.mpr ⟨zg_callV (fun w h => List.mem_cons_of_mem _ h) zg_tb_all S hK zg_Km qm372 zw3_99 zy_yX5_add_V (ci := 5) (by decide +kernel) (hK.2.1 5 _ rfl).2.1 ⟨rfl, rfl⟩ (zk_dg_ok qdo_1_9 (by decide +kernel)), fun _ h => absurd h List.not_mem_nil⟩⟩⟩⟩⟩⟩
set_option maxRecDepth 100000 in
theorem qm373 {l : Launch} {D : zk_D} {base : Nat} {Hb : Heap} : zk_Met l qK D base Hb (zg_K D base Hb) yX11_rules (Jvm.Cond.code yX11_rules prog_1_method_9_code 4 (some .int) :: zg_tb) qR373 qC373 := zk_met (ws' := zg_tb) (P := qP373) (AT := zg_AT) zpn_X11 rfl rfl rfl qk373 (fun s hK => zg_wd hK) (fun p e s m args below meth c s₁ Q B hml hK => qo373 B hml hK) (fun p e s m args below meth c s₁ v G0 H0 B hml hK ha hp hF q hq => absurd hq List.not_mem_nil)
set_option maxRecDepth 100000 in
def qR374 : Room := { frames := 1, cells := 0, slots := 0, locals := 20 }
set_option maxHeartbeats 4000000 in
set_option maxRecDepth 100000 in
theorem qo374 {p : Program} {l : Launch} {e : Env} {s : State} {m : MethodId} {args : Array Value} {below : List Frame} {meth : Method} {c : Code} {s₁ : State} {Q : State → Prop} {D : zk_D} {base : Nat} {Hb : Heap} (B : BodyLoose p l yX12_in (headSpec (Jvm.Cond.code yX12_in prog_14_method_1_code 3 (some .boolean) :: zg_tb) qR374) prog_14_method_1_code 3 (some .boolean) e s m args below meth c s₁) (hml : c.maxLocals = 3) (hK : zg_K D base Hb s) : zk_ok p l e (headSpec (Jvm.Cond.code yX12_in prog_14_method_1_code 3 (some .boolean) :: zg_tb) qR374).room s m args below meth c Q qK D base Hb 3 prog_14_method_1_code qP374 qC374.2.2.2.2 := by
  have S : CallFix p m c prog_14_method_1_code 3 s args (Jvm.Cond.code yX12_in prog_14_method_1_code 3 (some .boolean) :: zg_tb) RX12 := ⟨B.exec, B.bytes, hml, findClass_of_methodNamed B.named, atoms_spec (ws := (Jvm.Cond.code yX12_in prog_14_method_1_code 3 (some .boolean) :: zg_tb)) B.pre⟩
  exact ⟨fun _ h => absurd h List.not_mem_nil,
    fun _ h => absurd h List.not_mem_nil,
    fun _ h => absurd h List.not_mem_nil,
    fun _ h => absurd h List.not_mem_nil,
    fun h => absurd rfl h,
    fun _ h => absurd h List.not_mem_nil,
    fun _ h => absurd h List.not_mem_nil⟩
set_option maxRecDepth 100000 in
theorem qm374 {l : Launch} {D : zk_D} {base : Nat} {Hb : Heap} : zk_Met l qK D base Hb (zg_K D base Hb) yX12_in (Jvm.Cond.code yX12_in prog_14_method_1_code 3 (some .boolean) :: zg_tb) qR374 qC374 := zk_met (ws' := zg_tb) (P := qP374) (AT := zg_AT) zpn_X12 rfl rfl rfl qk374 (fun s hK => zg_wd hK) (fun p e s m args below meth c s₁ Q B hml hK => qo374 B hml hK) (fun p e s m args below meth c s₁ v G0 H0 B hml hK ha hp hF q hq => absurd hq List.not_mem_nil)
set_option maxRecDepth 100000 in
def qR375 : Room := { frames := 1, cells := 0, slots := 0, locals := 20 }
set_option maxHeartbeats 4000000 in
set_option maxRecDepth 100000 in
theorem qo375 {p : Program} {l : Launch} {e : Env} {s : State} {m : MethodId} {args : Array Value} {below : List Frame} {meth : Method} {c : Code} {s₁ : State} {Q : State → Prop} {D : zk_D} {base : Nat} {Hb : Heap} (B : BodyLoose p l yX12_in (headSpec (Jvm.Cond.code yX12_in prog_14_method_1_code 3 (some .boolean) :: zg_tb) qR375) prog_14_method_1_code 3 (some .boolean) e s m args below meth c s₁) (hml : c.maxLocals = 3) (hK : zg_K D base Hb s) : zk_ok p l e (headSpec (Jvm.Cond.code yX12_in prog_14_method_1_code 3 (some .boolean) :: zg_tb) qR375).room s m args below meth c Q qK D base Hb 3 prog_14_method_1_code qP375 qC375.2.2.2.2 := by
  have S : CallFix p m c prog_14_method_1_code 3 s args (Jvm.Cond.code yX12_in prog_14_method_1_code 3 (some .boolean) :: zg_tb) RX12 := ⟨B.exec, B.bytes, hml, findClass_of_methodNamed B.named, atoms_spec (ws := (Jvm.Cond.code yX12_in prog_14_method_1_code 3 (some .boolean) :: zg_tb)) B.pre⟩
  exact ⟨fun _ h => absurd h List.not_mem_nil,
    fun _ h => absurd h List.not_mem_nil,
    fun _ h => absurd h List.not_mem_nil,
    fun _ h => absurd h List.not_mem_nil,
    fun h => absurd rfl h,
    fun _ h => absurd h List.not_mem_nil,
    fun _ h => absurd h List.not_mem_nil⟩
set_option maxRecDepth 100000 in
theorem qm375 {l : Launch} {D : zk_D} {base : Nat} {Hb : Heap} : zk_Met l qK D base Hb (zg_K D base Hb) yX12_in (Jvm.Cond.code yX12_in prog_14_method_1_code 3 (some .boolean) :: zg_tb) qR375 qC375 := zk_met (ws' := zg_tb) (P := qP375) (AT := zg_AT) zpn_X12 rfl rfl rfl qk375 (fun s hK => zg_wd hK) (fun p e s m args below meth c s₁ Q B hml hK => qo375 B hml hK) (fun p e s m args below meth c s₁ v G0 H0 B hml hK ha hp hF q hq => absurd hq List.not_mem_nil)
set_option maxRecDepth 100000 in
def qR376 : Room := { frames := 31, cells := 0, slots := 0, locals := 652 }
set_option maxHeartbeats 4000000 in
set_option maxRecDepth 100000 in
theorem qo376 {p : Program} {l : Launch} {e : Env} {s : State} {m : MethodId} {args : Array Value} {below : List Frame} {meth : Method} {c : Code} {s₁ : State} {Q : State → Prop} {D : zk_D} {base : Nat} {Hb : Heap} (B : BodyLoose p l yX12_rules (headSpec (Jvm.Cond.code yX12_rules prog_14_method_44_code 5 (some .int) :: zg_tb) qR376) prog_14_method_44_code 5 (some .int) e s m args below meth c s₁) (hml : c.maxLocals = 5) (hK : zg_K D base Hb s) : zk_ok p l e (headSpec (Jvm.Cond.code yX12_rules prog_14_method_44_code 5 (some .int) :: zg_tb) qR376).room s m args below meth c Q qK D base Hb 5 prog_14_method_44_code qP376 qC376.2.2.2.2 := by
  have S : CallFix p m c prog_14_method_44_code 5 s args (Jvm.Cond.code yX12_rules prog_14_method_44_code 5 (some .int) :: zg_tb) RX12 := ⟨B.exec, B.bytes, hml, findClass_of_methodNamed B.named, atoms_spec (ws := (Jvm.Cond.code yX12_rules prog_14_method_44_code 5 (some .int) :: zg_tb)) B.pre⟩
  exact ⟨List.forall_mem_cons.mpr ⟨zg_gp S (hK.2.1 12 _ rfl) (fun w h => (List.mem_cons_of_mem _ (zc12 w h))) rfl zt12_57 (List.mem_cons_of_mem _ zw5_216) rfl, List.forall_mem_cons.mpr ⟨zg_gp S (hK.2.1 12 _ rfl) (fun w h => (List.mem_cons_of_mem _ (zc12 w h))) rfl zt12_6 (List.mem_cons_of_mem _ zw5_165) rfl, List.forall_mem_cons.mpr ⟨zg_gp S (hK.2.1 12 _ rfl) (fun w h => (List.mem_cons_of_mem _ (zc12 w h))) rfl zt12_0 (List.mem_cons_of_mem _ zw5_159) rfl, List.forall_mem_cons.mpr ⟨zg_gp S (hK.2.1 12 _ rfl) (fun w h => (List.mem_cons_of_mem _ (zc12 w h))) rfl zt12_26 (List.mem_cons_of_mem _ zw5_185) rfl, List.forall_mem_cons.mpr ⟨zg_gp S (hK.2.1 12 _ rfl) (fun w h => (List.mem_cons_of_mem _ (zc12 w h))) rfl zt12_25 (List.mem_cons_of_mem _ zw5_184) rfl, List.forall_mem_cons.mpr ⟨zg_gp4 S (hK.2.1 12 _ rfl) (fun w h => (List.mem_cons_of_mem _ (zc12 w h))) rfl zt12_19 (List.mem_cons_of_mem _ zw5_178), List.forall_mem_cons.mpr ⟨zg_gp4 S (hK.2.1 12 _ rfl) (fun w h => (List.mem_cons_of_mem _ (zc12 w h))) rfl zt12_18 (List.mem_cons_of_mem _ zw5_177), List.forall_mem_cons.mpr ⟨zg_gp4 S (hK.2.1 12 _ rfl) (fun w h => (List.mem_cons_of_mem _ (zc12 w h))) rfl zt12_20 (List.mem_cons_of_mem _ zw5_179), List.forall_mem_cons.mpr ⟨zg_gp4 S (hK.2.1 12 _ rfl) (fun w h => (List.mem_cons_of_mem _ (zc12 w h))) rfl zt12_21 (List.mem_cons_of_mem _ zw5_180), List.forall_mem_cons.mpr ⟨zg_gp4 S (hK.2.1 12 _ rfl) (fun w h => (List.mem_cons_of_mem _ (zc12 w h))) rfl zt12_22 (List.mem_cons_of_mem _ zw5_181), List.forall_mem_cons.mpr ⟨zg_gp4 S (hK.2.1 12 _ rfl) (fun w h => (List.mem_cons_of_mem _ (zc12 w h))) rfl zt12_23 (List.mem_cons_of_mem _ zw5_182), List.forall_mem_cons.mpr ⟨zg_gp4 S (hK.2.1 12 _ rfl) (fun w h => (List.mem_cons_of_mem _ (zc12 w h))) rfl zt12_24 (List.mem_cons_of_mem _ zw5_183), List.forall_mem_cons.mpr ⟨zg_gp S (hK.2.1 12 _ rfl) (fun w h => (List.mem_cons_of_mem _ (zc12 w h))) rfl zt12_9 (List.mem_cons_of_mem _ zw5_168) rfl, fun _ h => absurd h List.not_mem_nil⟩⟩⟩⟩⟩⟩⟩⟩⟩⟩⟩⟩⟩,
    fun _ h => absurd h List.not_mem_nil,
    fun _ h => absurd h List.not_mem_nil,
    fun _ h => absurd h List.not_mem_nil,
    fun h => absurd rfl h,
    fun _ h => absurd h List.not_mem_nil,
    List.forall_mem_cons.mpr ⟨zg_callS (fun w h => List.mem_cons_of_mem _ h) zg_tb_all S hK zg_Km qm374 zw6_145 zy_yX12_in_S (by decide +kernel) ⟨rfl, rfl⟩ (zk_dg_ok qdo_14_44 (by decide +kernel)), List.forall_mem_cons.mpr ⟨zg_callS (fun w h => List.mem_cons_of_mem _ h) zg_tb_all S hK zg_Km qm375 zw6_145 zy_yX12_in_S (by decide +kernel) ⟨rfl, rfl⟩ (zk_dg_ok qdo_14_44 (by decide +kernel)), List.forall_mem_cons.mpr ⟨zg_callV (fun w h => List.mem_cons_of_mem _ h) zg_tb_all S hK zg_Km qm365 zw6_224 zy_yX12_ruleFault_V (ci := 12) (by decide +kernel) (hK.2.1 12 _ rfl).2.1 ⟨rfl, rfl⟩ (zk_dg_ok qdo_14_44 (by decide +kernel)), fun _ h => absurd h List.not_mem_nil⟩⟩⟩⟩
set_option maxRecDepth 100000 in
theorem qm376 {l : Launch} {D : zk_D} {base : Nat} {Hb : Heap} : zk_Met l qK D base Hb (zg_K D base Hb) yX12_rules (Jvm.Cond.code yX12_rules prog_14_method_44_code 5 (some .int) :: zg_tb) qR376 qC376 :=
  zk_met (ws' := zg_tb) (P := qP376) (AT := zg_AT) (by decide +kernel) rfl rfl rfl qk376 (fun s hK => zg_wd hK) (fun p e s m args below meth c s₁ Q B hml hK => qo376 B hml hK) (fun p e s m args below meth c s₁ v G0 H0 B hml hK ha hp0 hF0 q hq G H locs ls vs v' hp he hl hF hL => by
    have hq := List.mem_singleton.mp hq
    subst hq
    exact zq_ru_x (x := qX376.2.1) (sy := 12) (nn := 13) (gz := 9) (g2 := 5) B.exec B.bytes (zg_wd hK) (qo376 B hml hK) rfl rfl B.returns B.notSynchronized (fun t h => h) hK.1.2.2 (by decide +kernel) (by decide +kernel) rfl rfl (by decide +kernel) (by decide +kernel) (by decide +kernel) (by decide +kernel) (by decide +kernel) (by decide +kernel) (by decide +kernel) (by decide +kernel) (by decide +kernel) (by decide +kernel) (by decide +kernel) (by decide +kernel) qh376 hp he hl hF hL)
set_option maxRecDepth 100000 in
def qR377 : Room := { frames := 1, cells := 0, slots := 0, locals := 20 }
set_option maxHeartbeats 4000000 in
set_option maxRecDepth 100000 in
theorem qo377 {p : Program} {l : Launch} {e : Env} {s : State} {m : MethodId} {args : Array Value} {below : List Frame} {meth : Method} {c : Code} {s₁ : State} {Q : State → Prop} {D : zk_D} {base : Nat} {Hb : Heap} (B : BodyLoose p l yX11_isPast (headSpec (Jvm.Cond.code yX11_isPast prog_1_method_39_code 2 (some .boolean) :: zg_tb) qR377) prog_1_method_39_code 2 (some .boolean) e s m args below meth c s₁) (hml : c.maxLocals = 2) (hK : zg_K D base Hb s) : zk_ok p l e (headSpec (Jvm.Cond.code yX11_isPast prog_1_method_39_code 2 (some .boolean) :: zg_tb) qR377).room s m args below meth c Q qK D base Hb 2 prog_1_method_39_code qP377 qC377.2.2.2.2 := by
  have S : CallFix p m c prog_1_method_39_code 2 s args (Jvm.Cond.code yX11_isPast prog_1_method_39_code 2 (some .boolean) :: zg_tb) RX11 := ⟨B.exec, B.bytes, hml, findClass_of_methodNamed B.named, atoms_spec (ws := (Jvm.Cond.code yX11_isPast prog_1_method_39_code 2 (some .boolean) :: zg_tb)) B.pre⟩
  exact ⟨List.forall_mem_cons.mpr ⟨zg_gp S (hK.2.1 11 _ rfl) (fun w h => (List.mem_cons_of_mem _ (zc11 w h))) rfl zt11_13 (List.mem_cons_of_mem _ zw2_66) rfl, fun _ h => absurd h List.not_mem_nil⟩,
    fun _ h => absurd h List.not_mem_nil,
    fun _ h => absurd h List.not_mem_nil,
    fun _ h => absurd h List.not_mem_nil,
    fun h => absurd rfl h,
    fun _ h => absurd h List.not_mem_nil,
    fun _ h => absurd h List.not_mem_nil⟩
set_option maxRecDepth 100000 in
theorem qm377 {l : Launch} {D : zk_D} {base : Nat} {Hb : Heap} : zk_Met l qK D base Hb (zg_K D base Hb) yX11_isPast (Jvm.Cond.code yX11_isPast prog_1_method_39_code 2 (some .boolean) :: zg_tb) qR377 qC377 := zk_met (ws' := zg_tb) (P := qP377) (AT := zg_AT) zpn_X11 rfl rfl rfl qk377 (fun s hK => zg_wd hK) (fun p e s m args below meth c s₁ Q B hml hK => qo377 B hml hK) (fun p e s m args below meth c s₁ v G0 H0 B hml hK ha hp hF q hq => absurd hq List.not_mem_nil)
set_option maxRecDepth 100000 in
def qR378 : Room := { frames := 1, cells := 0, slots := 0, locals := 20 }
set_option maxHeartbeats 4000000 in
set_option maxRecDepth 100000 in
theorem qo378 {p : Program} {l : Launch} {e : Env} {s : State} {m : MethodId} {args : Array Value} {below : List Frame} {meth : Method} {c : Code} {s₁ : State} {Q : State → Prop} {D : zk_D} {base : Nat} {Hb : Heap} (B : BodyLoose p l yX5_inForce (headSpec (Jvm.Cond.code yX5_inForce prog_7_method_5_code 9 (some .int) :: zg_tb) qR378) prog_7_method_5_code 9 (some .int) e s m args below meth c s₁) (hml : c.maxLocals = 9) (hK : zg_K D base Hb s) : zk_ok p l e (headSpec (Jvm.Cond.code yX5_inForce prog_7_method_5_code 9 (some .int) :: zg_tb) qR378).room s m args below meth c Q qK D base Hb 9 prog_7_method_5_code qP378 qC378.2.2.2.2 := by
  have S : CallFix p m c prog_7_method_5_code 9 s args (Jvm.Cond.code yX5_inForce prog_7_method_5_code 9 (some .int) :: zg_tb) RX5 := ⟨B.exec, B.bytes, hml, findClass_of_methodNamed B.named, atoms_spec (ws := (Jvm.Cond.code yX5_inForce prog_7_method_5_code 9 (some .int) :: zg_tb)) B.pre⟩
  exact ⟨List.forall_mem_cons.mpr ⟨zg_gp S (hK.2.1 5 _ rfl) (fun w h => (List.mem_cons_of_mem _ (zc5 w h))) rfl zt5_5 (List.mem_cons_of_mem _ zw1_184) rfl, List.forall_mem_cons.mpr ⟨zg_gp4 S (hK.2.1 5 _ rfl) (fun w h => (List.mem_cons_of_mem _ (zc5 w h))) rfl zt5_2 (List.mem_cons_of_mem _ zw1_181), List.forall_mem_cons.mpr ⟨zg_gp4 S (hK.2.1 5 _ rfl) (fun w h => (List.mem_cons_of_mem _ (zc5 w h))) rfl zt5_0 (List.mem_cons_of_mem _ zw1_179), List.forall_mem_cons.mpr ⟨zg_gp4 S (hK.2.1 5 _ rfl) (fun w h => (List.mem_cons_of_mem _ (zc5 w h))) rfl zt5_1 (List.mem_cons_of_mem _ zw1_180), List.forall_mem_cons.mpr ⟨zg_gp4 S (hK.2.1 5 _ rfl) (fun w h => (List.mem_cons_of_mem _ (zc5 w h))) rfl zt5_3 (List.mem_cons_of_mem _ zw1_182), fun _ h => absurd h List.not_mem_nil⟩⟩⟩⟩⟩,
    fun _ h => absurd h List.not_mem_nil,
    fun _ h => absurd h List.not_mem_nil,
    fun _ h => absurd h List.not_mem_nil,
    fun h => absurd rfl h,
    fun _ h => absurd h List.not_mem_nil,
    fun _ h => absurd h List.not_mem_nil⟩
set_option maxRecDepth 100000 in
theorem qm378 {l : Launch} {D : zk_D} {base : Nat} {Hb : Heap} : zk_Met l qK D base Hb (zg_K D base Hb) yX5_inForce (Jvm.Cond.code yX5_inForce prog_7_method_5_code 9 (some .int) :: zg_tb) qR378 qC378 := zk_met (ws' := zg_tb) (P := qP378) (AT := zg_AT) zpn_X5 rfl rfl rfl qk378 (fun s hK => zg_wd hK) (fun p e s m args below meth c s₁ Q B hml hK => qo378 B hml hK) (fun p e s m args below meth c s₁ v G0 H0 B hml hK ha hp hF q hq => absurd hq List.not_mem_nil)
set_option maxRecDepth 100000 in
def qR379 : Room := { frames := 3, cells := 0, slots := 0, locals := 63 }
set_option maxHeartbeats 4000000 in
set_option maxRecDepth 100000 in
theorem qo379 {p : Program} {l : Launch} {e : Env} {s : State} {m : MethodId} {args : Array Value} {below : List Frame} {meth : Method} {c : Code} {s₁ : State} {Q : State → Prop} {D : zk_D} {base : Nat} {Hb : Heap} (B : BodyLoose p l yX11_force (headSpec (Jvm.Cond.code yX11_force prog_1_method_10_code 5 (some .int) :: zg_tb) qR379) prog_1_method_10_code 5 (some .int) e s m args below meth c s₁) (hml : c.maxLocals = 5) (hK : zg_K D base Hb s) : zk_ok p l e (headSpec (Jvm.Cond.code yX11_force prog_1_method_10_code 5 (some .int) :: zg_tb) qR379).room s m args below meth c Q qK D base Hb 5 prog_1_method_10_code qP379 qC379.2.2.2.2 := by
  have S : CallFix p m c prog_1_method_10_code 5 s args (Jvm.Cond.code yX11_force prog_1_method_10_code 5 (some .int) :: zg_tb) RX11 := ⟨B.exec, B.bytes, hml, findClass_of_methodNamed B.named, atoms_spec (ws := (Jvm.Cond.code yX11_force prog_1_method_10_code 5 (some .int) :: zg_tb)) B.pre⟩
  exact ⟨List.forall_mem_cons.mpr ⟨zg_gp4 S (hK.2.1 11 _ rfl) (fun w h => (List.mem_cons_of_mem _ (zc11 w h))) rfl zt11_5 (List.mem_cons_of_mem _ zw2_58), fun _ h => absurd h List.not_mem_nil⟩,
    fun _ h => absurd h List.not_mem_nil,
    fun _ h => absurd h List.not_mem_nil,
    fun _ h => absurd h List.not_mem_nil,
    fun h => absurd rfl h,
    fun _ h => absurd h List.not_mem_nil,
    List.forall_mem_cons.mpr ⟨zg_callV (fun w h => List.mem_cons_of_mem _ h) zg_tb_all S hK zg_Km qm368 zw3_69 zy_yX11_hasRuler_V (ci := 11) (by decide +kernel) (hK.2.1 11 _ rfl).2.1 ⟨rfl, rfl⟩ (zk_dg_ok qdo_1_10 (by decide +kernel)), List.forall_mem_cons.mpr ⟨zg_callV (fun w h => List.mem_cons_of_mem _ h) zg_tb_all S hK zg_Km qm377 zw3_108 zy_yX11_isPast_V (ci := 11) (by decide +kernel) (hK.2.1 11 _ rfl).2.1 ⟨rfl, rfl⟩ (zk_dg_ok qdo_1_10 (by decide +kernel)), List.forall_mem_cons.mpr ⟨zg_callV (fun w h => List.mem_cons_of_mem _ h) zg_tb_all S hK zg_Km qm378 zw3_112 zy_yX5_inForce_V (ci := 5) (by decide +kernel) (hK.2.1 5 _ rfl).2.1 ⟨rfl, rfl⟩ (zk_dg_ok qdo_1_10 (by decide +kernel)), fun _ h => absurd h List.not_mem_nil⟩⟩⟩⟩
set_option maxRecDepth 100000 in
theorem qm379 {l : Launch} {D : zk_D} {base : Nat} {Hb : Heap} : zk_Met l qK D base Hb (zg_K D base Hb) yX11_force (Jvm.Cond.code yX11_force prog_1_method_10_code 5 (some .int) :: zg_tb) qR379 qC379 := zk_met (ws' := zg_tb) (P := qP379) (AT := zg_AT) zpn_X11 rfl rfl rfl qk379 (fun s hK => zg_wd hK) (fun p e s m args below meth c s₁ Q B hml hK => qo379 B hml hK) (fun p e s m args below meth c s₁ v G0 H0 B hml hK ha hp hF q hq => absurd hq List.not_mem_nil)
set_option maxRecDepth 100000 in
def qR380 : Room := { frames := 1, cells := 0, slots := 0, locals := 20 }
set_option maxHeartbeats 4000000 in
set_option maxRecDepth 100000 in
theorem qo380 {p : Program} {l : Launch} {e : Env} {s : State} {m : MethodId} {args : Array Value} {below : List Frame} {meth : Method} {c : Code} {s₁ : State} {Q : State → Prop} {D : zk_D} {base : Nat} {Hb : Heap} (B : BodyLoose p l yX12_in (headSpec (Jvm.Cond.code yX12_in prog_14_method_1_code 3 (some .boolean) :: zg_tb) qR380) prog_14_method_1_code 3 (some .boolean) e s m args below meth c s₁) (hml : c.maxLocals = 3) (hK : zg_K D base Hb s) : zk_ok p l e (headSpec (Jvm.Cond.code yX12_in prog_14_method_1_code 3 (some .boolean) :: zg_tb) qR380).room s m args below meth c Q qK D base Hb 3 prog_14_method_1_code qP380 qC380.2.2.2.2 := by
  have S : CallFix p m c prog_14_method_1_code 3 s args (Jvm.Cond.code yX12_in prog_14_method_1_code 3 (some .boolean) :: zg_tb) RX12 := ⟨B.exec, B.bytes, hml, findClass_of_methodNamed B.named, atoms_spec (ws := (Jvm.Cond.code yX12_in prog_14_method_1_code 3 (some .boolean) :: zg_tb)) B.pre⟩
  exact ⟨fun _ h => absurd h List.not_mem_nil,
    fun _ h => absurd h List.not_mem_nil,
    fun _ h => absurd h List.not_mem_nil,
    fun _ h => absurd h List.not_mem_nil,
    fun h => absurd rfl h,
    fun _ h => absurd h List.not_mem_nil,
    fun _ h => absurd h List.not_mem_nil⟩
set_option maxRecDepth 100000 in
theorem qm380 {l : Launch} {D : zk_D} {base : Nat} {Hb : Heap} : zk_Met l qK D base Hb (zg_K D base Hb) yX12_in (Jvm.Cond.code yX12_in prog_14_method_1_code 3 (some .boolean) :: zg_tb) qR380 qC380 := zk_met (ws' := zg_tb) (P := qP380) (AT := zg_AT) zpn_X12 rfl rfl rfl qk380 (fun s hK => zg_wd hK) (fun p e s m args below meth c s₁ Q B hml hK => qo380 B hml hK) (fun p e s m args below meth c s₁ v G0 H0 B hml hK ha hp hF q hq => absurd hq List.not_mem_nil)
set_option maxRecDepth 100000 in
def qR381 : Room := { frames := 1, cells := 0, slots := 0, locals := 20 }
set_option maxHeartbeats 4000000 in
set_option maxRecDepth 100000 in
theorem qo381 {p : Program} {l : Launch} {e : Env} {s : State} {m : MethodId} {args : Array Value} {below : List Frame} {meth : Method} {c : Code} {s₁ : State} {Q : State → Prop} {D : zk_D} {base : Nat} {Hb : Heap} (B : BodyLoose p l yX12_in (headSpec (Jvm.Cond.code yX12_in prog_14_method_1_code 3 (some .boolean) :: zg_tb) qR381) prog_14_method_1_code 3 (some .boolean) e s m args below meth c s₁) (hml : c.maxLocals = 3) (hK : zg_K D base Hb s) : zk_ok p l e (headSpec (Jvm.Cond.code yX12_in prog_14_method_1_code 3 (some .boolean) :: zg_tb) qR381).room s m args below meth c Q qK D base Hb 3 prog_14_method_1_code qP381 qC381.2.2.2.2 := by
  have S : CallFix p m c prog_14_method_1_code 3 s args (Jvm.Cond.code yX12_in prog_14_method_1_code 3 (some .boolean) :: zg_tb) RX12 := ⟨B.exec, B.bytes, hml, findClass_of_methodNamed B.named, atoms_spec (ws := (Jvm.Cond.code yX12_in prog_14_method_1_code 3 (some .boolean) :: zg_tb)) B.pre⟩
  exact ⟨fun _ h => absurd h List.not_mem_nil,
    fun _ h => absurd h List.not_mem_nil,
    fun _ h => absurd h List.not_mem_nil,
    fun _ h => absurd h List.not_mem_nil,
    fun h => absurd rfl h,
    fun _ h => absurd h List.not_mem_nil,
    fun _ h => absurd h List.not_mem_nil⟩
set_option maxRecDepth 100000 in
theorem qm381 {l : Launch} {D : zk_D} {base : Nat} {Hb : Heap} : zk_Met l qK D base Hb (zg_K D base Hb) yX12_in (Jvm.Cond.code yX12_in prog_14_method_1_code 3 (some .boolean) :: zg_tb) qR381 qC381 := zk_met (ws' := zg_tb) (P := qP381) (AT := zg_AT) zpn_X12 rfl rfl rfl qk381 (fun s hK => zg_wd hK) (fun p e s m args below meth c s₁ Q B hml hK => qo381 B hml hK) (fun p e s m args below meth c s₁ v G0 H0 B hml hK ha hp hF q hq => absurd hq List.not_mem_nil)
set_option maxRecDepth 100000 in
def qR382 : Room := { frames := 1, cells := 0, slots := 0, locals := 20 }
set_option maxHeartbeats 4000000 in
set_option maxRecDepth 100000 in
theorem qo382 {p : Program} {l : Launch} {e : Env} {s : State} {m : MethodId} {args : Array Value} {below : List Frame} {meth : Method} {c : Code} {s₁ : State} {Q : State → Prop} {D : zk_D} {base : Nat} {Hb : Heap} (B : BodyLoose p l yX12_in (headSpec (Jvm.Cond.code yX12_in prog_14_method_1_code 3 (some .boolean) :: zg_tb) qR382) prog_14_method_1_code 3 (some .boolean) e s m args below meth c s₁) (hml : c.maxLocals = 3) (hK : zg_K D base Hb s) : zk_ok p l e (headSpec (Jvm.Cond.code yX12_in prog_14_method_1_code 3 (some .boolean) :: zg_tb) qR382).room s m args below meth c Q qK D base Hb 3 prog_14_method_1_code qP382 qC382.2.2.2.2 := by
  have S : CallFix p m c prog_14_method_1_code 3 s args (Jvm.Cond.code yX12_in prog_14_method_1_code 3 (some .boolean) :: zg_tb) RX12 := ⟨B.exec, B.bytes, hml, findClass_of_methodNamed B.named, atoms_spec (ws := (Jvm.Cond.code yX12_in prog_14_method_1_code 3 (some .boolean) :: zg_tb)) B.pre⟩
  exact ⟨fun _ h => absurd h List.not_mem_nil,
    fun _ h => absurd h List.not_mem_nil,
    fun _ h => absurd h List.not_mem_nil,
    fun _ h => absurd h List.not_mem_nil,
    fun h => absurd rfl h,
    fun _ h => absurd h List.not_mem_nil,
    fun _ h => absurd h List.not_mem_nil⟩
set_option maxRecDepth 100000 in
theorem qm382 {l : Launch} {D : zk_D} {base : Nat} {Hb : Heap} : zk_Met l qK D base Hb (zg_K D base Hb) yX12_in (Jvm.Cond.code yX12_in prog_14_method_1_code 3 (some .boolean) :: zg_tb) qR382 qC382 := zk_met (ws' := zg_tb) (P := qP382) (AT := zg_AT) zpn_X12 rfl rfl rfl qk382 (fun s hK => zg_wd hK) (fun p e s m args below meth c s₁ Q B hml hK => qo382 B hml hK) (fun p e s m args below meth c s₁ v G0 H0 B hml hK ha hp hF q hq => absurd hq List.not_mem_nil)
set_option maxRecDepth 100000 in
def qR383 : Room := { frames := 2, cells := 0, slots := 0, locals := 42 }
set_option maxHeartbeats 4000000 in
set_option maxRecDepth 100000 in
theorem qo383 {p : Program} {l : Launch} {e : Env} {s : State} {m : MethodId} {args : Array Value} {below : List Frame} {meth : Method} {c : Code} {s₁ : State} {Q : State → Prop} {D : zk_D} {base : Nat} {Hb : Heap} (B : BodyLoose p l yX12_isKnowing (headSpec (Jvm.Cond.code yX12_isKnowing prog_14_method_3_code 2 (some .boolean) :: zg_tb) qR383) prog_14_method_3_code 2 (some .boolean) e s m args below meth c s₁) (hml : c.maxLocals = 2) (hK : zg_K D base Hb s) : zk_ok p l e (headSpec (Jvm.Cond.code yX12_isKnowing prog_14_method_3_code 2 (some .boolean) :: zg_tb) qR383).room s m args below meth c Q qK D base Hb 2 prog_14_method_3_code qP383 qC383.2.2.2.2 := by
  have S : CallFix p m c prog_14_method_3_code 2 s args (Jvm.Cond.code yX12_isKnowing prog_14_method_3_code 2 (some .boolean) :: zg_tb) RX12 := ⟨B.exec, B.bytes, hml, findClass_of_methodNamed B.named, atoms_spec (ws := (Jvm.Cond.code yX12_isKnowing prog_14_method_3_code 2 (some .boolean) :: zg_tb)) B.pre⟩
  exact ⟨List.forall_mem_cons.mpr ⟨zg_gp S (hK.2.1 12 _ rfl) (fun w h => (List.mem_cons_of_mem _ (zc12 w h))) rfl zt12_0 (List.mem_cons_of_mem _ zw5_159) rfl, fun _ h => absurd h List.not_mem_nil⟩,
    fun _ h => absurd h List.not_mem_nil,
    fun _ h => absurd h List.not_mem_nil,
    fun _ h => absurd h List.not_mem_nil,
    fun h => absurd rfl h,
    fun _ h => absurd h List.not_mem_nil,
    List.forall_mem_cons.mpr ⟨zg_callS (fun w h => List.mem_cons_of_mem _ h) zg_tb_all S hK zg_Km qm382 zw6_145 zy_yX12_in_S (by decide +kernel) ⟨rfl, rfl⟩ (zk_dg_ok qdo_14_3 (by decide +kernel)), fun _ h => absurd h List.not_mem_nil⟩⟩
set_option maxRecDepth 100000 in
theorem qm383 {l : Launch} {D : zk_D} {base : Nat} {Hb : Heap} : zk_Met l qK D base Hb (zg_K D base Hb) yX12_isKnowing (Jvm.Cond.code yX12_isKnowing prog_14_method_3_code 2 (some .boolean) :: zg_tb) qR383 qC383 := zk_met (ws' := zg_tb) (P := qP383) (AT := zg_AT) zpn_X12 rfl rfl rfl qk383 (fun s hK => zg_wd hK) (fun p e s m args below meth c s₁ Q B hml hK => qo383 B hml hK) (fun p e s m args below meth c s₁ v G0 H0 B hml hK ha hp hF q hq => absurd hq List.not_mem_nil)
set_option maxRecDepth 100000 in
def qR384 : Room := { frames := 1, cells := 0, slots := 0, locals := 20 }
set_option maxHeartbeats 4000000 in
set_option maxRecDepth 100000 in
theorem qo384 {p : Program} {l : Launch} {e : Env} {s : State} {m : MethodId} {args : Array Value} {below : List Frame} {meth : Method} {c : Code} {s₁ : State} {Q : State → Prop} {D : zk_D} {base : Nat} {Hb : Heap} (B : BodyLoose p l yX12_forceOf (headSpec (Jvm.Cond.code yX12_forceOf prog_14_method_45_code 8 (some .int) :: zg_tb) qR384) prog_14_method_45_code 8 (some .int) e s m args below meth c s₁) (hml : c.maxLocals = 8) (hK : zg_K D base Hb s) : zk_ok p l e (headSpec (Jvm.Cond.code yX12_forceOf prog_14_method_45_code 8 (some .int) :: zg_tb) qR384).room s m args below meth c Q qK D base Hb 8 prog_14_method_45_code qP384 qC384.2.2.2.2 := by
  have S : CallFix p m c prog_14_method_45_code 8 s args (Jvm.Cond.code yX12_forceOf prog_14_method_45_code 8 (some .int) :: zg_tb) RX12 := ⟨B.exec, B.bytes, hml, findClass_of_methodNamed B.named, atoms_spec (ws := (Jvm.Cond.code yX12_forceOf prog_14_method_45_code 8 (some .int) :: zg_tb)) B.pre⟩
  exact ⟨List.forall_mem_cons.mpr ⟨zg_gp S (hK.2.1 12 _ rfl) (fun w h => (List.mem_cons_of_mem _ (zc12 w h))) rfl zt12_26 (List.mem_cons_of_mem _ zw5_185) rfl, List.forall_mem_cons.mpr ⟨zg_gp4 S (hK.2.1 12 _ rfl) (fun w h => (List.mem_cons_of_mem _ (zc12 w h))) rfl zt12_21 (List.mem_cons_of_mem _ zw5_180), List.forall_mem_cons.mpr ⟨zg_gp4 S (hK.2.1 12 _ rfl) (fun w h => (List.mem_cons_of_mem _ (zc12 w h))) rfl zt12_22 (List.mem_cons_of_mem _ zw5_181), List.forall_mem_cons.mpr ⟨zg_gp4 S (hK.2.1 12 _ rfl) (fun w h => (List.mem_cons_of_mem _ (zc12 w h))) rfl zt12_24 (List.mem_cons_of_mem _ zw5_183), List.forall_mem_cons.mpr ⟨zg_gp4 S (hK.2.1 12 _ rfl) (fun w h => (List.mem_cons_of_mem _ (zc12 w h))) rfl zt12_23 (List.mem_cons_of_mem _ zw5_182), fun _ h => absurd h List.not_mem_nil⟩⟩⟩⟩⟩,
    fun _ h => absurd h List.not_mem_nil,
    fun _ h => absurd h List.not_mem_nil,
    fun _ h => absurd h List.not_mem_nil,
    fun h => absurd rfl h,
    fun _ h => absurd h List.not_mem_nil,
    fun _ h => absurd h List.not_mem_nil⟩
set_option maxRecDepth 100000 in
theorem qm384 {l : Launch} {D : zk_D} {base : Nat} {Hb : Heap} : zk_Met l qK D base Hb (zg_K D base Hb) yX12_forceOf (Jvm.Cond.code yX12_forceOf prog_14_method_45_code 8 (some .int) :: zg_tb) qR384 qC384 := zk_met (ws' := zg_tb) (P := qP384) (AT := zg_AT) zpn_X12 rfl rfl rfl qk384 (fun s hK => zg_wd hK) (fun p e s m args below meth c s₁ Q B hml hK => qo384 B hml hK) (fun p e s m args below meth c s₁ v G0 H0 B hml hK ha hp hF q hq => absurd hq List.not_mem_nil)
set_option maxRecDepth 100000 in
def qR385 : Room := { frames := 3, cells := 0, slots := 0, locals := 63 }
set_option maxHeartbeats 4000000 in
set_option maxRecDepth 100000 in
theorem qo385 {p : Program} {l : Launch} {e : Env} {s : State} {m : MethodId} {args : Array Value} {below : List Frame} {meth : Method} {c : Code} {s₁ : State} {Q : State → Prop} {D : zk_D} {base : Nat} {Hb : Heap} (B : BodyLoose p l yX12_force (headSpec (Jvm.Cond.code yX12_force prog_14_method_46_code 5 (some .int) :: zg_tb) qR385) prog_14_method_46_code 5 (some .int) e s m args below meth c s₁) (hml : c.maxLocals = 5) (hK : zg_K D base Hb s) : zk_ok p l e (headSpec (Jvm.Cond.code yX12_force prog_14_method_46_code 5 (some .int) :: zg_tb) qR385).room s m args below meth c Q qK D base Hb 5 prog_14_method_46_code qP385 qC385.2.2.2.2 := by
  have S : CallFix p m c prog_14_method_46_code 5 s args (Jvm.Cond.code yX12_force prog_14_method_46_code 5 (some .int) :: zg_tb) RX12 := ⟨B.exec, B.bytes, hml, findClass_of_methodNamed B.named, atoms_spec (ws := (Jvm.Cond.code yX12_force prog_14_method_46_code 5 (some .int) :: zg_tb)) B.pre⟩
  exact ⟨List.forall_mem_cons.mpr ⟨zg_gp S (hK.2.1 12 _ rfl) (fun w h => (List.mem_cons_of_mem _ (zc12 w h))) rfl zt12_57 (List.mem_cons_of_mem _ zw5_216) rfl, List.forall_mem_cons.mpr ⟨zg_gp S (hK.2.1 12 _ rfl) (fun w h => (List.mem_cons_of_mem _ (zc12 w h))) rfl zt12_6 (List.mem_cons_of_mem _ zw5_165) rfl, fun _ h => absurd h List.not_mem_nil⟩⟩,
    fun _ h => absurd h List.not_mem_nil,
    fun _ h => absurd h List.not_mem_nil,
    fun _ h => absurd h List.not_mem_nil,
    fun h => absurd rfl h,
    fun _ h => absurd h List.not_mem_nil,
    List.forall_mem_cons.mpr ⟨zg_callS (fun w h => List.mem_cons_of_mem _ h) zg_tb_all S hK zg_Km qm380 zw6_145 zy_yX12_in_S (by decide +kernel) ⟨rfl, rfl⟩ (zk_dg_ok qdo_14_46 (by decide +kernel)), List.forall_mem_cons.mpr ⟨zg_callS (fun w h => List.mem_cons_of_mem _ h) zg_tb_all S hK zg_Km qm381 zw6_145 zy_yX12_in_S (by decide +kernel) ⟨rfl, rfl⟩ (zk_dg_ok qdo_14_46 (by decide +kernel)), List.forall_mem_cons.mpr ⟨zg_callV (fun w h => List.mem_cons_of_mem _ h) zg_tb_all S hK zg_Km qm383 zw7_57 zy_yX12_isKnowing_V (ci := 12) (by decide +kernel) (hK.2.1 12 _ rfl).2.1 ⟨rfl, rfl⟩ (zk_dg_ok qdo_14_46 (by decide +kernel)), List.forall_mem_cons.mpr ⟨zg_callV (fun w h => List.mem_cons_of_mem _ h) zg_tb_all S hK zg_Km qm384 zw7_61 zy_yX12_forceOf_V (ci := 12) (by decide +kernel) (hK.2.1 12 _ rfl).2.1 ⟨rfl, rfl⟩ (zk_dg_ok qdo_14_46 (by decide +kernel)), fun _ h => absurd h List.not_mem_nil⟩⟩⟩⟩⟩
set_option maxRecDepth 100000 in
theorem qm385 {l : Launch} {D : zk_D} {base : Nat} {Hb : Heap} : zk_Met l qK D base Hb (zg_K D base Hb) yX12_force (Jvm.Cond.code yX12_force prog_14_method_46_code 5 (some .int) :: zg_tb) qR385 qC385 := zk_met (ws' := zg_tb) (P := qP385) (AT := zg_AT) zpn_X12 rfl rfl rfl qk385 (fun s hK => zg_wd hK) (fun p e s m args below meth c s₁ Q B hml hK => qo385 B hml hK) (fun p e s m args below meth c s₁ v G0 H0 B hml hK ha hp hF q hq => absurd hq List.not_mem_nil)
set_option maxRecDepth 100000 in
def qR386 : Room := { frames := 1, cells := 0, slots := 0, locals := 20 }
set_option maxHeartbeats 4000000 in
set_option maxRecDepth 100000 in
theorem qo386 {p : Program} {l : Launch} {e : Env} {s : State} {m : MethodId} {args : Array Value} {below : List Frame} {meth : Method} {c : Code} {s₁ : State} {Q : State → Prop} {D : zk_D} {base : Nat} {Hb : Heap} (B : BodyLoose p l yX11_list (headSpec (Jvm.Cond.code yX11_list prog_1_method_11_code 1 (some .int) :: zg_tb) qR386) prog_1_method_11_code 1 (some .int) e s m args below meth c s₁) (hml : c.maxLocals = 1) (hK : zg_K D base Hb s) : zk_ok p l e (headSpec (Jvm.Cond.code yX11_list prog_1_method_11_code 1 (some .int) :: zg_tb) qR386).room s m args below meth c Q qK D base Hb 1 prog_1_method_11_code qP386 qC386.2.2.2.2 := by
  have S : CallFix p m c prog_1_method_11_code 1 s args (Jvm.Cond.code yX11_list prog_1_method_11_code 1 (some .int) :: zg_tb) RX11 := ⟨B.exec, B.bytes, hml, findClass_of_methodNamed B.named, atoms_spec (ws := (Jvm.Cond.code yX11_list prog_1_method_11_code 1 (some .int) :: zg_tb)) B.pre⟩
  exact ⟨List.forall_mem_cons.mpr ⟨zg_gp S (hK.2.1 11 _ rfl) (fun w h => (List.mem_cons_of_mem _ (zc11 w h))) rfl zt11_14 (List.mem_cons_of_mem _ zw2_67) rfl, fun _ h => absurd h List.not_mem_nil⟩,
    fun _ h => absurd h List.not_mem_nil,
    fun _ h => absurd h List.not_mem_nil,
    fun _ h => absurd h List.not_mem_nil,
    fun h => absurd rfl h,
    fun _ h => absurd h List.not_mem_nil,
    fun _ h => absurd h List.not_mem_nil⟩
set_option maxRecDepth 100000 in
theorem qm386 {l : Launch} {D : zk_D} {base : Nat} {Hb : Heap} : zk_Met l qK D base Hb (zg_K D base Hb) yX11_list (Jvm.Cond.code yX11_list prog_1_method_11_code 1 (some .int) :: zg_tb) qR386 qC386 := zk_met (ws' := zg_tb) (P := qP386) (AT := zg_AT) zpn_X11 rfl rfl rfl qk386 (fun s hK => zg_wd hK) (fun p e s m args below meth c s₁ Q B hml hK => qo386 B hml hK) (fun p e s m args below meth c s₁ v G0 H0 B hml hK ha hp hF q hq => absurd hq List.not_mem_nil)
set_option maxRecDepth 100000 in
def qR387 : Room := { frames := 1, cells := 0, slots := 0, locals := 20 }
set_option maxHeartbeats 4000000 in
set_option maxRecDepth 100000 in
theorem qo387 {p : Program} {l : Launch} {e : Env} {s : State} {m : MethodId} {args : Array Value} {below : List Frame} {meth : Method} {c : Code} {s₁ : State} {Q : State → Prop} {D : zk_D} {base : Nat} {Hb : Heap} (B : BodyLoose p l yX12_list (headSpec (Jvm.Cond.code yX12_list prog_14_method_76_code 1 (some .int) :: zg_tb) qR387) prog_14_method_76_code 1 (some .int) e s m args below meth c s₁) (hml : c.maxLocals = 1) (hK : zg_K D base Hb s) : zk_ok p l e (headSpec (Jvm.Cond.code yX12_list prog_14_method_76_code 1 (some .int) :: zg_tb) qR387).room s m args below meth c Q qK D base Hb 1 prog_14_method_76_code qP387 qC387.2.2.2.2 := by
  have S : CallFix p m c prog_14_method_76_code 1 s args (Jvm.Cond.code yX12_list prog_14_method_76_code 1 (some .int) :: zg_tb) RX12 := ⟨B.exec, B.bytes, hml, findClass_of_methodNamed B.named, atoms_spec (ws := (Jvm.Cond.code yX12_list prog_14_method_76_code 1 (some .int) :: zg_tb)) B.pre⟩
  exact ⟨List.forall_mem_cons.mpr ⟨zg_gp S (hK.2.1 12 _ rfl) (fun w h => (List.mem_cons_of_mem _ (zc12 w h))) rfl zt12_57 (List.mem_cons_of_mem _ zw5_216) rfl, fun _ h => absurd h List.not_mem_nil⟩,
    fun _ h => absurd h List.not_mem_nil,
    fun _ h => absurd h List.not_mem_nil,
    fun _ h => absurd h List.not_mem_nil,
    fun h => absurd rfl h,
    fun _ h => absurd h List.not_mem_nil,
    fun _ h => absurd h List.not_mem_nil⟩
set_option maxRecDepth 100000 in
theorem qm387 {l : Launch} {D : zk_D} {base : Nat} {Hb : Heap} : zk_Met l qK D base Hb (zg_K D base Hb) yX12_list (Jvm.Cond.code yX12_list prog_14_method_76_code 1 (some .int) :: zg_tb) qR387 qC387 := zk_met (ws' := zg_tb) (P := qP387) (AT := zg_AT) zpn_X12 rfl rfl rfl qk387 (fun s hK => zg_wd hK) (fun p e s m args below meth c s₁ Q B hml hK => qo387 B hml hK) (fun p e s m args below meth c s₁ v G0 H0 B hml hK ha hp hF q hq => absurd hq List.not_mem_nil)
set_option maxRecDepth 100000 in
def qR388 : Room := { frames := 1, cells := 0, slots := 0, locals := 20 }
set_option maxHeartbeats 4000000 in
set_option maxRecDepth 100000 in
theorem qo388 {p : Program} {l : Launch} {e : Env} {s : State} {m : MethodId} {args : Array Value} {below : List Frame} {meth : Method} {c : Code} {s₁ : State} {Q : State → Prop} {D : zk_D} {base : Nat} {Hb : Heap} (B : BodyLoose p l yX5_ask (headSpec (Jvm.Cond.code yX5_ask prog_7_method_6_code 4 (some .boolean) :: zg_tb) qR388) prog_7_method_6_code 4 (some .boolean) e s m args below meth c s₁) (hml : c.maxLocals = 4) (hK : zg_K D base Hb s) : zk_ok p l e (headSpec (Jvm.Cond.code yX5_ask prog_7_method_6_code 4 (some .boolean) :: zg_tb) qR388).room s m args below meth c Q qK D base Hb 4 prog_7_method_6_code qP388 qC388.2.2.2.2 := by
  have S : CallFix p m c prog_7_method_6_code 4 s args (Jvm.Cond.code yX5_ask prog_7_method_6_code 4 (some .boolean) :: zg_tb) RX5 := ⟨B.exec, B.bytes, hml, findClass_of_methodNamed B.named, atoms_spec (ws := (Jvm.Cond.code yX5_ask prog_7_method_6_code 4 (some .boolean) :: zg_tb)) B.pre⟩
  exact ⟨List.forall_mem_cons.mpr ⟨zg_gp S (hK.2.1 5 _ rfl) (fun w h => (List.mem_cons_of_mem _ (zc5 w h))) rfl zt5_9 (List.mem_cons_of_mem _ zw1_189) rfl, List.forall_mem_cons.mpr ⟨zg_gp4 S (hK.2.1 5 _ rfl) (fun w h => (List.mem_cons_of_mem _ (zc5 w h))) rfl zt5_6 (List.mem_cons_of_mem _ zw1_186), List.forall_mem_cons.mpr ⟨zg_gp4 S (hK.2.1 5 _ rfl) (fun w h => (List.mem_cons_of_mem _ (zc5 w h))) rfl zt5_7 (List.mem_cons_of_mem _ zw1_187), List.forall_mem_cons.mpr ⟨zg_gp4 S (hK.2.1 5 _ rfl) (fun w h => (List.mem_cons_of_mem _ (zc5 w h))) rfl zt5_8 (List.mem_cons_of_mem _ zw1_188), fun _ h => absurd h List.not_mem_nil⟩⟩⟩⟩,
    fun _ h => absurd h List.not_mem_nil,
    fun _ h => absurd h List.not_mem_nil,
    fun _ h => absurd h List.not_mem_nil,
    fun h => absurd rfl h,
    fun _ h => absurd h List.not_mem_nil,
    fun _ h => absurd h List.not_mem_nil⟩
set_option maxRecDepth 100000 in
theorem qm388 {l : Launch} {D : zk_D} {base : Nat} {Hb : Heap} : zk_Met l qK D base Hb (zg_K D base Hb) yX5_ask (Jvm.Cond.code yX5_ask prog_7_method_6_code 4 (some .boolean) :: zg_tb) qR388 qC388 := zk_met (ws' := zg_tb) (P := qP388) (AT := zg_AT) zpn_X5 rfl rfl rfl qk388 (fun s hK => zg_wd hK) (fun p e s m args below meth c s₁ Q B hml hK => qo388 B hml hK) (fun p e s m args below meth c s₁ v G0 H0 B hml hK ha hp hF q hq => absurd hq List.not_mem_nil)
set_option maxRecDepth 100000 in
def qR389 : Room := { frames := 2, cells := 0, slots := 0, locals := 43 }
set_option maxHeartbeats 4000000 in
set_option maxRecDepth 100000 in
theorem qo389 {p : Program} {l : Launch} {e : Env} {s : State} {m : MethodId} {args : Array Value} {below : List Frame} {meth : Method} {c : Code} {s₁ : State} {Q : State → Prop} {D : zk_D} {base : Nat} {Hb : Heap} (B : BodyLoose p l yX11_off (headSpec (Jvm.Cond.code yX11_off prog_1_method_12_code 3 (some .boolean) :: zg_tb) qR389) prog_1_method_12_code 3 (some .boolean) e s m args below meth c s₁) (hml : c.maxLocals = 3) (hK : zg_K D base Hb s) : zk_ok p l e (headSpec (Jvm.Cond.code yX11_off prog_1_method_12_code 3 (some .boolean) :: zg_tb) qR389).room s m args below meth c Q qK D base Hb 3 prog_1_method_12_code qP389 qC389.2.2.2.2 := by
  have S : CallFix p m c prog_1_method_12_code 3 s args (Jvm.Cond.code yX11_off prog_1_method_12_code 3 (some .boolean) :: zg_tb) RX11 := ⟨B.exec, B.bytes, hml, findClass_of_methodNamed B.named, atoms_spec (ws := (Jvm.Cond.code yX11_off prog_1_method_12_code 3 (some .boolean) :: zg_tb)) B.pre⟩
  exact ⟨List.forall_mem_cons.mpr ⟨zg_gp4 S (hK.2.1 11 _ rfl) (fun w h => (List.mem_cons_of_mem _ (zc11 w h))) rfl zt11_0 (List.mem_cons_of_mem _ zw2_53), List.forall_mem_cons.mpr ⟨zg_gp4 S (hK.2.1 11 _ rfl) (fun w h => (List.mem_cons_of_mem _ (zc11 w h))) rfl zt11_5 (List.mem_cons_of_mem _ zw2_58), List.forall_mem_cons.mpr ⟨zg_gp S (hK.2.1 11 _ rfl) (fun w h => (List.mem_cons_of_mem _ (zc11 w h))) rfl zt11_13 (List.mem_cons_of_mem _ zw2_66) rfl, fun _ h => absurd h List.not_mem_nil⟩⟩⟩,
    fun _ h => absurd h List.not_mem_nil,
    fun _ h => absurd h List.not_mem_nil,
    fun _ h => absurd h List.not_mem_nil,
    fun h => absurd rfl h,
    fun _ h => absurd h List.not_mem_nil,
    List.forall_mem_cons.mpr ⟨zg_callV (fun w h => List.mem_cons_of_mem _ h) zg_tb_all S hK zg_Km qm367 zw3_73 zy_yX11_hasList_V (ci := 11) (by decide +kernel) (hK.2.1 11 _ rfl).2.1 ⟨rfl, rfl⟩ (zk_dg_ok qdo_1_12 (by decide +kernel)), List.forall_mem_cons.mpr ⟨zg_callV (fun w h => List.mem_cons_of_mem _ h) zg_tb_all S hK zg_Km qm16 zw2_117 zy_yX4_hasHouse_V (ci := 4) (by decide +kernel) (hK.2.1 4 _ rfl).2.1 ⟨rfl, rfl⟩ (zk_dg_ok qdo_1_12 (by decide +kernel)), List.forall_mem_cons.mpr ⟨zg_callV (fun w h => List.mem_cons_of_mem _ h) zg_tb_all S hK zg_Km qm388 zw3_124 zy_yX5_ask_V (ci := 5) (by decide +kernel) (hK.2.1 5 _ rfl).2.1 ⟨rfl, rfl⟩ (zk_dg_ok qdo_1_12 (by decide +kernel)), fun _ h => absurd h List.not_mem_nil⟩⟩⟩⟩
set_option maxRecDepth 100000 in
theorem qm389 {l : Launch} {D : zk_D} {base : Nat} {Hb : Heap} : zk_Met l qK D base Hb (zg_K D base Hb) yX11_off (Jvm.Cond.code yX11_off prog_1_method_12_code 3 (some .boolean) :: zg_tb) qR389 qC389 := zk_met (ws' := zg_tb) (P := qP389) (AT := zg_AT) zpn_X11 rfl rfl rfl qk389 (fun s hK => zg_wd hK) (fun p e s m args below meth c s₁ Q B hml hK => qo389 B hml hK) (fun p e s m args below meth c s₁ v G0 H0 B hml hK ha hp hF q hq => absurd hq List.not_mem_nil)
set_option maxRecDepth 100000 in
def qR390 : Room := { frames := 1, cells := 0, slots := 0, locals := 20 }
set_option maxHeartbeats 4000000 in
set_option maxRecDepth 100000 in
theorem qo390 {p : Program} {l : Launch} {e : Env} {s : State} {m : MethodId} {args : Array Value} {below : List Frame} {meth : Method} {c : Code} {s₁ : State} {Q : State → Prop} {D : zk_D} {base : Nat} {Hb : Heap} (B : BodyLoose p l yX12_in (headSpec (Jvm.Cond.code yX12_in prog_14_method_1_code 3 (some .boolean) :: zg_tb) qR390) prog_14_method_1_code 3 (some .boolean) e s m args below meth c s₁) (hml : c.maxLocals = 3) (hK : zg_K D base Hb s) : zk_ok p l e (headSpec (Jvm.Cond.code yX12_in prog_14_method_1_code 3 (some .boolean) :: zg_tb) qR390).room s m args below meth c Q qK D base Hb 3 prog_14_method_1_code qP390 qC390.2.2.2.2 := by
  have S : CallFix p m c prog_14_method_1_code 3 s args (Jvm.Cond.code yX12_in prog_14_method_1_code 3 (some .boolean) :: zg_tb) RX12 := ⟨B.exec, B.bytes, hml, findClass_of_methodNamed B.named, atoms_spec (ws := (Jvm.Cond.code yX12_in prog_14_method_1_code 3 (some .boolean) :: zg_tb)) B.pre⟩
  exact ⟨fun _ h => absurd h List.not_mem_nil,
    fun _ h => absurd h List.not_mem_nil,
    fun _ h => absurd h List.not_mem_nil,
    fun _ h => absurd h List.not_mem_nil,
    fun h => absurd rfl h,
    fun _ h => absurd h List.not_mem_nil,
    fun _ h => absurd h List.not_mem_nil⟩
set_option maxRecDepth 100000 in
theorem qm390 {l : Launch} {D : zk_D} {base : Nat} {Hb : Heap} : zk_Met l qK D base Hb (zg_K D base Hb) yX12_in (Jvm.Cond.code yX12_in prog_14_method_1_code 3 (some .boolean) :: zg_tb) qR390 qC390 := zk_met (ws' := zg_tb) (P := qP390) (AT := zg_AT) zpn_X12 rfl rfl rfl qk390 (fun s hK => zg_wd hK) (fun p e s m args below meth c s₁ Q B hml hK => qo390 B hml hK) (fun p e s m args below meth c s₁ v G0 H0 B hml hK ha hp hF q hq => absurd hq List.not_mem_nil)
set_option maxRecDepth 100000 in
def qR391 : Room := { frames := 2, cells := 0, slots := 0, locals := 42 }
set_option maxHeartbeats 4000000 in
set_option maxRecDepth 100000 in
theorem qo391 {p : Program} {l : Launch} {e : Env} {s : State} {m : MethodId} {args : Array Value} {below : List Frame} {meth : Method} {c : Code} {s₁ : State} {Q : State → Prop} {D : zk_D} {base : Nat} {Hb : Heap} (B : BodyLoose p l yX12_isList (headSpec (Jvm.Cond.code yX12_isList prog_14_method_77_code 2 (some .boolean) :: zg_tb) qR391) prog_14_method_77_code 2 (some .boolean) e s m args below meth c s₁) (hml : c.maxLocals = 2) (hK : zg_K D base Hb s) : zk_ok p l e (headSpec (Jvm.Cond.code yX12_isList prog_14_method_77_code 2 (some .boolean) :: zg_tb) qR391).room s m args below meth c Q qK D base Hb 2 prog_14_method_77_code qP391 qC391.2.2.2.2 := by
  have S : CallFix p m c prog_14_method_77_code 2 s args (Jvm.Cond.code yX12_isList prog_14_method_77_code 2 (some .boolean) :: zg_tb) RX12 := ⟨B.exec, B.bytes, hml, findClass_of_methodNamed B.named, atoms_spec (ws := (Jvm.Cond.code yX12_isList prog_14_method_77_code 2 (some .boolean) :: zg_tb)) B.pre⟩
  exact ⟨List.forall_mem_cons.mpr ⟨zg_gp S (hK.2.1 12 _ rfl) (fun w h => (List.mem_cons_of_mem _ (zc12 w h))) rfl zt12_57 (List.mem_cons_of_mem _ zw5_216) rfl, fun _ h => absurd h List.not_mem_nil⟩,
    fun _ h => absurd h List.not_mem_nil,
    fun _ h => absurd h List.not_mem_nil,
    fun _ h => absurd h List.not_mem_nil,
    fun h => absurd rfl h,
    fun _ h => absurd h List.not_mem_nil,
    List.forall_mem_cons.mpr ⟨zg_callS (fun w h => List.mem_cons_of_mem _ h) zg_tb_all S hK zg_Km qm390 zw6_145 zy_yX12_in_S (by decide +kernel) ⟨rfl, rfl⟩ (zk_dg_ok qdo_14_77 (by decide +kernel)), fun _ h => absurd h List.not_mem_nil⟩⟩
set_option maxRecDepth 100000 in
theorem qm391 {l : Launch} {D : zk_D} {base : Nat} {Hb : Heap} : zk_Met l qK D base Hb (zg_K D base Hb) yX12_isList (Jvm.Cond.code yX12_isList prog_14_method_77_code 2 (some .boolean) :: zg_tb) qR391 qC391 := zk_met (ws' := zg_tb) (P := qP391) (AT := zg_AT) zpn_X12 rfl rfl rfl qk391 (fun s hK => zg_wd hK) (fun p e s m args below meth c s₁ Q B hml hK => qo391 B hml hK) (fun p e s m args below meth c s₁ v G0 H0 B hml hK ha hp hF q hq => absurd hq List.not_mem_nil)
set_option maxRecDepth 100000 in
def qR392 : Room := { frames := 3, cells := 0, slots := 0, locals := 63 }
set_option maxHeartbeats 4000000 in
set_option maxRecDepth 100000 in
theorem qo392 {p : Program} {l : Launch} {e : Env} {s : State} {m : MethodId} {args : Array Value} {below : List Frame} {meth : Method} {c : Code} {s₁ : State} {Q : State → Prop} {D : zk_D} {base : Nat} {Hb : Heap} (B : BodyLoose p l yX12_off (headSpec (Jvm.Cond.code yX12_off prog_14_method_78_code 3 (some .boolean) :: zg_tb) qR392) prog_14_method_78_code 3 (some .boolean) e s m args below meth c s₁) (hml : c.maxLocals = 3) (hK : zg_K D base Hb s) : zk_ok p l e (headSpec (Jvm.Cond.code yX12_off prog_14_method_78_code 3 (some .boolean) :: zg_tb) qR392).room s m args below meth c Q qK D base Hb 3 prog_14_method_78_code qP392 qC392.2.2.2.2 := by
  have S : CallFix p m c prog_14_method_78_code 3 s args (Jvm.Cond.code yX12_off prog_14_method_78_code 3 (some .boolean) :: zg_tb) RX12 := ⟨B.exec, B.bytes, hml, findClass_of_methodNamed B.named, atoms_spec (ws := (Jvm.Cond.code yX12_off prog_14_method_78_code 3 (some .boolean) :: zg_tb)) B.pre⟩
  exact ⟨List.forall_mem_cons.mpr ⟨zg_gp S (hK.2.1 12 _ rfl) (fun w h => (List.mem_cons_of_mem _ (zc12 w h))) rfl zt12_58 (List.mem_cons_of_mem _ zw5_217) rfl, List.forall_mem_cons.mpr ⟨zg_gp4 S (hK.2.1 12 _ rfl) (fun w h => (List.mem_cons_of_mem _ (zc12 w h))) rfl zt12_54 (List.mem_cons_of_mem _ zw5_213), List.forall_mem_cons.mpr ⟨zg_gp4 S (hK.2.1 12 _ rfl) (fun w h => (List.mem_cons_of_mem _ (zc12 w h))) rfl zt12_55 (List.mem_cons_of_mem _ zw5_214), List.forall_mem_cons.mpr ⟨zg_gp4 S (hK.2.1 12 _ rfl) (fun w h => (List.mem_cons_of_mem _ (zc12 w h))) rfl zt12_56 (List.mem_cons_of_mem _ zw5_215), List.forall_mem_cons.mpr ⟨zg_gp S (hK.2.1 12 _ rfl) (fun w h => (List.mem_cons_of_mem _ (zc12 w h))) rfl zt12_0 (List.mem_cons_of_mem _ zw5_159) rfl, fun _ h => absurd h List.not_mem_nil⟩⟩⟩⟩⟩,
    fun _ h => absurd h List.not_mem_nil,
    fun _ h => absurd h List.not_mem_nil,
    fun _ h => absurd h List.not_mem_nil,
    fun h => absurd rfl h,
    fun _ h => absurd h List.not_mem_nil,
    List.forall_mem_cons.mpr ⟨zg_callV (fun w h => List.mem_cons_of_mem _ h) zg_tb_all S hK zg_Km qm391 zw7_172 zy_yX12_isList_V (ci := 12) (by decide +kernel) (hK.2.1 12 _ rfl).2.1 ⟨rfl, rfl⟩ (zk_dg_ok qdo_14_78 (by decide +kernel)), List.forall_mem_cons.mpr ⟨zg_callV (fun w h => List.mem_cons_of_mem _ h) zg_tb_all S hK zg_Km qm21 zw6_141 zy_yX12_isHouse_V (ci := 12) (by decide +kernel) (hK.2.1 12 _ rfl).2.1 ⟨rfl, rfl⟩ (zk_dg_ok qdo_14_78 (by decide +kernel)), fun _ h => absurd h List.not_mem_nil⟩⟩⟩
set_option maxRecDepth 100000 in
theorem qm392 {l : Launch} {D : zk_D} {base : Nat} {Hb : Heap} : zk_Met l qK D base Hb (zg_K D base Hb) yX12_off (Jvm.Cond.code yX12_off prog_14_method_78_code 3 (some .boolean) :: zg_tb) qR392 qC392 := zk_met (ws' := zg_tb) (P := qP392) (AT := zg_AT) zpn_X12 rfl rfl rfl qk392 (fun s hK => zg_wd hK) (fun p e s m args below meth c s₁ Q B hml hK => qo392 B hml hK) (fun p e s m args below meth c s₁ v G0 H0 B hml hK ha hp hF q hq => absurd hq List.not_mem_nil)
set_option maxRecDepth 100000 in
def qR393 : Room := { frames := 1, cells := 0, slots := 0, locals := 20 }
set_option maxHeartbeats 4000000 in
set_option maxRecDepth 100000 in
theorem qo393 {p : Program} {l : Launch} {e : Env} {s : State} {m : MethodId} {args : Array Value} {below : List Frame} {meth : Method} {c : Code} {s₁ : State} {Q : State → Prop} {D : zk_D} {base : Nat} {Hb : Heap} (B : BodyLoose p l yJ7_fill_53178 (headSpec (Jvm.Cond.code yJ7_fill_53178 prog_23_method_103_code 4 none :: zg_tb) qR393) prog_23_method_103_code 4 none e s m args below meth c s₁) (hml : c.maxLocals = 4) (hK : zg_K D base Hb s) : zk_ok p l e (headSpec (Jvm.Cond.code yJ7_fill_53178 prog_23_method_103_code 4 none :: zg_tb) qR393).room s m args below meth c Q qK D base Hb 4 prog_23_method_103_code qP393 qC393.2.2.2.2 := by
  have S : CallFix p m c prog_23_method_103_code 4 s args (Jvm.Cond.code yJ7_fill_53178 prog_23_method_103_code 4 none :: zg_tb) RJ7 := ⟨B.exec, B.bytes, hml, findClass_of_methodNamed B.named, atoms_spec (ws := (Jvm.Cond.code yJ7_fill_53178 prog_23_method_103_code 4 none :: zg_tb)) B.pre⟩
  exact ⟨fun _ h => absurd h List.not_mem_nil,
    fun _ h => absurd h List.not_mem_nil,
    fun _ h => absurd h List.not_mem_nil,
    fun _ h => absurd h List.not_mem_nil,
    fun h => absurd rfl h,
    fun _ h => absurd h List.not_mem_nil,
    fun _ h => absurd h List.not_mem_nil⟩
set_option maxRecDepth 100000 in
theorem zpn_J7 : plainName RJ7 = true := by decide +kernel
set_option maxRecDepth 100000 in
theorem qm393 {l : Launch} {D : zk_D} {base : Nat} {Hb : Heap} : zk_Met l qK D base Hb (zg_K D base Hb) yJ7_fill_53178 (Jvm.Cond.code yJ7_fill_53178 prog_23_method_103_code 4 none :: zg_tb) qR393 qC393 := zk_met (ws' := zg_tb) (P := qP393) (AT := zg_AT) zpn_J7 rfl rfl rfl qk393 (fun s hK => zg_wd hK) (fun p e s m args below meth c s₁ Q B hml hK => qo393 B hml hK) (fun p e s m args below meth c s₁ v G0 H0 B hml hK ha hp hF q hq => absurd hq List.not_mem_nil)
set_option maxRecDepth 100000 in
def qR394 : Room := { frames := 2, cells := 0, slots := 0, locals := 43 }
set_option maxHeartbeats 4000000 in
set_option maxRecDepth 100000 in
theorem qo394 {p : Program} {l : Launch} {e : Env} {s : State} {m : MethodId} {args : Array Value} {below : List Frame} {meth : Method} {c : Code} {s₁ : State} {Q : State → Prop} {D : zk_D} {base : Nat} {Hb : Heap} (B : BodyLoose p l yX3_know (headSpec (Jvm.Cond.code yX3_know prog_5_method_3_code 3 none :: zg_tb) qR394) prog_5_method_3_code 3 none e s m args below meth c s₁) (hml : c.maxLocals = 3) (hK : zg_K D base Hb s) : zk_ok p l e (headSpec (Jvm.Cond.code yX3_know prog_5_method_3_code 3 none :: zg_tb) qR394).room s m args below meth c Q qK D base Hb 3 prog_5_method_3_code qP394 qC394.2.2.2.2 := by
  have S : CallFix p m c prog_5_method_3_code 3 s args (Jvm.Cond.code yX3_know prog_5_method_3_code 3 none :: zg_tb) RX3 := ⟨B.exec, B.bytes, hml, findClass_of_methodNamed B.named, atoms_spec (ws := (Jvm.Cond.code yX3_know prog_5_method_3_code 3 none :: zg_tb)) B.pre⟩
  exact ⟨List.forall_mem_cons.mpr ⟨zg_gp4 S (hK.2.1 3 _ rfl) (fun w h => (List.mem_cons_of_mem _ (zc3 w h))) rfl zt3_3 (List.mem_cons_of_mem _ zw2_11), List.forall_mem_cons.mpr ⟨zg_gp S (hK.2.1 3 _ rfl) (fun w h => (List.mem_cons_of_mem _ (zc3 w h))) rfl zt3_4 (List.mem_cons_of_mem _ zw2_13) rfl, List.forall_mem_cons.mpr ⟨zg_gp4 S (hK.2.1 3 _ rfl) (fun w h => (List.mem_cons_of_mem _ (zc3 w h))) rfl zt3_1 (List.mem_cons_of_mem _ zw2_9), List.forall_mem_cons.mpr ⟨zg_gp4 S (hK.2.1 3 _ rfl) (fun w h => (List.mem_cons_of_mem _ (zc3 w h))) rfl zt3_0 (List.mem_cons_of_mem _ zw2_8), List.forall_mem_cons.mpr ⟨zg_gp4 S (hK.2.1 3 _ rfl) (fun w h => (List.mem_cons_of_mem _ (zc3 w h))) rfl zt3_2 (List.mem_cons_of_mem _ zw2_10), fun _ h => absurd h List.not_mem_nil⟩⟩⟩⟩⟩,
    fun _ h => absurd h List.not_mem_nil,
    fun _ h => absurd h List.not_mem_nil,
    fun _ h => absurd h List.not_mem_nil,
    fun h => absurd rfl h,
    fun _ h => absurd h List.not_mem_nil,
    List.forall_mem_cons.mpr ⟨zg_callS (fun w h => List.mem_cons_of_mem _ h) zg_tb_all S hK zg_Km qm393 zw3_136 zy_yJ7_fill_53178_S (by decide +kernel) ⟨rfl, rfl⟩ (zk_dg_ok qdo_5_3 (by decide +kernel)), fun _ h => absurd h List.not_mem_nil⟩⟩
set_option maxRecDepth 100000 in
theorem qm394 {l : Launch} {D : zk_D} {base : Nat} {Hb : Heap} : zk_Met l qK D base Hb (zg_K D base Hb) yX3_know (Jvm.Cond.code yX3_know prog_5_method_3_code 3 none :: zg_tb) qR394 qC394 := zk_met (ws' := zg_tb) (P := qP394) (AT := zg_AT) zpn_X3 rfl rfl rfl qk394 (fun s hK => zg_wd hK) (fun p e s m args below meth c s₁ Q B hml hK => qo394 B hml hK) (fun p e s m args below meth c s₁ v G0 H0 B hml hK ha hp hF q hq => absurd hq List.not_mem_nil)
set_option maxRecDepth 100000 in
def qR395 : Room := { frames := 1, cells := 0, slots := 0, locals := 20 }
set_option maxHeartbeats 4000000 in
set_option maxRecDepth 100000 in
theorem qo395 {p : Program} {l : Launch} {e : Env} {s : State} {m : MethodId} {args : Array Value} {below : List Frame} {meth : Method} {c : Code} {s₁ : State} {Q : State → Prop} {D : zk_D} {base : Nat} {Hb : Heap} (B : BodyLoose p l yX5_codeOf (headSpec (Jvm.Cond.code yX5_codeOf prog_7_method_4_code 2 (some (.array .int)) :: zg_tb) qR395) prog_7_method_4_code 2 (some (.array .int)) e s m args below meth c s₁) (hml : c.maxLocals = 2) (hK : zg_K D base Hb s) : zk_ok p l e (headSpec (Jvm.Cond.code yX5_codeOf prog_7_method_4_code 2 (some (.array .int)) :: zg_tb) qR395).room s m args below meth c Q qK D base Hb 2 prog_7_method_4_code qP395 qC395.2.2.2.2 := by
  have S : CallFix p m c prog_7_method_4_code 2 s args (Jvm.Cond.code yX5_codeOf prog_7_method_4_code 2 (some (.array .int)) :: zg_tb) RX5 := ⟨B.exec, B.bytes, hml, findClass_of_methodNamed B.named, atoms_spec (ws := (Jvm.Cond.code yX5_codeOf prog_7_method_4_code 2 (some (.array .int)) :: zg_tb)) B.pre⟩
  exact ⟨List.forall_mem_cons.mpr ⟨zg_gp S (hK.2.1 5 _ rfl) (fun w h => (List.mem_cons_of_mem _ (zc5 w h))) rfl zt5_5 (List.mem_cons_of_mem _ zw1_184) rfl, List.forall_mem_cons.mpr ⟨zg_gp4 S (hK.2.1 5 _ rfl) (fun w h => (List.mem_cons_of_mem _ (zc5 w h))) rfl zt5_4 (List.mem_cons_of_mem _ zw1_183), fun _ h => absurd h List.not_mem_nil⟩⟩,
    fun _ h => absurd h List.not_mem_nil,
    fun _ h => absurd h List.not_mem_nil,
    fun _ h => absurd h List.not_mem_nil,
    fun h => absurd rfl h,
    fun _ h => absurd h List.not_mem_nil,
    fun _ h => absurd h List.not_mem_nil⟩
set_option maxRecDepth 100000 in
theorem qm395 {l : Launch} {D : zk_D} {base : Nat} {Hb : Heap} : zk_Met l qK D base Hb (zg_K D base Hb) yX5_codeOf (Jvm.Cond.code yX5_codeOf prog_7_method_4_code 2 (some (.array .int)) :: zg_tb) qR395 qC395 := zk_met (ws' := zg_tb) (P := qP395) (AT := zg_AT) zpn_X5 rfl rfl rfl qk395 (fun s hK => zg_wd hK) (fun p e s m args below meth c s₁ Q B hml hK => qo395 B hml hK) (fun p e s m args below meth c s₁ v G0 H0 B hml hK ha hp hF q hq => absurd hq List.not_mem_nil)
set_option maxRecDepth 100000 in
def qR396 : Room := { frames := 1, cells := 0, slots := 0, locals := 20 }
set_option maxHeartbeats 4000000 in
set_option maxRecDepth 100000 in
theorem qo396 {p : Program} {l : Launch} {e : Env} {s : State} {m : MethodId} {args : Array Value} {below : List Frame} {meth : Method} {c : Code} {s₁ : State} {Q : State → Prop} {D : zk_D} {base : Nat} {Hb : Heap} (B : BodyLoose p l yJ9_min_7cf53 (headSpec (Jvm.Cond.code yJ9_min_7cf53 prog_18_method_69_code 2 (some .int) :: zg_tb) qR396) prog_18_method_69_code 2 (some .int) e s m args below meth c s₁) (hml : c.maxLocals = 2) (hK : zg_K D base Hb s) : zk_ok p l e (headSpec (Jvm.Cond.code yJ9_min_7cf53 prog_18_method_69_code 2 (some .int) :: zg_tb) qR396).room s m args below meth c Q qK D base Hb 2 prog_18_method_69_code qP396 qC396.2.2.2.2 := by
  have S : CallFix p m c prog_18_method_69_code 2 s args (Jvm.Cond.code yJ9_min_7cf53 prog_18_method_69_code 2 (some .int) :: zg_tb) RJ9 := ⟨B.exec, B.bytes, hml, findClass_of_methodNamed B.named, atoms_spec (ws := (Jvm.Cond.code yJ9_min_7cf53 prog_18_method_69_code 2 (some .int) :: zg_tb)) B.pre⟩
  exact ⟨fun _ h => absurd h List.not_mem_nil,
    fun _ h => absurd h List.not_mem_nil,
    fun _ h => absurd h List.not_mem_nil,
    fun _ h => absurd h List.not_mem_nil,
    fun h => absurd rfl h,
    fun _ h => absurd h List.not_mem_nil,
    fun _ h => absurd h List.not_mem_nil⟩
set_option maxRecDepth 100000 in
theorem qm396 {l : Launch} {D : zk_D} {base : Nat} {Hb : Heap} : zk_Met l qK D base Hb (zg_K D base Hb) yJ9_min_7cf53 (Jvm.Cond.code yJ9_min_7cf53 prog_18_method_69_code 2 (some .int) :: zg_tb) qR396 qC396 := zk_metF (ws' := zg_tb) (P := qP396) (AT := zg_AT) zpf_yJ9_min_7cf53 rfl rfl rfl qk396 (fun s hK => zg_wd hK) (fun p e s m args below meth c s₁ Q B hml hK => qo396 B hml hK) (fun p e s m args below meth c s₁ v G0 H0 B hml hK ha hp hF q hq => absurd hq List.not_mem_nil)
set_option maxRecDepth 100000 in
def qR397 : Room := { frames := 1, cells := 0, slots := 0, locals := 20 }
set_option maxHeartbeats 4000000 in
set_option maxRecDepth 100000 in
theorem qo397 {p : Program} {l : Launch} {e : Env} {s : State} {m : MethodId} {args : Array Value} {below : List Frame} {meth : Method} {c : Code} {s₁ : State} {Q : State → Prop} {D : zk_D} {base : Nat} {Hb : Heap} (B : BodyLoose p l yX5_lastAsked (headSpec (Jvm.Cond.code yX5_lastAsked prog_7_method_7_code 6 (some .int) :: zg_tb) qR397) prog_7_method_7_code 6 (some .int) e s m args below meth c s₁) (hml : c.maxLocals = 6) (hK : zg_K D base Hb s) : zk_ok p l e (headSpec (Jvm.Cond.code yX5_lastAsked prog_7_method_7_code 6 (some .int) :: zg_tb) qR397).room s m args below meth c Q qK D base Hb 6 prog_7_method_7_code qP397 qC397.2.2.2.2 := by
  have S : CallFix p m c prog_7_method_7_code 6 s args (Jvm.Cond.code yX5_lastAsked prog_7_method_7_code 6 (some .int) :: zg_tb) RX5 := ⟨B.exec, B.bytes, hml, findClass_of_methodNamed B.named, atoms_spec (ws := (Jvm.Cond.code yX5_lastAsked prog_7_method_7_code 6 (some .int) :: zg_tb)) B.pre⟩
  exact ⟨List.forall_mem_cons.mpr ⟨zg_gp S (hK.2.1 5 _ rfl) (fun w h => (List.mem_cons_of_mem _ (zc5 w h))) rfl zt5_9 (List.mem_cons_of_mem _ zw1_189) rfl, List.forall_mem_cons.mpr ⟨zg_gp4 S (hK.2.1 5 _ rfl) (fun w h => (List.mem_cons_of_mem _ (zc5 w h))) rfl zt5_8 (List.mem_cons_of_mem _ zw1_188), List.forall_mem_cons.mpr ⟨zg_gp4 S (hK.2.1 5 _ rfl) (fun w h => (List.mem_cons_of_mem _ (zc5 w h))) rfl zt5_6 (List.mem_cons_of_mem _ zw1_186), List.forall_mem_cons.mpr ⟨zg_gp4 S (hK.2.1 5 _ rfl) (fun w h => (List.mem_cons_of_mem _ (zc5 w h))) rfl zt5_7 (List.mem_cons_of_mem _ zw1_187), fun _ h => absurd h List.not_mem_nil⟩⟩⟩⟩,
    fun _ h => absurd h List.not_mem_nil,
    fun _ h => absurd h List.not_mem_nil,
    fun _ h => absurd h List.not_mem_nil,
    fun h => absurd rfl h,
    fun _ h => absurd h List.not_mem_nil,
    fun _ h => absurd h List.not_mem_nil⟩
set_option maxRecDepth 100000 in
theorem qm397 {l : Launch} {D : zk_D} {base : Nat} {Hb : Heap} : zk_Met l qK D base Hb (zg_K D base Hb) yX5_lastAsked (Jvm.Cond.code yX5_lastAsked prog_7_method_7_code 6 (some .int) :: zg_tb) qR397 qC397 := zk_met (ws' := zg_tb) (P := qP397) (AT := zg_AT) zpn_X5 rfl rfl rfl qk397 (fun s hK => zg_wd hK) (fun p e s m args below meth c s₁ Q B hml hK => qo397 B hml hK) (fun p e s m args below meth c s₁ v G0 H0 B hml hK ha hp hF q hq => absurd hq List.not_mem_nil)
set_option maxRecDepth 100000 in
def qR398 : Room := { frames := 1, cells := 0, slots := 0, locals := 20 }
set_option maxHeartbeats 4000000 in
set_option maxRecDepth 100000 in
theorem qo398 {p : Program} {l : Launch} {e : Env} {s : State} {m : MethodId} {args : Array Value} {below : List Frame} {meth : Method} {c : Code} {s₁ : State} {Q : State → Prop} {D : zk_D} {base : Nat} {Hb : Heap} (B : BodyLoose p l yJ7_fill_53178 (headSpec (Jvm.Cond.code yJ7_fill_53178 prog_23_method_103_code 4 none :: zg_tb) qR398) prog_23_method_103_code 4 none e s m args below meth c s₁) (hml : c.maxLocals = 4) (hK : zg_K D base Hb s) : zk_ok p l e (headSpec (Jvm.Cond.code yJ7_fill_53178 prog_23_method_103_code 4 none :: zg_tb) qR398).room s m args below meth c Q qK D base Hb 4 prog_23_method_103_code qP398 qC398.2.2.2.2 := by
  have S : CallFix p m c prog_23_method_103_code 4 s args (Jvm.Cond.code yJ7_fill_53178 prog_23_method_103_code 4 none :: zg_tb) RJ7 := ⟨B.exec, B.bytes, hml, findClass_of_methodNamed B.named, atoms_spec (ws := (Jvm.Cond.code yJ7_fill_53178 prog_23_method_103_code 4 none :: zg_tb)) B.pre⟩
  exact ⟨fun _ h => absurd h List.not_mem_nil,
    fun _ h => absurd h List.not_mem_nil,
    fun _ h => absurd h List.not_mem_nil,
    fun _ h => absurd h List.not_mem_nil,
    fun h => absurd rfl h,
    fun _ h => absurd h List.not_mem_nil,
    fun _ h => absurd h List.not_mem_nil⟩
set_option maxRecDepth 100000 in
theorem qm398 {l : Launch} {D : zk_D} {base : Nat} {Hb : Heap} : zk_Met l qK D base Hb (zg_K D base Hb) yJ7_fill_53178 (Jvm.Cond.code yJ7_fill_53178 prog_23_method_103_code 4 none :: zg_tb) qR398 qC398 := zk_met (ws' := zg_tb) (P := qP398) (AT := zg_AT) zpn_J7 rfl rfl rfl qk398 (fun s hK => zg_wd hK) (fun p e s m args below meth c s₁ Q B hml hK => qo398 B hml hK) (fun p e s m args below meth c s₁ v G0 H0 B hml hK ha hp hF q hq => absurd hq List.not_mem_nil)
set_option maxRecDepth 100000 in
def qR399 : Room := { frames := 2, cells := 0, slots := 0, locals := 43 }
set_option maxHeartbeats 4000000 in
set_option maxRecDepth 100000 in
theorem qo399 {p : Program} {l : Launch} {e : Env} {s : State} {m : MethodId} {args : Array Value} {below : List Frame} {meth : Method} {c : Code} {s₁ : State} {Q : State → Prop} {D : zk_D} {base : Nat} {Hb : Heap} (B : BodyLoose p l yX0_clear (headSpec (Jvm.Cond.code yX0_clear prog_2_method_2_code 1 none :: zg_tb) qR399) prog_2_method_2_code 1 none e s m args below meth c s₁) (hml : c.maxLocals = 1) (hK : zg_K D base Hb s) : zk_ok p l e (headSpec (Jvm.Cond.code yX0_clear prog_2_method_2_code 1 none :: zg_tb) qR399).room s m args below meth c Q qK D base Hb 1 prog_2_method_2_code qP399 qC399.2.2.2.2 := by
  have S : CallFix p m c prog_2_method_2_code 1 s args (Jvm.Cond.code yX0_clear prog_2_method_2_code 1 none :: zg_tb) RX0 := ⟨B.exec, B.bytes, hml, findClass_of_methodNamed B.named, atoms_spec (ws := (Jvm.Cond.code yX0_clear prog_2_method_2_code 1 none :: zg_tb)) B.pre⟩
  exact ⟨List.forall_mem_cons.mpr ⟨zg_gp4 S (hK.2.1 0 _ rfl) (fun w h => (List.mem_cons_of_mem _ (zc0 w h))) rfl zt0_0 (List.mem_cons_of_mem _ zw1_146), fun _ h => absurd h List.not_mem_nil⟩,
    fun _ h => absurd h List.not_mem_nil,
    fun _ h => absurd h List.not_mem_nil,
    fun _ h => absurd h List.not_mem_nil,
    fun h => absurd rfl h,
    fun _ h => absurd h List.not_mem_nil,
    List.forall_mem_cons.mpr ⟨zg_callS (fun w h => List.mem_cons_of_mem _ h) zg_tb_all S hK zg_Km qm398 zw3_156 zy_yJ7_fill_53178_S (by decide +kernel) ⟨rfl, rfl⟩ (zk_dg_ok qdo_2_2 (by decide +kernel)), fun _ h => absurd h List.not_mem_nil⟩⟩
set_option maxRecDepth 100000 in
theorem qm399 {l : Launch} {D : zk_D} {base : Nat} {Hb : Heap} : zk_Met l qK D base Hb (zg_K D base Hb) yX0_clear (Jvm.Cond.code yX0_clear prog_2_method_2_code 1 none :: zg_tb) qR399 qC399 := zk_met (ws' := zg_tb) (P := qP399) (AT := zg_AT) zpn_X0 rfl rfl rfl qk399 (fun s hK => zg_wd hK) (fun p e s m args below meth c s₁ Q B hml hK => qo399 B hml hK) (fun p e s m args below meth c s₁ v G0 H0 B hml hK ha hp hF q hq => absurd hq List.not_mem_nil)
set_option maxRecDepth 100000 in
def qR400 : Room := { frames := 1, cells := 0, slots := 0, locals := 20 }
set_option maxHeartbeats 4000000 in
set_option maxRecDepth 100000 in
theorem qo400 {p : Program} {l : Launch} {e : Env} {s : State} {m : MethodId} {args : Array Value} {below : List Frame} {meth : Method} {c : Code} {s₁ : State} {Q : State → Prop} {D : zk_D} {base : Nat} {Hb : Heap} (B : BodyLoose p l yJ0_isLatin1_aae02 (headSpec (Jvm.Cond.code yJ0_isLatin1_aae02 prog_19_method_154_code 1 (some .boolean) :: zg_tb) qR400) prog_19_method_154_code 1 (some .boolean) e s m args below meth c s₁) (hml : c.maxLocals = 1) (hK : zg_K D base Hb s) : zk_ok p l e (headSpec (Jvm.Cond.code yJ0_isLatin1_aae02 prog_19_method_154_code 1 (some .boolean) :: zg_tb) qR400).room s m args below meth c Q qK D base Hb 1 prog_19_method_154_code qP400 qC400.2.2.2.2 := by
  have S : CallFix p m c prog_19_method_154_code 1 s args (Jvm.Cond.code yJ0_isLatin1_aae02 prog_19_method_154_code 1 (some .boolean) :: zg_tb) RJ0 := ⟨B.exec, B.bytes, hml, findClass_of_methodNamed B.named, atoms_spec (ws := (Jvm.Cond.code yJ0_isLatin1_aae02 prog_19_method_154_code 1 (some .boolean) :: zg_tb)) B.pre⟩
  exact ⟨List.forall_mem_cons.mpr ⟨⟨zg_gokS S (hK.2.2.2.2.2.2.2.2.1 _ (List.mem_of_getElem? (i := 1) rfl)) (List.mem_cons_of_mem _ zw8_58), zg_pok4⟩, fun _ h => absurd h List.not_mem_nil⟩,
    fun _ h => absurd h List.not_mem_nil,
    fun _ h => absurd h List.not_mem_nil,
    fun _ h => absurd h List.not_mem_nil,
    fun h => absurd rfl h,
    List.forall_mem_cons.mpr ⟨zg_kokG S (hK.2.2.2.2.2.2.2.2.2.2.1 _ (List.mem_of_getElem? (i := 0) rfl)) (List.mem_cons_of_mem _ zw1_144) (by decide +kernel) (zk_dg_ok qdo_19_154 (by decide +kernel)), fun _ h => absurd h List.not_mem_nil⟩,
    fun _ h => absurd h List.not_mem_nil⟩
set_option maxRecDepth 100000 in
theorem qm400 {l : Launch} {D : zk_D} {base : Nat} {Hb : Heap} : zk_Met l qK D base Hb (zg_K D base Hb) yJ0_isLatin1_aae02 (Jvm.Cond.code yJ0_isLatin1_aae02 prog_19_method_154_code 1 (some .boolean) :: zg_tb) qR400 qC400 := zk_met (ws' := zg_tb) (P := qP400) (AT := zg_AT) zpn_J0 rfl rfl rfl qk400 (fun s hK => zg_wd hK) (fun p e s m args below meth c s₁ Q B hml hK => qo400 B hml hK) (fun p e s m args below meth c s₁ v G0 H0 B hml hK ha hp hF q hq => absurd hq List.not_mem_nil)
set_option maxRecDepth 100000 in
def qR401 : Room := { frames := 1, cells := 0, slots := 0, locals := 20 }
set_option maxHeartbeats 4000000 in
set_option maxRecDepth 100000 in
theorem qo401 {p : Program} {l : Launch} {e : Env} {s : State} {m : MethodId} {args : Array Value} {below : List Frame} {meth : Method} {c : Code} {s₁ : State} {Q : State → Prop} {D : zk_D} {base : Nat} {Hb : Heap} (B : BodyLoose p l yJ0_coder_7d493 (headSpec (Jvm.Cond.code yJ0_coder_7d493 prog_19_method_152_code 1 (some .byte) :: zg_tb) qR401) prog_19_method_152_code 1 (some .byte) e s m args below meth c s₁) (hml : c.maxLocals = 1) (hK : zg_K D base Hb s) : zk_ok p l e (headSpec (Jvm.Cond.code yJ0_coder_7d493 prog_19_method_152_code 1 (some .byte) :: zg_tb) qR401).room s m args below meth c Q qK D base Hb 1 prog_19_method_152_code qP401 qC401.2.2.2.2 := by
  have S : CallFix p m c prog_19_method_152_code 1 s args (Jvm.Cond.code yJ0_coder_7d493 prog_19_method_152_code 1 (some .byte) :: zg_tb) RJ0 := ⟨B.exec, B.bytes, hml, findClass_of_methodNamed B.named, atoms_spec (ws := (Jvm.Cond.code yJ0_coder_7d493 prog_19_method_152_code 1 (some .byte) :: zg_tb)) B.pre⟩
  exact ⟨List.forall_mem_cons.mpr ⟨⟨zg_gokS S (hK.2.2.2.2.2.2.2.2.1 _ (List.mem_of_getElem? (i := 1) rfl)) (List.mem_cons_of_mem _ zw8_58), zg_pok4⟩, fun _ h => absurd h List.not_mem_nil⟩,
    fun _ h => absurd h List.not_mem_nil,
    fun _ h => absurd h List.not_mem_nil,
    fun _ h => absurd h List.not_mem_nil,
    fun h => absurd rfl h,
    List.forall_mem_cons.mpr ⟨zg_kokG S (hK.2.2.2.2.2.2.2.2.2.2.1 _ (List.mem_of_getElem? (i := 0) rfl)) (List.mem_cons_of_mem _ zw1_144) (by decide +kernel) (zk_dg_ok qdo_19_152 (by decide +kernel)), fun _ h => absurd h List.not_mem_nil⟩,
    fun _ h => absurd h List.not_mem_nil⟩
set_option maxRecDepth 100000 in
theorem qm401 {l : Launch} {D : zk_D} {base : Nat} {Hb : Heap} : zk_Met l qK D base Hb (zg_K D base Hb) yJ0_coder_7d493 (Jvm.Cond.code yJ0_coder_7d493 prog_19_method_152_code 1 (some .byte) :: zg_tb) qR401 qC401 := zk_met (ws' := zg_tb) (P := qP401) (AT := zg_AT) zpn_J0 rfl rfl rfl qk401 (fun s hK => zg_wd hK) (fun p e s m args below meth c s₁ Q B hml hK => qo401 B hml hK) (fun p e s m args below meth c s₁ v G0 H0 B hml hK ha hp hF q hq => absurd hq List.not_mem_nil)
end
