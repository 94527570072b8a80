/-! CONTRACTS MET: found by wip/an (python). -/
noncomputable section
set_option maxRecDepth 100000 in
def qR514 : Room := { frames := 2, cells := 0, slots := 0, locals := 41 }
set_option maxHeartbeats 4000000 in
set_option maxRecDepth 100000 in
theorem qo514 {p : Program} {l : Launch} {e : Env} {s : State} {m : MethodId} {args : Array Value} {below : List Frame} {meth : Method} {c : Code} {s₁ : State} {Q : State → Prop} {D : zk_D} {base : Nat} {Hb : Heap} (B : BodyLoose p l yX12_put (headSpec (Jvm.Cond.code yX12_put prog_14_method_66_code 4 none :: zg_tb) qR514) prog_14_method_66_code 4 none e s m args below meth c s₁) (hml : c.maxLocals = 4) (hK : zg_K D base Hb s) : zk_ok p l e (headSpec (Jvm.Cond.code yX12_put prog_14_method_66_code 4 none :: zg_tb) qR514).room s m args below meth c Q qK D base Hb 4 prog_14_method_66_code qP514 qC514.2.2.2.2 := by
  have S : CallFix p m c prog_14_method_66_code 4 s args (Jvm.Cond.code yX12_put prog_14_method_66_code 4 none :: zg_tb) RX12 := ⟨B.exec, B.bytes, hml, findClass_of_methodNamed B.named, atoms_spec (ws := (Jvm.Cond.code yX12_put prog_14_method_66_code 4 none :: zg_tb)) B.pre⟩
  exact ⟨List.forall_mem_cons.mpr ⟨zg_gp S (hK.2.1 12 _ rfl) (fun w h => (List.mem_cons_of_mem _ (zc12 w h))) rfl zt12_52 (List.mem_cons_of_mem _ zw5_211) rfl, List.forall_mem_cons.mpr ⟨zg_gp4 S (hK.2.1 12 _ rfl) (fun w h => (List.mem_cons_of_mem _ (zc12 w h))) rfl zt12_51 (List.mem_cons_of_mem _ zw5_210), List.forall_mem_cons.mpr ⟨zg_gp4 S (hK.2.1 12 _ rfl) (fun w h => (List.mem_cons_of_mem _ (zc12 w h))) rfl zt12_50 (List.mem_cons_of_mem _ zw5_209), fun _ h => absurd h List.not_mem_nil⟩⟩⟩,
    fun _ h => absurd h List.not_mem_nil,
    fun _ h => absurd h List.not_mem_nil,
    fun _ h => absurd h List.not_mem_nil,
    fun h => absurd rfl h,
    fun _ h => absurd h List.not_mem_nil,
    List.forall_mem_cons.mpr ⟨zg_callS (fun w h => List.mem_cons_of_mem _ h) zg_tb_all S hK zg_Km qm511 zw7_139 zy_yJ9_abs_0f7a4_S (by decide +kernel) ⟨rfl, rfl⟩ (zk_dg_ok qdo_14_66 (by decide +kernel)), List.forall_mem_cons.mpr ⟨zg_callS (fun w h => List.mem_cons_of_mem _ h) zg_tb_all S hK zg_Km qm512 zw7_139 zy_yJ9_abs_0f7a4_S (by decide +kernel) ⟨rfl, rfl⟩ (zk_dg_ok qdo_14_66 (by decide +kernel)), List.forall_mem_cons.mpr ⟨zg_callS (fun w h => List.mem_cons_of_mem _ h) zg_tb_all S hK zg_Km qm513 zw7_97 zy_yJ9_min_7cf53_S (by decide +kernel) ⟨rfl, rfl⟩ (zk_dg_ok qdo_14_66 (by decide +kernel)), fun _ h => absurd h List.not_mem_nil⟩⟩⟩⟩
set_option maxRecDepth 100000 in
theorem qm514 {l : Launch} {D : zk_D} {base : Nat} {Hb : Heap} : zk_Met l qK D base Hb (zg_K D base Hb) yX12_put (Jvm.Cond.code yX12_put prog_14_method_66_code 4 none :: zg_tb) qR514 qC514 := zk_met (ws' := zg_tb) (P := qP514) (AT := zg_AT) zpn_X12 rfl rfl rfl qk514 (fun s hK => zg_wd hK) (fun p e s m args below meth c s₁ Q B hml hK => qo514 B hml hK) (fun p e s m args below meth c s₁ v G0 H0 B hml hK ha hp hF q hq => absurd hq List.not_mem_nil)
set_option maxRecDepth 100000 in
def qR515 : Room := { frames := 3, cells := 0, slots := 0, locals := 64 }
set_option maxHeartbeats 4000000 in
set_option maxRecDepth 100000 in
theorem qo515 {p : Program} {l : Launch} {e : Env} {s : State} {m : MethodId} {args : Array Value} {below : List Frame} {meth : Method} {c : Code} {s₁ : State} {Q : State → Prop} {D : zk_D} {base : Nat} {Hb : Heap} (B : BodyLoose p l yX12_weigh (headSpec (Jvm.Cond.code yX12_weigh prog_14_method_65_code 16 (some .int) :: zg_tb) qR515) prog_14_method_65_code 16 (some .int) e s m args below meth c s₁) (hml : c.maxLocals = 16) (hK : zg_K D base Hb s) : zk_ok p l e (headSpec (Jvm.Cond.code yX12_weigh prog_14_method_65_code 16 (some .int) :: zg_tb) qR515).room s m args below meth c Q qK D base Hb 16 prog_14_method_65_code qP515 qC515.2.2.2.2 := by
  have S : CallFix p m c prog_14_method_65_code 16 s args (Jvm.Cond.code yX12_weigh prog_14_method_65_code 16 (some .int) :: zg_tb) RX12 := ⟨B.exec, B.bytes, hml, findClass_of_methodNamed B.named, atoms_spec (ws := (Jvm.Cond.code yX12_weigh prog_14_method_65_code 16 (some .int) :: zg_tb)) B.pre⟩
  exact ⟨List.forall_mem_cons.mpr ⟨zg_gp S (hK.2.1 12 _ rfl) (fun w h => (List.mem_cons_of_mem _ (zc12 w h))) rfl zt12_52 (List.mem_cons_of_mem _ zw5_211) rfl, List.forall_mem_cons.mpr ⟨zg_gp S (hK.2.1 12 _ rfl) (fun w h => (List.mem_cons_of_mem _ (zc12 w h))) rfl zt12_44 (List.mem_cons_of_mem _ zw5_203) rfl, List.forall_mem_cons.mpr ⟨zg_gp4 S (hK.2.1 12 _ rfl) (fun w h => (List.mem_cons_of_mem _ (zc12 w h))) rfl zt12_48 (List.mem_cons_of_mem _ zw5_207), List.forall_mem_cons.mpr ⟨zg_gp4 S (hK.2.1 12 _ rfl) (fun w h => (List.mem_cons_of_mem _ (zc12 w h))) rfl zt12_32 (List.mem_cons_of_mem _ zw5_191), List.forall_mem_cons.mpr ⟨zg_gp4 S (hK.2.1 12 _ rfl) (fun w h => (List.mem_cons_of_mem _ (zc12 w h))) rfl zt12_34 (List.mem_cons_of_mem _ zw5_193), List.forall_mem_cons.mpr ⟨zg_gp4 S (hK.2.1 12 _ rfl) (fun w h => (List.mem_cons_of_mem _ (zc12 w h))) rfl zt12_51 (List.mem_cons_of_mem _ zw5_210), fun _ h => absurd h List.not_mem_nil⟩⟩⟩⟩⟩⟩,
    fun _ h => absurd h List.not_mem_nil,
    fun _ h => absurd h List.not_mem_nil,
    fun _ h => absurd h List.not_mem_nil,
    fun h => absurd rfl h,
    List.forall_mem_cons.mpr ⟨zg_kokL S (List.mem_cons_of_mem _ zw7_134) (by decide +kernel) (zk_dg_ok qdo_14_65 (by decide +kernel)), fun _ h => absurd h List.not_mem_nil⟩,
    List.forall_mem_cons.mpr ⟨zg_callS (fun w h => List.mem_cons_of_mem _ h) zg_tb_all S hK zg_Km qm510 zw7_131 zy_yX12_has_S (by decide +kernel) ⟨rfl, rfl⟩ (zk_dg_ok qdo_14_65 (by decide +kernel)), List.forall_mem_cons.mpr ⟨zg_callS (fun w h => List.mem_cons_of_mem _ h) zg_tb_all S hK zg_Km qm510 zw7_131 zy_yX12_has_S (by decide +kernel) ⟨rfl, rfl⟩ (zk_dg_ok qdo_14_65 (by decide +kernel)), List.forall_mem_cons.mpr ⟨zg_callV (fun w h => List.mem_cons_of_mem _ h) zg_tb_all S hK zg_Km qm514 zw7_135 zy_yX12_put_V (ci := 12) (by decide +kernel) (hK.2.1 12 _ rfl).2.1 ⟨rfl, rfl⟩ (zk_dg_ok qdo_14_65 (by decide +kernel)), fun _ h => absurd h List.not_mem_nil⟩⟩⟩⟩
set_option maxRecDepth 100000 in
theorem qm515 {l : Launch} {D : zk_D} {base : Nat} {Hb : Heap} : zk_Met l qK D base Hb (zg_K D base Hb) yX12_weigh (Jvm.Cond.code yX12_weigh prog_14_method_65_code 16 (some .int) :: zg_tb) qR515 qC515 := zk_met (ws' := zg_tb) (P := qP515) (AT := zg_AT) zpn_X12 rfl rfl rfl qk515 (fun s hK => zg_wd hK) (fun p e s m args below meth c s₁ Q B hml hK => qo515 B hml hK) (fun p e s m args below meth c s₁ v G0 H0 B hml hK ha hp hF q hq => absurd hq List.not_mem_nil)
set_option maxRecDepth 100000 in
def qR516 : Room := { frames := 4, cells := 0, slots := 0, locals := 99 }
set_option maxHeartbeats 4000000 in
set_option maxRecDepth 100000 in
theorem qo516 {p : Program} {l : Launch} {e : Env} {s : State} {m : MethodId} {args : Array Value} {below : List Frame} {meth : Method} {c : Code} {s₁ : State} {Q : State → Prop} {D : zk_D} {base : Nat} {Hb : Heap} (B : BodyLoose p l yX12_weightOf (headSpec (Jvm.Cond.code yX12_weightOf prog_14_method_67_code 2 (some .int) :: zg_tb) qR516) prog_14_method_67_code 2 (some .int) e s m args below meth c s₁) (hml : c.maxLocals = 2) (hK : zg_K D base Hb s) : zk_ok p l e (headSpec (Jvm.Cond.code yX12_weightOf prog_14_method_67_code 2 (some .int) :: zg_tb) qR516).room s m args below meth c Q qK D base Hb 2 prog_14_method_67_code qP516 qC516.2.2.2.2 := by
  have S : CallFix p m c prog_14_method_67_code 2 s args (Jvm.Cond.code yX12_weightOf prog_14_method_67_code 2 (some .int) :: zg_tb) RX12 := ⟨B.exec, B.bytes, hml, findClass_of_methodNamed B.named, atoms_spec (ws := (Jvm.Cond.code yX12_weightOf prog_14_method_67_code 2 (some .int) :: zg_tb)) B.pre⟩
  exact ⟨List.forall_mem_cons.mpr ⟨zg_gp4 S (hK.2.1 12 _ rfl) (fun w h => (List.mem_cons_of_mem _ (zc12 w h))) rfl zt12_32 (List.mem_cons_of_mem _ zw5_191), List.forall_mem_cons.mpr ⟨zg_gp4 S (hK.2.1 12 _ rfl) (fun w h => (List.mem_cons_of_mem _ (zc12 w h))) rfl zt12_34 (List.mem_cons_of_mem _ zw5_193), fun _ h => absurd h List.not_mem_nil⟩⟩,
    fun _ h => absurd h List.not_mem_nil,
    fun _ h => absurd h List.not_mem_nil,
    fun _ h => absurd h List.not_mem_nil,
    fun h => absurd rfl h,
    fun _ h => absurd h List.not_mem_nil,
    List.forall_mem_cons.mpr ⟨zg_callV (fun w h => List.mem_cons_of_mem _ h) zg_tb_all S hK zg_Km qm515 zw7_127 zy_yX12_weigh_V (ci := 12) (by decide +kernel) (hK.2.1 12 _ rfl).2.1 ⟨rfl, rfl⟩ (zk_dg_ok qdo_14_67 (by decide +kernel)), fun _ h => absurd h List.not_mem_nil⟩⟩
set_option maxRecDepth 100000 in
theorem qm516 {l : Launch} {D : zk_D} {base : Nat} {Hb : Heap} : zk_Met l qK D base Hb (zg_K D base Hb) yX12_weightOf (Jvm.Cond.code yX12_weightOf prog_14_method_67_code 2 (some .int) :: zg_tb) qR516 qC516 := zk_met (ws' := zg_tb) (P := qP516) (AT := zg_AT) zpn_X12 rfl rfl rfl qk516 (fun s hK => zg_wd hK) (fun p e s m args below meth c s₁ Q B hml hK => qo516 B hml hK) (fun p e s m args below meth c s₁ v G0 H0 B hml hK ha hp hF q hq => absurd hq List.not_mem_nil)
set_option maxRecDepth 100000 in
def qR517 : Room := { frames := 1, cells := 0, slots := 0, locals := 20 }
set_option maxHeartbeats 4000000 in
set_option maxRecDepth 100000 in
theorem qo517 {p : Program} {l : Launch} {e : Env} {s : State} {m : MethodId} {args : Array Value} {below : List Frame} {meth : Method} {c : Code} {s₁ : State} {Q : State → Prop} {D : zk_D} {base : Nat} {Hb : Heap} (B : BodyLoose p l yX12_wroteAhead (headSpec (Jvm.Cond.code yX12_wroteAhead prog_14_method_84_code 5 (some .boolean) :: zg_tb) qR517) prog_14_method_84_code 5 (some .boolean) e s m args below meth c s₁) (hml : c.maxLocals = 5) (hK : zg_K D base Hb s) : zk_ok p l e (headSpec (Jvm.Cond.code yX12_wroteAhead prog_14_method_84_code 5 (some .boolean) :: zg_tb) qR517).room s m args below meth c Q qK D base Hb 5 prog_14_method_84_code qP517 qC517.2.2.2.2 := by
  have S : CallFix p m c prog_14_method_84_code 5 s args (Jvm.Cond.code yX12_wroteAhead prog_14_method_84_code 5 (some .boolean) :: zg_tb) RX12 := ⟨B.exec, B.bytes, hml, findClass_of_methodNamed B.named, atoms_spec (ws := (Jvm.Cond.code yX12_wroteAhead prog_14_method_84_code 5 (some .boolean) :: zg_tb)) B.pre⟩
  exact ⟨List.forall_mem_cons.mpr ⟨zg_gp4 S (hK.2.1 12 _ rfl) (fun w h => (List.mem_cons_of_mem _ (zc12 w h))) rfl zt12_35 (List.mem_cons_of_mem _ zw5_194), List.forall_mem_cons.mpr ⟨zg_gp4 S (hK.2.1 12 _ rfl) (fun w h => (List.mem_cons_of_mem _ (zc12 w h))) rfl zt12_36 (List.mem_cons_of_mem _ zw5_195), fun _ h => absurd h List.not_mem_nil⟩⟩,
    fun _ h => absurd h List.not_mem_nil,
    fun _ h => absurd h List.not_mem_nil,
    fun _ h => absurd h List.not_mem_nil,
    fun h => absurd rfl h,
    fun _ h => absurd h List.not_mem_nil,
    fun _ h => absurd h List.not_mem_nil⟩
set_option maxRecDepth 100000 in
theorem qm517 {l : Launch} {D : zk_D} {base : Nat} {Hb : Heap} : zk_Met l qK D base Hb (zg_K D base Hb) yX12_wroteAhead (Jvm.Cond.code yX12_wroteAhead prog_14_method_84_code 5 (some .boolean) :: zg_tb) qR517 qC517 := zk_met (ws' := zg_tb) (P := qP517) (AT := zg_AT) zpn_X12 rfl rfl rfl qk517 (fun s hK => zg_wd hK) (fun p e s m args below meth c s₁ Q B hml hK => qo517 B hml hK) (fun p e s m args below meth c s₁ v G0 H0 B hml hK ha hp hF q hq => absurd hq List.not_mem_nil)
set_option maxRecDepth 100000 in
def qR518 : Room := { frames := 1, cells := 0, slots := 0, locals := 20 }
set_option maxHeartbeats 4000000 in
set_option maxRecDepth 100000 in
theorem qo518 {p : Program} {l : Launch} {e : Env} {s : State} {m : MethodId} {args : Array Value} {below : List Frame} {meth : Method} {c : Code} {s₁ : State} {Q : State → Prop} {D : zk_D} {base : Nat} {Hb : Heap} (B : BodyLoose p l yJ9_min_7cf53 (headSpec (Jvm.Cond.code yJ9_min_7cf53 prog_18_method_69_code 2 (some .int) :: zg_tb) qR518) prog_18_method_69_code 2 (some .int) e s m args below meth c s₁) (hml : c.maxLocals = 2) (hK : zg_K D base Hb s) : zk_ok p l e (headSpec (Jvm.Cond.code yJ9_min_7cf53 prog_18_method_69_code 2 (some .int) :: zg_tb) qR518).room s m args below meth c Q qK D base Hb 2 prog_18_method_69_code qP518 qC518.2.2.2.2 := by
  have S : CallFix p m c prog_18_method_69_code 2 s args (Jvm.Cond.code yJ9_min_7cf53 prog_18_method_69_code 2 (some .int) :: zg_tb) RJ9 := ⟨B.exec, B.bytes, hml, findClass_of_methodNamed B.named, atoms_spec (ws := (Jvm.Cond.code yJ9_min_7cf53 prog_18_method_69_code 2 (some .int) :: zg_tb)) B.pre⟩
  exact ⟨fun _ h => absurd h List.not_mem_nil,
    fun _ h => absurd h List.not_mem_nil,
    fun _ h => absurd h List.not_mem_nil,
    fun _ h => absurd h List.not_mem_nil,
    fun h => absurd rfl h,
    fun _ h => absurd h List.not_mem_nil,
    fun _ h => absurd h List.not_mem_nil⟩
set_option maxRecDepth 100000 in
theorem qm518 {l : Launch} {D : zk_D} {base : Nat} {Hb : Heap} : zk_Met l qK D base Hb (zg_K D base Hb) yJ9_min_7cf53 (Jvm.Cond.code yJ9_min_7cf53 prog_18_method_69_code 2 (some .int) :: zg_tb) qR518 qC518 := zk_metF (ws' := zg_tb) (P := qP518) (AT := zg_AT) zpf_yJ9_min_7cf53 rfl rfl rfl qk518 (fun s hK => zg_wd hK) (fun p e s m args below meth c s₁ Q B hml hK => qo518 B hml hK) (fun p e s m args below meth c s₁ v G0 H0 B hml hK ha hp hF q hq => absurd hq List.not_mem_nil)
set_option maxRecDepth 100000 in
def qR519 : Room := { frames := 7, cells := 0, slots := 0, locals := 161 }
set_option maxHeartbeats 4000000 in
set_option maxRecDepth 100000 in
theorem qo519 {p : Program} {l : Launch} {e : Env} {s : State} {m : MethodId} {args : Array Value} {below : List Frame} {meth : Method} {c : Code} {s₁ : State} {Q : State → Prop} {D : zk_D} {base : Nat} {Hb : Heap} (B : BodyLoose p l yX12_arrive (headSpec (Jvm.Cond.code yX12_arrive prog_14_method_85_code 7 none :: zg_tb) qR519) prog_14_method_85_code 7 none e s m args below meth c s₁) (hml : c.maxLocals = 7) (hK : zg_K D base Hb s) : zk_ok p l e (headSpec (Jvm.Cond.code yX12_arrive prog_14_method_85_code 7 none :: zg_tb) qR519).room s m args below meth c Q qK D base Hb 7 prog_14_method_85_code qP519 qC519.2.2.2.2 := by
  have S : CallFix p m c prog_14_method_85_code 7 s args (Jvm.Cond.code yX12_arrive prog_14_method_85_code 7 none :: zg_tb) RX12 := ⟨B.exec, B.bytes, hml, findClass_of_methodNamed B.named, atoms_spec (ws := (Jvm.Cond.code yX12_arrive prog_14_method_85_code 7 none :: zg_tb)) B.pre⟩
  exact ⟨List.forall_mem_cons.mpr ⟨zg_gp4 S (hK.2.1 12 _ rfl) (fun w h => (List.mem_cons_of_mem _ (zc12 w h))) rfl zt12_3 (List.mem_cons_of_mem _ zw5_162), List.forall_mem_cons.mpr ⟨zg_gp4 S (hK.2.1 12 _ rfl) (fun w h => (List.mem_cons_of_mem _ (zc12 w h))) rfl zt12_36 (List.mem_cons_of_mem _ zw5_195), List.forall_mem_cons.mpr ⟨zg_gp4 S (hK.2.1 12 _ rfl) (fun w h => (List.mem_cons_of_mem _ (zc12 w h))) rfl zt12_1 (List.mem_cons_of_mem _ zw5_160), List.forall_mem_cons.mpr ⟨zg_gp4 S (hK.2.1 12 _ rfl) (fun w h => (List.mem_cons_of_mem _ (zc12 w h))) rfl zt12_43 (List.mem_cons_of_mem _ zw5_202), List.forall_mem_cons.mpr ⟨zg_gp S (hK.2.1 12 _ rfl) (fun w h => (List.mem_cons_of_mem _ (zc12 w h))) rfl zt12_0 (List.mem_cons_of_mem _ zw5_159) rfl, List.forall_mem_cons.mpr ⟨zg_gp4 S (hK.2.1 12 _ rfl) (fun w h => (List.mem_cons_of_mem _ (zc12 w h))) rfl zt12_35 (List.mem_cons_of_mem _ zw5_194), List.forall_mem_cons.mpr ⟨zg_gp S (hK.2.1 12 _ rfl) (fun w h => (List.mem_cons_of_mem _ (zc12 w h))) rfl zt12_57 (List.mem_cons_of_mem _ zw5_216) rfl, List.forall_mem_cons.mpr ⟨zg_gp4 S (hK.2.1 12 _ rfl) (fun w h => (List.mem_cons_of_mem _ (zc12 w h))) rfl zt12_27 (List.mem_cons_of_mem _ zw5_186), List.forall_mem_cons.mpr ⟨zg_gp4 S (hK.2.1 12 _ rfl) (fun w h => (List.mem_cons_of_mem _ (zc12 w h))) rfl zt12_37 (List.mem_cons_of_mem _ zw5_196), List.forall_mem_cons.mpr ⟨zg_gp4 S (hK.2.1 12 _ rfl) (fun w h => (List.mem_cons_of_mem _ (zc12 w h))) rfl zt12_38 (List.mem_cons_of_mem _ zw5_197), List.forall_mem_cons.mpr ⟨zg_gp4 S (hK.2.1 12 _ rfl) (fun w h => (List.mem_cons_of_mem _ (zc12 w h))) rfl zt12_41 (List.mem_cons_of_mem _ zw5_200), List.forall_mem_cons.mpr ⟨zg_gp4 S (hK.2.1 12 _ rfl) (fun w h => (List.mem_cons_of_mem _ (zc12 w h))) rfl zt12_39 (List.mem_cons_of_mem _ zw5_198), List.forall_mem_cons.mpr ⟨zg_gp S (hK.2.1 12 _ rfl) (fun w h => (List.mem_cons_of_mem _ (zc12 w h))) rfl zt12_30 (List.mem_cons_of_mem _ zw5_189) rfl, fun _ h => absurd h List.not_mem_nil⟩⟩⟩⟩⟩⟩⟩⟩⟩⟩⟩⟩⟩,
    fun _ h => absurd h List.not_mem_nil,
    fun _ h => absurd h List.not_mem_nil,
    fun _ h => absurd h List.not_mem_nil,
    fun h => absurd rfl h,
    fun _ h => absurd h List.not_mem_nil,
    List.forall_mem_cons.mpr ⟨zg_callV (fun w h => List.mem_cons_of_mem _ h) zg_tb_all S hK zg_Km qm509 zw7_218 zy_yX12_again_V (ci := 12) (by decide +kernel) (hK.2.1 12 _ rfl).2.1 ⟨rfl, rfl⟩ (zk_dg_ok qdo_14_85 (by decide +kernel)), List.forall_mem_cons.mpr ⟨zg_callV (fun w h => List.mem_cons_of_mem _ h) zg_tb_all S hK zg_Km qm384 zw7_61 zy_yX12_forceOf_V (ci := 12) (by decide +kernel) (hK.2.1 12 _ rfl).2.1 ⟨rfl, rfl⟩ (zk_dg_ok qdo_14_85 (by decide +kernel)), List.forall_mem_cons.mpr ⟨zg_callV (fun w h => List.mem_cons_of_mem _ h) zg_tb_all S hK zg_Km qm508 zw7_222 zy_yX12_settle_V (ci := 12) (by decide +kernel) (hK.2.1 12 _ rfl).2.1 ⟨rfl, rfl⟩ (zk_dg_ok qdo_14_85 (by decide +kernel)), List.forall_mem_cons.mpr ⟨zg_callV (fun w h => List.mem_cons_of_mem _ h) zg_tb_all S hK zg_Km qm430 zw7_180 zy_yX12_isBarred_V (ci := 12) (by decide +kernel) (hK.2.1 12 _ rfl).2.1 ⟨rfl, rfl⟩ (zk_dg_ok qdo_14_85 (by decide +kernel)), List.forall_mem_cons.mpr ⟨zg_callV (fun w h => List.mem_cons_of_mem _ h) zg_tb_all S hK zg_Km qm422 zw7_119 zy_yX12_gather_V (ci := 12) (by decide +kernel) (hK.2.1 12 _ rfl).2.1 ⟨rfl, rfl⟩ (zk_dg_ok qdo_14_85 (by decide +kernel)), List.forall_mem_cons.mpr ⟨zg_callV (fun w h => List.mem_cons_of_mem _ h) zg_tb_all S hK zg_Km qm424 zw7_184 zy_yX12_clean_V (ci := 12) (by decide +kernel) (hK.2.1 12 _ rfl).2.1 ⟨rfl, rfl⟩ (zk_dg_ok qdo_14_85 (by decide +kernel)), List.forall_mem_cons.mpr ⟨zg_callV (fun w h => List.mem_cons_of_mem _ h) zg_tb_all S hK zg_Km qm516 zw7_123 zy_yX12_weightOf_V (ci := 12) (by decide +kernel) (hK.2.1 12 _ rfl).2.1 ⟨rfl, rfl⟩ (zk_dg_ok qdo_14_85 (by decide +kernel)), List.forall_mem_cons.mpr ⟨zg_callV (fun w h => List.mem_cons_of_mem _ h) zg_tb_all S hK zg_Km qm517 zw7_226 zy_yX12_wroteAhead_V (ci := 12) (by decide +kernel) (hK.2.1 12 _ rfl).2.1 ⟨rfl, rfl⟩ (zk_dg_ok qdo_14_85 (by decide +kernel)), List.forall_mem_cons.mpr ⟨zg_callV (fun w h => List.mem_cons_of_mem _ h) zg_tb_all S hK zg_Km qm429 zw7_188 zy_yX12_worth_V (ci := 12) (by decide +kernel) (hK.2.1 12 _ rfl).2.1 ⟨rfl, rfl⟩ (zk_dg_ok qdo_14_85 (by decide +kernel)), List.forall_mem_cons.mpr ⟨zg_callV (fun w h => List.mem_cons_of_mem _ h) zg_tb_all S hK zg_Km qm508 zw7_222 zy_yX12_settle_V (ci := 12) (by decide +kernel) (hK.2.1 12 _ rfl).2.1 ⟨rfl, rfl⟩ (zk_dg_ok qdo_14_85 (by decide +kernel)), List.forall_mem_cons.mpr ⟨zg_callV (fun w h => List.mem_cons_of_mem _ h) zg_tb_all S hK zg_Km qm429 zw7_188 zy_yX12_worth_V (ci := 12) (by decide +kernel) (hK.2.1 12 _ rfl).2.1 ⟨rfl, rfl⟩ (zk_dg_ok qdo_14_85 (by decide +kernel)), List.forall_mem_cons.mpr ⟨zg_callV (fun w h => List.mem_cons_of_mem _ h) zg_tb_all S hK zg_Km qm508 zw7_222 zy_yX12_settle_V (ci := 12) (by decide +kernel) (hK.2.1 12 _ rfl).2.1 ⟨rfl, rfl⟩ (zk_dg_ok qdo_14_85 (by decide +kernel)), List.forall_mem_cons.mpr ⟨zg_callV (fun w h => List.mem_cons_of_mem _ h) zg_tb_all S hK zg_Km qm429 zw7_188 zy_yX12_worth_V (ci := 12) (by decide +kernel) (hK.2.1 12 _ rfl).2.1 ⟨rfl, rfl⟩ (zk_dg_ok qdo_14_85 (by decide +kernel)), List.forall_mem_cons.mpr ⟨zg_callS (fun w h => List.mem_cons_of_mem _ h) zg_tb_all S hK zg_Km qm518 zw7_97 zy_yJ9_min_7cf53_S (by decide +kernel) ⟨rfl, rfl⟩ (zk_dg_ok qdo_14_85 (by decide +kernel)), List.forall_mem_cons.mpr ⟨zg_callV (fun w h => List.mem_cons_of_mem _ h) zg_tb_all S hK zg_Km qm509 zw7_218 zy_yX12_again_V (ci := 12) (by decide +kernel) (hK.2.1 12 _ rfl).2.1 ⟨rfl, rfl⟩ (zk_dg_ok qdo_14_85 (by decide +kernel)), List.forall_mem_cons.mpr ⟨zg_callV (fun w h => List.mem_cons_of_mem _ h) zg_tb_all S hK zg_Km qm508 zw7_222 zy_yX12_settle_V (ci := 12) (by decide +kernel) (hK.2.1 12 _ rfl).2.1 ⟨rfl, rfl⟩ (zk_dg_ok qdo_14_85 (by decide +kernel)), fun _ h => absurd h List.not_mem_nil⟩⟩⟩⟩⟩⟩⟩⟩⟩⟩⟩⟩⟩⟩⟩⟩⟩
set_option maxRecDepth 100000 in
theorem qm519 {l : Launch} {D : zk_D} {base : Nat} {Hb : Heap} : zk_Met l qK D base Hb (zg_K D base Hb) yX12_arrive (Jvm.Cond.code yX12_arrive prog_14_method_85_code 7 none :: zg_tb) qR519 qC519 := zk_met (ws' := zg_tb) (P := qP519) (AT := zg_AT) zpn_X12 rfl rfl rfl qk519 (fun s hK => zg_wd hK) (fun p e s m args below meth c s₁ Q B hml hK => qo519 B hml hK) (fun p e s m args below meth c s₁ v G0 H0 B hml hK ha hp hF q hq => absurd hq List.not_mem_nil)
set_option maxRecDepth 100000 in
def qR520 : Room := { frames := 8, cells := 0, slots := 0, locals := 187 }
set_option maxHeartbeats 4000000 in
set_option maxRecDepth 100000 in
theorem qo520 {p : Program} {l : Launch} {e : Env} {s : State} {m : MethodId} {args : Array Value} {below : List Frame} {meth : Method} {c : Code} {s₁ : State} {Q : State → Prop} {D : zk_D} {base : Nat} {Hb : Heap} (B : BodyLoose p l yX12_minutes (headSpec (Jvm.Cond.code yX12_minutes prog_14_method_86_code 4 (some .int) :: zg_tb) qR520) prog_14_method_86_code 4 (some .int) e s m args below meth c s₁) (hml : c.maxLocals = 4) (hK : zg_K D base Hb s) : zk_ok p l e (headSpec (Jvm.Cond.code yX12_minutes prog_14_method_86_code 4 (some .int) :: zg_tb) qR520).room s m args below meth c Q qK D base Hb 4 prog_14_method_86_code qP520 qC520.2.2.2.2 := by
  have S : CallFix p m c prog_14_method_86_code 4 s args (Jvm.Cond.code yX12_minutes prog_14_method_86_code 4 (some .int) :: zg_tb) RX12 := ⟨B.exec, B.bytes, hml, findClass_of_methodNamed B.named, atoms_spec (ws := (Jvm.Cond.code yX12_minutes prog_14_method_86_code 4 (some .int) :: zg_tb)) B.pre⟩
  exact ⟨List.forall_mem_cons.mpr ⟨zg_gp S (hK.2.1 12 _ rfl) (fun w h => (List.mem_cons_of_mem _ (zc12 w h))) rfl zt12_0 (List.mem_cons_of_mem _ zw5_159) rfl, List.forall_mem_cons.mpr ⟨zg_gp S (hK.2.1 12 _ rfl) (fun w h => (List.mem_cons_of_mem _ (zc12 w h))) rfl zt12_44 (List.mem_cons_of_mem _ zw5_203) rfl, List.forall_mem_cons.mpr ⟨zg_gp4 S (hK.2.1 12 _ rfl) (fun w h => (List.mem_cons_of_mem _ (zc12 w h))) rfl zt12_42 (List.mem_cons_of_mem _ zw5_201), fun _ h => absurd h List.not_mem_nil⟩⟩⟩,
    fun _ h => absurd h List.not_mem_nil,
    fun _ h => absurd h List.not_mem_nil,
    fun _ h => absurd h List.not_mem_nil,
    fun h => absurd rfl h,
    fun _ h => absurd h List.not_mem_nil,
    List.forall_mem_cons.mpr ⟨zg_callS (fun w h => List.mem_cons_of_mem _ h) zg_tb_all S hK zg_Km qm507 zw6_145 zy_yX12_in_S (by decide +kernel) ⟨rfl, rfl⟩ (zk_dg_ok qdo_14_86 (by decide +kernel)), List.forall_mem_cons.mpr ⟨zg_callV (fun w h => List.mem_cons_of_mem _ h) zg_tb_all S hK zg_Km qm519 zw7_214 zy_yX12_arrive_V (ci := 12) (by decide +kernel) (hK.2.1 12 _ rfl).2.1 ⟨rfl, rfl⟩ (zk_dg_ok qdo_14_86 (by decide +kernel)), fun _ h => absurd h List.not_mem_nil⟩⟩⟩
set_option maxRecDepth 100000 in
theorem qm520 {l : Launch} {D : zk_D} {base : Nat} {Hb : Heap} : zk_Met l qK D base Hb (zg_K D base Hb) yX12_minutes (Jvm.Cond.code yX12_minutes prog_14_method_86_code 4 (some .int) :: zg_tb) qR520 qC520 := zk_met (ws' := zg_tb) (P := qP520) (AT := zg_AT) zpn_X12 rfl rfl rfl qk520 (fun s hK => zg_wd hK) (fun p e s m args below meth c s₁ Q B hml hK => qo520 B hml hK) (fun p e s m args below meth c s₁ v G0 H0 B hml hK ha hp hF q hq => absurd hq List.not_mem_nil)
set_option maxRecDepth 100000 in
def qR521 : Room := { frames := 1, cells := 0, slots := 0, locals := 20 }
set_option maxHeartbeats 4000000 in
set_option maxRecDepth 100000 in
theorem qo521 {p : Program} {l : Launch} {e : Env} {s : State} {m : MethodId} {args : Array Value} {below : List Frame} {meth : Method} {c : Code} {s₁ : State} {Q : State → Prop} {D : zk_D} {base : Nat} {Hb : Heap} (B : BodyLoose p l yX3_add (headSpec (Jvm.Cond.code yX3_add prog_5_method_2_code 4 (some .boolean) :: zg_tb) qR521) prog_5_method_2_code 4 (some .boolean) e s m args below meth c s₁) (hml : c.maxLocals = 4) (hK : zg_K D base Hb s) : zk_ok p l e (headSpec (Jvm.Cond.code yX3_add prog_5_method_2_code 4 (some .boolean) :: zg_tb) qR521).room s m args below meth c Q qK D base Hb 4 prog_5_method_2_code qP521 qC521.2.2.2.2 := by
  have S : CallFix p m c prog_5_method_2_code 4 s args (Jvm.Cond.code yX3_add prog_5_method_2_code 4 (some .boolean) :: zg_tb) RX3 := ⟨B.exec, B.bytes, hml, findClass_of_methodNamed B.named, atoms_spec (ws := (Jvm.Cond.code yX3_add prog_5_method_2_code 4 (some .boolean) :: zg_tb)) B.pre⟩
  exact ⟨List.forall_mem_cons.mpr ⟨zg_gp S (hK.2.1 3 _ rfl) (fun w h => (List.mem_cons_of_mem _ (zc3 w h))) rfl zt3_4 (List.mem_cons_of_mem _ zw2_13) rfl, List.forall_mem_cons.mpr ⟨zg_gp4 S (hK.2.1 3 _ rfl) (fun w h => (List.mem_cons_of_mem _ (zc3 w h))) rfl zt3_0 (List.mem_cons_of_mem _ zw2_8), List.forall_mem_cons.mpr ⟨zg_gp4 S (hK.2.1 3 _ rfl) (fun w h => (List.mem_cons_of_mem _ (zc3 w h))) rfl zt3_1 (List.mem_cons_of_mem _ zw2_9), List.forall_mem_cons.mpr ⟨zg_gp4 S (hK.2.1 3 _ rfl) (fun w h => (List.mem_cons_of_mem _ (zc3 w h))) rfl zt3_2 (List.mem_cons_of_mem _ zw2_10), fun _ h => absurd h List.not_mem_nil⟩⟩⟩⟩,
    fun _ h => absurd h List.not_mem_nil,
    fun _ h => absurd h List.not_mem_nil,
    fun _ h => absurd h List.not_mem_nil,
    fun h => absurd rfl h,
    fun _ h => absurd h List.not_mem_nil,
    fun _ h => absurd h List.not_mem_nil⟩
set_option maxRecDepth 100000 in
theorem qm521 {l : Launch} {D : zk_D} {base : Nat} {Hb : Heap} : zk_Met l qK D base Hb (zg_K D base Hb) yX3_add (Jvm.Cond.code yX3_add prog_5_method_2_code 4 (some .boolean) :: zg_tb) qR521 qC521 := zk_met (ws' := zg_tb) (P := qP521) (AT := zg_AT) zpn_X3 rfl rfl rfl qk521 (fun s hK => zg_wd hK) (fun p e s m args below meth c s₁ Q B hml hK => qo521 B hml hK) (fun p e s m args below meth c s₁ v G0 H0 B hml hK ha hp hF q hq => absurd hq List.not_mem_nil)
set_option maxRecDepth 100000 in
def qR522 : Room := { frames := 2, cells := 0, slots := 0, locals := 43 }
set_option maxHeartbeats 4000000 in
set_option maxRecDepth 100000 in
theorem qo522 {p : Program} {l : Launch} {e : Env} {s : State} {m : MethodId} {args : Array Value} {below : List Frame} {meth : Method} {c : Code} {s₁ : State} {Q : State → Prop} {D : zk_D} {base : Nat} {Hb : Heap} (B : BodyLoose p l yX11_mark (headSpec (Jvm.Cond.code yX11_mark prog_1_method_22_code 3 (some .boolean) :: zg_tb) qR522) prog_1_method_22_code 3 (some .boolean) e s m args below meth c s₁) (hml : c.maxLocals = 3) (hK : zg_K D base Hb s) : zk_ok p l e (headSpec (Jvm.Cond.code yX11_mark prog_1_method_22_code 3 (some .boolean) :: zg_tb) qR522).room s m args below meth c Q qK D base Hb 3 prog_1_method_22_code qP522 qC522.2.2.2.2 := by
  have S : CallFix p m c prog_1_method_22_code 3 s args (Jvm.Cond.code yX11_mark prog_1_method_22_code 3 (some .boolean) :: zg_tb) RX11 := ⟨B.exec, B.bytes, hml, findClass_of_methodNamed B.named, atoms_spec (ws := (Jvm.Cond.code yX11_mark prog_1_method_22_code 3 (some .boolean) :: zg_tb)) B.pre⟩
  exact ⟨List.forall_mem_cons.mpr ⟨zg_gp4 S (hK.2.1 11 _ rfl) (fun w h => (List.mem_cons_of_mem _ (zc11 w h))) rfl zt11_8 (List.mem_cons_of_mem _ zw2_61), List.forall_mem_cons.mpr ⟨zg_gp S (hK.2.1 11 _ rfl) (fun w h => (List.mem_cons_of_mem _ (zc11 w h))) rfl zt11_13 (List.mem_cons_of_mem _ zw2_66) rfl, fun _ h => absurd h List.not_mem_nil⟩⟩,
    fun _ h => absurd h List.not_mem_nil,
    fun _ h => absurd h List.not_mem_nil,
    fun _ h => absurd h List.not_mem_nil,
    fun h => absurd rfl h,
    fun _ h => absurd h List.not_mem_nil,
    List.forall_mem_cons.mpr ⟨zg_callV (fun w h => List.mem_cons_of_mem _ h) zg_tb_all S hK zg_Km qm472 zw4_142 zy_yX11_letterAt_V (ci := 11) (by decide +kernel) (hK.2.1 11 _ rfl).2.1 ⟨rfl, rfl⟩ (zk_dg_ok qdo_1_22 (by decide +kernel)), List.forall_mem_cons.mpr ⟨zg_callV (fun w h => List.mem_cons_of_mem _ h) zg_tb_all S hK zg_Km qm521 zw4_234 zy_yX3_add_V (ci := 3) (by decide +kernel) (hK.2.1 3 _ rfl).2.1 ⟨rfl, rfl⟩ (zk_dg_ok qdo_1_22 (by decide +kernel)), fun _ h => absurd h List.not_mem_nil⟩⟩⟩
set_option maxRecDepth 100000 in
theorem qm522 {l : Launch} {D : zk_D} {base : Nat} {Hb : Heap} : zk_Met l qK D base Hb (zg_K D base Hb) yX11_mark (Jvm.Cond.code yX11_mark prog_1_method_22_code 3 (some .boolean) :: zg_tb) qR522 qC522 := zk_met (ws' := zg_tb) (P := qP522) (AT := zg_AT) zpn_X11 rfl rfl rfl qk522 (fun s hK => zg_wd hK) (fun p e s m args below meth c s₁ Q B hml hK => qo522 B hml hK) (fun p e s m args below meth c s₁ v G0 H0 B hml hK ha hp hF q hq => absurd hq List.not_mem_nil)
set_option maxRecDepth 100000 in
def qR523 : Room := { frames := 3, cells := 0, slots := 0, locals := 63 }
set_option maxHeartbeats 4000000 in
set_option maxRecDepth 100000 in
theorem qo523 {p : Program} {l : Launch} {e : Env} {s : State} {m : MethodId} {args : Array Value} {below : List Frame} {meth : Method} {c : Code} {s₁ : State} {Q : State → Prop} {D : zk_D} {base : Nat} {Hb : Heap} (B : BodyLoose p l yX12_mark (headSpec (Jvm.Cond.code yX12_mark prog_14_method_62_code 3 (some .boolean) :: zg_tb) qR523) prog_14_method_62_code 3 (some .boolean) e s m args below meth c s₁) (hml : c.maxLocals = 3) (hK : zg_K D base Hb s) : zk_ok p l e (headSpec (Jvm.Cond.code yX12_mark prog_14_method_62_code 3 (some .boolean) :: zg_tb) qR523).room s m args below meth c Q qK D base Hb 3 prog_14_method_62_code qP523 qC523.2.2.2.2 := by
  have S : CallFix p m c prog_14_method_62_code 3 s args (Jvm.Cond.code yX12_mark prog_14_method_62_code 3 (some .boolean) :: zg_tb) RX12 := ⟨B.exec, B.bytes, hml, findClass_of_methodNamed B.named, atoms_spec (ws := (Jvm.Cond.code yX12_mark prog_14_method_62_code 3 (some .boolean) :: zg_tb)) B.pre⟩
  exact ⟨List.forall_mem_cons.mpr ⟨zg_gp S (hK.2.1 12 _ rfl) (fun w h => (List.mem_cons_of_mem _ (zc12 w h))) rfl zt12_49 (List.mem_cons_of_mem _ zw5_208) rfl, List.forall_mem_cons.mpr ⟨zg_gp4 S (hK.2.1 12 _ rfl) (fun w h => (List.mem_cons_of_mem _ (zc12 w h))) rfl zt12_45 (List.mem_cons_of_mem _ zw5_204), List.forall_mem_cons.mpr ⟨zg_gp4 S (hK.2.1 12 _ rfl) (fun w h => (List.mem_cons_of_mem _ (zc12 w h))) rfl zt12_46 (List.mem_cons_of_mem _ zw5_205), List.forall_mem_cons.mpr ⟨zg_gp4 S (hK.2.1 12 _ rfl) (fun w h => (List.mem_cons_of_mem _ (zc12 w h))) rfl zt12_47 (List.mem_cons_of_mem _ zw5_206), List.forall_mem_cons.mpr ⟨zg_gp S (hK.2.1 12 _ rfl) (fun w h => (List.mem_cons_of_mem _ (zc12 w h))) rfl zt12_0 (List.mem_cons_of_mem _ zw5_159) rfl, fun _ h => absurd h List.not_mem_nil⟩⟩⟩⟩⟩,
    fun _ h => absurd h List.not_mem_nil,
    fun _ h => absurd h List.not_mem_nil,
    fun _ h => absurd h List.not_mem_nil,
    fun h => absurd rfl h,
    fun _ h => absurd h List.not_mem_nil,
    List.forall_mem_cons.mpr ⟨zg_callV (fun w h => List.mem_cons_of_mem _ h) zg_tb_all S hK zg_Km qm475 zw7_80 zy_yX12_isLetter_V (ci := 12) (by decide +kernel) (hK.2.1 12 _ rfl).2.1 ⟨rfl, rfl⟩ (zk_dg_ok qdo_14_62 (by decide +kernel)), fun _ h => absurd h List.not_mem_nil⟩⟩
set_option maxRecDepth 100000 in
theorem qm523 {l : Launch} {D : zk_D} {base : Nat} {Hb : Heap} : zk_Met l qK D base Hb (zg_K D base Hb) yX12_mark (Jvm.Cond.code yX12_mark prog_14_method_62_code 3 (some .boolean) :: zg_tb) qR523 qC523 := zk_met (ws' := zg_tb) (P := qP523) (AT := zg_AT) zpn_X12 rfl rfl rfl qk523 (fun s hK => zg_wd hK) (fun p e s m args below meth c s₁ Q B hml hK => qo523 B hml hK) (fun p e s m args below meth c s₁ v G0 H0 B hml hK ha hp hF q hq => absurd hq List.not_mem_nil)
set_option maxRecDepth 100000 in
def qR524 : Room := { frames := 2, cells := 0, slots := 0, locals := 41 }
set_option maxHeartbeats 4000000 in
set_option maxRecDepth 100000 in
theorem qo524 {p : Program} {l : Launch} {e : Env} {s : State} {m : MethodId} {args : Array Value} {below : List Frame} {meth : Method} {c : Code} {s₁ : State} {Q : State → Prop} {D : zk_D} {base : Nat} {Hb : Heap} (B : BodyLoose p l yX11_knownLetter (headSpec (Jvm.Cond.code yX11_knownLetter prog_1_method_43_code 4 (some (.object "UnaskedLetters$Letter")) :: zg_tb) qR524) prog_1_method_43_code 4 (some (.object "UnaskedLetters$Letter")) e s m args below meth c s₁) (hml : c.maxLocals = 4) (hK : zg_K D base Hb s) : zk_ok p l e (headSpec (Jvm.Cond.code yX11_knownLetter prog_1_method_43_code 4 (some (.object "UnaskedLetters$Letter")) :: zg_tb) qR524).room s m args below meth c Q qK D base Hb 4 prog_1_method_43_code qP524 qC524.2.2.2.2 := by
  have S : CallFix p m c prog_1_method_43_code 4 s args (Jvm.Cond.code yX11_knownLetter prog_1_method_43_code 4 (some (.object "UnaskedLetters$Letter")) :: zg_tb) RX11 := ⟨B.exec, B.bytes, hml, findClass_of_methodNamed B.named, atoms_spec (ws := (Jvm.Cond.code yX11_knownLetter prog_1_method_43_code 4 (some (.object "UnaskedLetters$Letter")) :: zg_tb)) B.pre⟩
  exact ⟨List.forall_mem_cons.mpr ⟨zg_gp4 S (hK.2.1 1 _ rfl) (fun w h => (List.mem_cons_of_mem _ (zc1 w h))) rfl zt1_4 (List.mem_cons_of_mem _ zw3_222), fun _ h => absurd h List.not_mem_nil⟩,
    fun _ h => absurd h List.not_mem_nil,
    fun _ h => absurd h List.not_mem_nil,
    fun _ h => absurd h List.not_mem_nil,
    fun h => absurd rfl h,
    fun _ h => absurd h List.not_mem_nil,
    List.forall_mem_cons.mpr ⟨zg_callV (fun w h => List.mem_cons_of_mem _ h) zg_tb_all S hK zg_Km qm472 zw4_142 zy_yX11_letterAt_V (ci := 11) (by decide +kernel) (hK.2.1 11 _ rfl).2.1 ⟨rfl, rfl⟩ (zk_dg_ok qdo_1_43 (by decide +kernel)), List.forall_mem_cons.mpr ⟨zg_callV (fun w h => List.mem_cons_of_mem _ h) zg_tb_all S hK zg_Km qm377 zw3_108 zy_yX11_isPast_V (ci := 11) (by decide +kernel) (hK.2.1 11 _ rfl).2.1 ⟨rfl, rfl⟩ (zk_dg_ok qdo_1_43 (by decide +kernel)), fun _ h => absurd h List.not_mem_nil⟩⟩⟩
set_option maxRecDepth 100000 in
theorem qm524 {l : Launch} {D : zk_D} {base : Nat} {Hb : Heap} : zk_Met l qK D base Hb (zg_K D base Hb) yX11_knownLetter (Jvm.Cond.code yX11_knownLetter prog_1_method_43_code 4 (some (.object "UnaskedLetters$Letter")) :: zg_tb) qR524 qC524 := zk_met (ws' := zg_tb) (P := qP524) (AT := zg_AT) zpn_X11 rfl rfl rfl qk524 (fun s hK => zg_wd hK) (fun p e s m args below meth c s₁ Q B hml hK => qo524 B hml hK) (fun p e s m args below meth c s₁ v G0 H0 B hml hK ha hp hF q hq => absurd hq List.not_mem_nil)
set_option maxRecDepth 100000 in
def qR525 : Room := { frames := 4, cells := 0, slots := 0, locals := 86 }
set_option maxHeartbeats 4000000 in
set_option maxRecDepth 100000 in
theorem qo525 {p : Program} {l : Launch} {e : Env} {s : State} {m : MethodId} {args : Array Value} {below : List Frame} {meth : Method} {c : Code} {s₁ : State} {Q : State → Prop} {D : zk_D} {base : Nat} {Hb : Heap} (B : BodyLoose p l yX11_weight (headSpec (Jvm.Cond.code yX11_weight prog_1_method_23_code 4 (some .int) :: zg_tb) qR525) prog_1_method_23_code 4 (some .int) e s m args below meth c s₁) (hml : c.maxLocals = 4) (hK : zg_K D base Hb s) : zk_ok p l e (headSpec (Jvm.Cond.code yX11_weight prog_1_method_23_code 4 (some .int) :: zg_tb) qR525).room s m args below meth c Q qK D base Hb 4 prog_1_method_23_code qP525 qC525.2.2.2.2 := by
  have S : CallFix p m c prog_1_method_23_code 4 s args (Jvm.Cond.code yX11_weight prog_1_method_23_code 4 (some .int) :: zg_tb) RX11 := ⟨B.exec, B.bytes, hml, findClass_of_methodNamed B.named, atoms_spec (ws := (Jvm.Cond.code yX11_weight prog_1_method_23_code 4 (some .int) :: zg_tb)) B.pre⟩
  exact ⟨List.forall_mem_cons.mpr ⟨zg_gp4 S (hK.2.1 11 _ rfl) (fun w h => (List.mem_cons_of_mem _ (zc11 w h))) rfl zt11_9 (List.mem_cons_of_mem _ zw2_62), List.forall_mem_cons.mpr ⟨zg_gp S (hK.2.1 1 _ rfl) (fun w h => (List.mem_cons_of_mem _ (zc1 w h))) rfl zt1_11 (List.mem_cons_of_mem _ zw3_236) rfl, List.forall_mem_cons.mpr ⟨zg_gp S (hK.2.1 1 _ rfl) (fun w h => (List.mem_cons_of_mem _ (zc1 w h))) rfl zt1_13 (List.mem_cons_of_mem _ zw4_0) rfl, fun _ h => absurd h List.not_mem_nil⟩⟩⟩,
    fun _ h => absurd h List.not_mem_nil,
    fun _ h => absurd h List.not_mem_nil,
    fun _ h => absurd h List.not_mem_nil,
    fun h => absurd rfl h,
    List.forall_mem_cons.mpr ⟨zg_kokW S (List.mem_cons_of_mem _ zw5_6) (by decide +kernel) (zk_dg_ok qdo_1_23 (by decide +kernel)), fun _ h => absurd h List.not_mem_nil⟩,
    List.forall_mem_cons.mpr ⟨zg_callV (fun w h => List.mem_cons_of_mem _ h) zg_tb_all S hK zg_Km qm524 zw5_2 zy_yX11_knownLetter_V (ci := 11) (by decide +kernel) (hK.2.1 11 _ rfl).2.1 ⟨rfl, rfl⟩ (zk_dg_ok qdo_1_23 (by decide +kernel)), List.forall_mem_cons.mpr ⟨zg_callV (fun w h => List.mem_cons_of_mem _ h) zg_tb_all S hK zg_Km qm494 zw4_169 zy_yX11_learn_V (ci := 11) (by decide +kernel) (hK.2.1 11 _ rfl).2.1 ⟨rfl, rfl⟩ (zk_dg_ok qdo_1_23 (by decide +kernel)), List.forall_mem_cons.mpr ⟨zg_callV (fun w h => List.mem_cons_of_mem _ h) zg_tb_all S hK zg_Km qm500 zw4_206 zy_yX7_weigh_V (ci := 7) (by decide +kernel) (hK.2.1 7 _ rfl).2.1 ⟨rfl, rfl⟩ (zk_dg_ok qdo_1_23 (by decide +kernel)), fun _ h => absurd h List.not_mem_nil⟩⟩⟩⟩
set_option maxRecDepth 100000 in
theorem qm525 {l : Launch} {D : zk_D} {base : Nat} {Hb : Heap} : zk_Met l qK D base Hb (zg_K D base Hb) yX11_weight (Jvm.Cond.code yX11_weight prog_1_method_23_code 4 (some .int) :: zg_tb) qR525 qC525 := zk_met (ws' := zg_tb) (P := qP525) (AT := zg_AT) zpn_X11 rfl rfl rfl qk525 (fun s hK => zg_wd hK) (fun p e s m args below meth c s₁ Q B hml hK => qo525 B hml hK) (fun p e s m args below meth c s₁ v G0 H0 B hml hK ha hp hF q hq => absurd hq List.not_mem_nil)
set_option maxRecDepth 100000 in
def qR526 : Room := { frames := 3, cells := 0, slots := 0, locals := 63 }
set_option maxHeartbeats 4000000 in
set_option maxRecDepth 100000 in
theorem qo526 {p : Program} {l : Launch} {e : Env} {s : State} {m : MethodId} {args : Array Value} {below : List Frame} {meth : Method} {c : Code} {s₁ : State} {Q : State → Prop} {D : zk_D} {base : Nat} {Hb : Heap} (B : BodyLoose p l yX12_isKnown (headSpec (Jvm.Cond.code yX12_isKnown prog_14_method_68_code 3 (some .boolean) :: zg_tb) qR526) prog_14_method_68_code 3 (some .boolean) e s m args below meth c s₁) (hml : c.maxLocals = 3) (hK : zg_K D base Hb s) : zk_ok p l e (headSpec (Jvm.Cond.code yX12_isKnown prog_14_method_68_code 3 (some .boolean) :: zg_tb) qR526).room s m args below meth c Q qK D base Hb 3 prog_14_method_68_code qP526 qC526.2.2.2.2 := by
  have S : CallFix p m c prog_14_method_68_code 3 s args (Jvm.Cond.code yX12_isKnown prog_14_method_68_code 3 (some .boolean) :: zg_tb) RX12 := ⟨B.exec, B.bytes, hml, findClass_of_methodNamed B.named, atoms_spec (ws := (Jvm.Cond.code yX12_isKnown prog_14_method_68_code 3 (some .boolean) :: zg_tb)) B.pre⟩
  exact ⟨List.forall_mem_cons.mpr ⟨zg_gp4 S (hK.2.1 12 _ rfl) (fun w h => (List.mem_cons_of_mem _ (zc12 w h))) rfl zt12_39 (List.mem_cons_of_mem _ zw5_198), fun _ h => absurd h List.not_mem_nil⟩,
    fun _ h => absurd h List.not_mem_nil,
    fun _ h => absurd h List.not_mem_nil,
    fun _ h => absurd h List.not_mem_nil,
    fun h => absurd rfl h,
    fun _ h => absurd h List.not_mem_nil,
    List.forall_mem_cons.mpr ⟨zg_callV (fun w h => List.mem_cons_of_mem _ h) zg_tb_all S hK zg_Km qm475 zw7_80 zy_yX12_isLetter_V (ci := 12) (by decide +kernel) (hK.2.1 12 _ rfl).2.1 ⟨rfl, rfl⟩ (zk_dg_ok qdo_14_68 (by decide +kernel)), List.forall_mem_cons.mpr ⟨zg_callV (fun w h => List.mem_cons_of_mem _ h) zg_tb_all S hK zg_Km qm383 zw7_57 zy_yX12_isKnowing_V (ci := 12) (by decide +kernel) (hK.2.1 12 _ rfl).2.1 ⟨rfl, rfl⟩ (zk_dg_ok qdo_14_68 (by decide +kernel)), fun _ h => absurd h List.not_mem_nil⟩⟩⟩
set_option maxRecDepth 100000 in
theorem qm526 {l : Launch} {D : zk_D} {base : Nat} {Hb : Heap} : zk_Met l qK D base Hb (zg_K D base Hb) yX12_isKnown (Jvm.Cond.code yX12_isKnown prog_14_method_68_code 3 (some .boolean) :: zg_tb) qR526 qC526 := zk_met (ws' := zg_tb) (P := qP526) (AT := zg_AT) zpn_X12 rfl rfl rfl qk526 (fun s hK => zg_wd hK) (fun p e s m args below meth c s₁ Q B hml hK => qo526 B hml hK) (fun p e s m args below meth c s₁ v G0 H0 B hml hK ha hp hF q hq => absurd hq List.not_mem_nil)
set_option maxRecDepth 100000 in
def qR527 : Room := { frames := 5, cells := 0, slots := 0, locals := 120 }
set_option maxHeartbeats 4000000 in
set_option maxRecDepth 100000 in
theorem qo527 {p : Program} {l : Launch} {e : Env} {s : State} {m : MethodId} {args : Array Value} {below : List Frame} {meth : Method} {c : Code} {s₁ : State} {Q : State → Prop} {D : zk_D} {base : Nat} {Hb : Heap} (B : BodyLoose p l yX12_weight (headSpec (Jvm.Cond.code yX12_weight prog_14_method_69_code 3 (some .int) :: zg_tb) qR527) prog_14_method_69_code 3 (some .int) e s m args below meth c s₁) (hml : c.maxLocals = 3) (hK : zg_K D base Hb s) : zk_ok p l e (headSpec (Jvm.Cond.code yX12_weight prog_14_method_69_code 3 (some .int) :: zg_tb) qR527).room s m args below meth c Q qK D base Hb 3 prog_14_method_69_code qP527 qC527.2.2.2.2 := by
  have S : CallFix p m c prog_14_method_69_code 3 s args (Jvm.Cond.code yX12_weight prog_14_method_69_code 3 (some .int) :: zg_tb) RX12 := ⟨B.exec, B.bytes, hml, findClass_of_methodNamed B.named, atoms_spec (ws := (Jvm.Cond.code yX12_weight prog_14_method_69_code 3 (some .int) :: zg_tb)) B.pre⟩
  exact ⟨fun _ h => absurd h List.not_mem_nil,
    fun _ h => absurd h List.not_mem_nil,
    fun _ h => absurd h List.not_mem_nil,
    fun _ h => absurd h List.not_mem_nil,
    fun h => absurd rfl h,
    List.forall_mem_cons.mpr ⟨zg_kokW S (List.mem_cons_of_mem _ zw7_118) (by decide +kernel) (zk_dg_ok qdo_14_69 (by decide +kernel)), fun _ h => absurd h List.not_mem_nil⟩,
    List.forall_mem_cons.mpr ⟨zg_callV (fun w h => List.mem_cons_of_mem _ h) zg_tb_all S hK zg_Km qm526 zw7_114 zy_yX12_isKnown_V (ci := 12) (by decide +kernel) (hK.2.1 12 _ rfl).2.1 ⟨rfl, rfl⟩ (zk_dg_ok qdo_14_69 (by decide +kernel)), List.forall_mem_cons.mpr ⟨zg_callV (fun w h => List.mem_cons_of_mem _ h) zg_tb_all S hK zg_Km qm422 zw7_119 zy_yX12_gather_V (ci := 12) (by decide +kernel) (hK.2.1 12 _ rfl).2.1 ⟨rfl, rfl⟩ (zk_dg_ok qdo_14_69 (by decide +kernel)), List.forall_mem_cons.mpr ⟨zg_callV (fun w h => List.mem_cons_of_mem _ h) zg_tb_all S hK zg_Km qm516 zw7_123 zy_yX12_weightOf_V (ci := 12) (by decide +kernel) (hK.2.1 12 _ rfl).2.1 ⟨rfl, rfl⟩ (zk_dg_ok qdo_14_69 (by decide +kernel)), fun _ h => absurd h List.not_mem_nil⟩⟩⟩⟩
set_option maxRecDepth 100000 in
theorem qm527 {l : Launch} {D : zk_D} {base : Nat} {Hb : Heap} : zk_Met l qK D base Hb (zg_K D base Hb) yX12_weight (Jvm.Cond.code yX12_weight prog_14_method_69_code 3 (some .int) :: zg_tb) qR527 qC527 := zk_met (ws' := zg_tb) (P := qP527) (AT := zg_AT) zpn_X12 rfl rfl rfl qk527 (fun s hK => zg_wd hK) (fun p e s m args below meth c s₁ Q B hml hK => qo527 B hml hK) (fun p e s m args below meth c s₁ v G0 H0 B hml hK ha hp hF q hq => absurd hq List.not_mem_nil)
set_option maxRecDepth 100000 in
def qR528 : Room := { frames := 4, cells := 0, slots := 0, locals := 86 }
set_option maxHeartbeats 4000000 in
set_option maxRecDepth 100000 in
theorem qo528 {p : Program} {l : Launch} {e : Env} {s : State} {m : MethodId} {args : Array Value} {below : List Frame} {meth : Method} {c : Code} {s₁ : State} {Q : State → Prop} {D : zk_D} {base : Nat} {Hb : Heap} (B : BodyLoose p l yX11_decides (headSpec (Jvm.Cond.code yX11_decides prog_1_method_24_code 5 (some .int) :: zg_tb) qR528) prog_1_method_24_code 5 (some .int) e s m args below meth c s₁) (hml : c.maxLocals = 5) (hK : zg_K D base Hb s) : zk_ok p l e (headSpec (Jvm.Cond.code yX11_decides prog_1_method_24_code 5 (some .int) :: zg_tb) qR528).room s m args below meth c Q qK D base Hb 5 prog_1_method_24_code qP528 qC528.2.2.2.2 := by
  have S : CallFix p m c prog_1_method_24_code 5 s args (Jvm.Cond.code yX11_decides prog_1_method_24_code 5 (some .int) :: zg_tb) RX11 := ⟨B.exec, B.bytes, hml, findClass_of_methodNamed B.named, atoms_spec (ws := (Jvm.Cond.code yX11_decides prog_1_method_24_code 5 (some .int) :: zg_tb)) B.pre⟩
  exact ⟨List.forall_mem_cons.mpr ⟨zg_gp4 S (hK.2.1 11 _ rfl) (fun w h => (List.mem_cons_of_mem _ (zc11 w h))) rfl zt11_9 (List.mem_cons_of_mem _ zw2_62), List.forall_mem_cons.mpr ⟨zg_gp S (hK.2.1 1 _ rfl) (fun w h => (List.mem_cons_of_mem _ (zc1 w h))) rfl zt1_11 (List.mem_cons_of_mem _ zw3_236) rfl, List.forall_mem_cons.mpr ⟨zg_gp S (hK.2.1 1 _ rfl) (fun w h => (List.mem_cons_of_mem _ (zc1 w h))) rfl zt1_13 (List.mem_cons_of_mem _ zw4_0) rfl, List.forall_mem_cons.mpr ⟨zg_gp S (hK.2.1 7 _ rfl) (fun w h => (List.mem_cons_of_mem _ (zc7 w h))) rfl zt7_2 (List.mem_cons_of_mem _ zw2_36) rfl, List.forall_mem_cons.mpr ⟨zg_gp S (hK.2.1 1 _ rfl) (fun w h => (List.mem_cons_of_mem _ (zc1 w h))) rfl zt1_12 (List.mem_cons_of_mem _ zw3_237) rfl, List.forall_mem_cons.mpr ⟨zg_gp4 S (hK.2.1 7 _ rfl) (fun w h => (List.mem_cons_of_mem _ (zc7 w h))) rfl zt7_1 (List.mem_cons_of_mem _ zw2_34), fun _ h => absurd h List.not_mem_nil⟩⟩⟩⟩⟩⟩,
    fun _ h => absurd h List.not_mem_nil,
    fun _ h => absurd h List.not_mem_nil,
    fun _ h => absurd h List.not_mem_nil,
    fun h => absurd rfl h,
    fun _ h => absurd h List.not_mem_nil,
    List.forall_mem_cons.mpr ⟨zg_callV (fun w h => List.mem_cons_of_mem _ h) zg_tb_all S hK zg_Km qm524 zw5_2 zy_yX11_knownLetter_V (ci := 11) (by decide +kernel) (hK.2.1 11 _ rfl).2.1 ⟨rfl, rfl⟩ (zk_dg_ok qdo_1_24 (by decide +kernel)), List.forall_mem_cons.mpr ⟨zg_callV (fun w h => List.mem_cons_of_mem _ h) zg_tb_all S hK zg_Km qm494 zw4_169 zy_yX11_learn_V (ci := 11) (by decide +kernel) (hK.2.1 11 _ rfl).2.1 ⟨rfl, rfl⟩ (zk_dg_ok qdo_1_24 (by decide +kernel)), List.forall_mem_cons.mpr ⟨zg_callV (fun w h => List.mem_cons_of_mem _ h) zg_tb_all S hK zg_Km qm500 zw4_206 zy_yX7_weigh_V (ci := 7) (by decide +kernel) (hK.2.1 7 _ rfl).2.1 ⟨rfl, rfl⟩ (zk_dg_ok qdo_1_24 (by decide +kernel)), fun _ h => absurd h List.not_mem_nil⟩⟩⟩⟩
set_option maxRecDepth 100000 in
theorem qm528 {l : Launch} {D : zk_D} {base : Nat} {Hb : Heap} : zk_Met l qK D base Hb (zg_K D base Hb) yX11_decides (Jvm.Cond.code yX11_decides prog_1_method_24_code 5 (some .int) :: zg_tb) qR528 qC528 :=
  zk_met (ws' := zg_tb) (P := qP528) (AT := zg_AT) (by decide +kernel) rfl rfl rfl qk528 (fun s hK => zg_wd hK) (fun p e s m args below meth c s₁ Q B hml hK => qo528 B hml hK) (fun p e s m args below meth c s₁ v G0 H0 B hml hK ha hp0 hF0 q hq G H locs ls vs v' hp he hl hF hL => by
    have hq := List.mem_singleton.mp hq
    subst hq
    exact zq_dec_x (x := qX528.2.1) (i := 3) (pa := 5) (fa := 6) (sc := 12) (n := 14) (w := 13) (kM := qn_M) (kS := qn_saying) (kC := qn_codes) (kT := qn_textSize) (kP := qn_SC) (kA := qn_pickAt) B.exec B.bytes (zg_wd hK) (qo528 B hml hK) rfl rfl B.returns B.notSynchronized (fun t h => h) hK.1.2.2 (by decide +kernel) zq_qA qd_decides_81 rfl (by decide +kernel) (by decide +kernel) (by decide +kernel) (by decide +kernel) (by decide +kernel) (by decide +kernel) (by decide +kernel) (by decide +kernel) (by decide +kernel) qh528 hp he hl hF hL)
set_option maxRecDepth 100000 in
def qR529 : Room := { frames := 1, cells := 0, slots := 0, locals := 20 }
set_option maxHeartbeats 4000000 in
set_option maxRecDepth 100000 in
theorem qo529 {p : Program} {l : Launch} {e : Env} {s : State} {m : MethodId} {args : Array Value} {below : List Frame} {meth : Method} {c : Code} {s₁ : State} {Q : State → Prop} {D : zk_D} {base : Nat} {Hb : Heap} (B : BodyLoose p l yX12_in (headSpec (Jvm.Cond.code yX12_in prog_14_method_1_code 3 (some .boolean) :: zg_tb) qR529) prog_14_method_1_code 3 (some .boolean) e s m args below meth c s₁) (hml : c.maxLocals = 3) (hK : zg_K D base Hb s) : zk_ok p l e (headSpec (Jvm.Cond.code yX12_in prog_14_method_1_code 3 (some .boolean) :: zg_tb) qR529).room s m args below meth c Q qK D base Hb 3 prog_14_method_1_code qP529 qC529.2.2.2.2 := by
  have S : CallFix p m c prog_14_method_1_code 3 s args (Jvm.Cond.code yX12_in prog_14_method_1_code 3 (some .boolean) :: zg_tb) RX12 := ⟨B.exec, B.bytes, hml, findClass_of_methodNamed B.named, atoms_spec (ws := (Jvm.Cond.code yX12_in prog_14_method_1_code 3 (some .boolean) :: zg_tb)) B.pre⟩
  exact ⟨fun _ h => absurd h List.not_mem_nil,
    fun _ h => absurd h List.not_mem_nil,
    fun _ h => absurd h List.not_mem_nil,
    fun _ h => absurd h List.not_mem_nil,
    fun h => absurd rfl h,
    fun _ h => absurd h List.not_mem_nil,
    fun _ h => absurd h List.not_mem_nil⟩
set_option maxRecDepth 100000 in
theorem qm529 {l : Launch} {D : zk_D} {base : Nat} {Hb : Heap} : zk_Met l qK D base Hb (zg_K D base Hb) yX12_in (Jvm.Cond.code yX12_in prog_14_method_1_code 3 (some .boolean) :: zg_tb) qR529 qC529 := zk_met (ws' := zg_tb) (P := qP529) (AT := zg_AT) zpn_X12 rfl rfl rfl qk529 (fun s hK => zg_wd hK) (fun p e s m args below meth c s₁ Q B hml hK => qo529 B hml hK) (fun p e s m args below meth c s₁ v G0 H0 B hml hK ha hp hF q hq => absurd hq List.not_mem_nil)
set_option maxRecDepth 100000 in
def qR530 : Room := { frames := 5, cells := 0, slots := 0, locals := 120 }
set_option maxHeartbeats 4000000 in
set_option maxRecDepth 100000 in
theorem qo530 {p : Program} {l : Launch} {e : Env} {s : State} {m : MethodId} {args : Array Value} {below : List Frame} {meth : Method} {c : Code} {s₁ : State} {Q : State → Prop} {D : zk_D} {base : Nat} {Hb : Heap} (B : BodyLoose p l yX12_decides (headSpec (Jvm.Cond.code yX12_decides prog_14_method_70_code 4 (some .int) :: zg_tb) qR530) prog_14_method_70_code 4 (some .int) e s m args below meth c s₁) (hml : c.maxLocals = 4) (hK : zg_K D base Hb s) : zk_ok p l e (headSpec (Jvm.Cond.code yX12_decides prog_14_method_70_code 4 (some .int) :: zg_tb) qR530).room s m args below meth c Q qK D base Hb 4 prog_14_method_70_code qP530 qC530.2.2.2.2 := by
  have S : CallFix p m c prog_14_method_70_code 4 s args (Jvm.Cond.code yX12_decides prog_14_method_70_code 4 (some .int) :: zg_tb) RX12 := ⟨B.exec, B.bytes, hml, findClass_of_methodNamed B.named, atoms_spec (ws := (Jvm.Cond.code yX12_decides prog_14_method_70_code 4 (some .int) :: zg_tb)) B.pre⟩
  exact ⟨List.forall_mem_cons.mpr ⟨zg_gp S (hK.2.1 12 _ rfl) (fun w h => (List.mem_cons_of_mem _ (zc12 w h))) rfl zt12_52 (List.mem_cons_of_mem _ zw5_211) rfl, List.forall_mem_cons.mpr ⟨zg_gp4 S (hK.2.1 12 _ rfl) (fun w h => (List.mem_cons_of_mem _ (zc12 w h))) rfl zt12_50 (List.mem_cons_of_mem _ zw5_209), fun _ h => absurd h List.not_mem_nil⟩⟩,
    fun _ h => absurd h List.not_mem_nil,
    fun _ h => absurd h List.not_mem_nil,
    fun _ h => absurd h List.not_mem_nil,
    fun h => absurd rfl h,
    fun _ h => absurd h List.not_mem_nil,
    List.forall_mem_cons.mpr ⟨zg_callV (fun w h => List.mem_cons_of_mem _ h) zg_tb_all S hK zg_Km qm526 zw7_114 zy_yX12_isKnown_V (ci := 12) (by decide +kernel) (hK.2.1 12 _ rfl).2.1 ⟨rfl, rfl⟩ (zk_dg_ok qdo_14_70 (by decide +kernel)), List.forall_mem_cons.mpr ⟨zg_callV (fun w h => List.mem_cons_of_mem _ h) zg_tb_all S hK zg_Km qm422 zw7_119 zy_yX12_gather_V (ci := 12) (by decide +kernel) (hK.2.1 12 _ rfl).2.1 ⟨rfl, rfl⟩ (zk_dg_ok qdo_14_70 (by decide +kernel)), List.forall_mem_cons.mpr ⟨zg_callV (fun w h => List.mem_cons_of_mem _ h) zg_tb_all S hK zg_Km qm516 zw7_123 zy_yX12_weightOf_V (ci := 12) (by decide +kernel) (hK.2.1 12 _ rfl).2.1 ⟨rfl, rfl⟩ (zk_dg_ok qdo_14_70 (by decide +kernel)), List.forall_mem_cons.mpr ⟨zg_callS (fun w h => List.mem_cons_of_mem _ h) zg_tb_all S hK zg_Km qm529 zw6_145 zy_yX12_in_S (by decide +kernel) ⟨rfl, rfl⟩ (zk_dg_ok qdo_14_70 (by decide +kernel)), fun _ h => absurd h List.not_mem_nil⟩⟩⟩⟩⟩
set_option maxRecDepth 100000 in
theorem qm530 {l : Launch} {D : zk_D} {base : Nat} {Hb : Heap} : zk_Met l qK D base Hb (zg_K D base Hb) yX12_decides (Jvm.Cond.code yX12_decides prog_14_method_70_code 4 (some .int) :: zg_tb) qR530 qC530 := zk_met (ws' := zg_tb) (P := qP530) (AT := zg_AT) zpn_X12 rfl rfl rfl qk530 (fun s hK => zg_wd hK) (fun p e s m args below meth c s₁ Q B hml hK => qo530 B hml hK) (fun p e s m args below meth c s₁ v G0 H0 B hml hK ha hp hF q hq => absurd hq List.not_mem_nil)
set_option maxRecDepth 100000 in
def qR531 : Room := { frames := 4, cells := 0, slots := 0, locals := 86 }
set_option maxHeartbeats 4000000 in
set_option maxRecDepth 100000 in
theorem qo531 {p : Program} {l : Launch} {e : Env} {s : State} {m : MethodId} {args : Array Value} {below : List Frame} {meth : Method} {c : Code} {s₁ : State} {Q : State → Prop} {D : zk_D} {base : Nat} {Hb : Heap} (B : BodyLoose p l yX11_moved (headSpec (Jvm.Cond.code yX11_moved prog_1_method_25_code 5 (some .int) :: zg_tb) qR531) prog_1_method_25_code 5 (some .int) e s m args below meth c s₁) (hml : c.maxLocals = 5) (hK : zg_K D base Hb s) : zk_ok p l e (headSpec (Jvm.Cond.code yX11_moved prog_1_method_25_code 5 (some .int) :: zg_tb) qR531).room s m args below meth c Q qK D base Hb 5 prog_1_method_25_code qP531 qC531.2.2.2.2 := by
  have S : CallFix p m c prog_1_method_25_code 5 s args (Jvm.Cond.code yX11_moved prog_1_method_25_code 5 (some .int) :: zg_tb) RX11 := ⟨B.exec, B.bytes, hml, findClass_of_methodNamed B.named, atoms_spec (ws := (Jvm.Cond.code yX11_moved prog_1_method_25_code 5 (some .int) :: zg_tb)) B.pre⟩
  exact ⟨List.forall_mem_cons.mpr ⟨zg_gp S (hK.2.1 11 _ rfl) (fun w h => (List.mem_cons_of_mem _ (zc11 w h))) rfl zt11_13 (List.mem_cons_of_mem _ zw2_66) rfl, List.forall_mem_cons.mpr ⟨zg_gp4 S (hK.2.1 11 _ rfl) (fun w h => (List.mem_cons_of_mem _ (zc11 w h))) rfl zt11_9 (List.mem_cons_of_mem _ zw2_62), List.forall_mem_cons.mpr ⟨zg_gp S (hK.2.1 1 _ rfl) (fun w h => (List.mem_cons_of_mem _ (zc1 w h))) rfl zt1_11 (List.mem_cons_of_mem _ zw3_236) rfl, List.forall_mem_cons.mpr ⟨zg_gp S (hK.2.1 1 _ rfl) (fun w h => (List.mem_cons_of_mem _ (zc1 w h))) rfl zt1_13 (List.mem_cons_of_mem _ zw4_0) rfl, List.forall_mem_cons.mpr ⟨zg_gp4 S (hK.2.1 11 _ rfl) (fun w h => (List.mem_cons_of_mem _ (zc11 w h))) rfl zt11_8 (List.mem_cons_of_mem _ zw2_61), List.forall_mem_cons.mpr ⟨zg_gp4 S (hK.2.1 3 _ rfl) (fun w h => (List.mem_cons_of_mem _ (zc3 w h))) rfl zt3_3 (List.mem_cons_of_mem _ zw2_12), fun _ h => absurd h List.not_mem_nil⟩⟩⟩⟩⟩⟩,
    fun _ h => absurd h List.not_mem_nil,
    fun _ h => absurd h List.not_mem_nil,
    fun _ h => absurd h List.not_mem_nil,
    fun h => absurd rfl h,
    List.forall_mem_cons.mpr ⟨zg_kokW S (List.mem_cons_of_mem _ zw5_6) (by decide +kernel) (zk_dg_ok qdo_1_25 (by decide +kernel)), fun _ h => absurd h List.not_mem_nil⟩,
    List.forall_mem_cons.mpr ⟨zg_callV (fun w h => List.mem_cons_of_mem _ h) zg_tb_all S hK zg_Km qm472 zw4_142 zy_yX11_letterAt_V (ci := 11) (by decide +kernel) (hK.2.1 11 _ rfl).2.1 ⟨rfl, rfl⟩ (zk_dg_ok qdo_1_25 (by decide +kernel)), List.forall_mem_cons.mpr ⟨zg_callV (fun w h => List.mem_cons_of_mem _ h) zg_tb_all S hK zg_Km qm494 zw4_169 zy_yX11_learn_V (ci := 11) (by decide +kernel) (hK.2.1 11 _ rfl).2.1 ⟨rfl, rfl⟩ (zk_dg_ok qdo_1_25 (by decide +kernel)), List.forall_mem_cons.mpr ⟨zg_callV (fun w h => List.mem_cons_of_mem _ h) zg_tb_all S hK zg_Km qm500 zw4_206 zy_yX7_weigh_V (ci := 7) (by decide +kernel) (hK.2.1 7 _ rfl).2.1 ⟨rfl, rfl⟩ (zk_dg_ok qdo_1_25 (by decide +kernel)), List.forall_mem_cons.mpr ⟨zg_callV (fun w h => List.mem_cons_of_mem _ h) zg_tb_all S hK zg_Km qm493 zw4_173 zy_yX11_learnMarked_V (ci := 11) (by decide +kernel) (hK.2.1 11 _ rfl).2.1 ⟨rfl, rfl⟩ (zk_dg_ok qdo_1_25 (by decide +kernel)), List.forall_mem_cons.mpr ⟨zg_callV (fun w h => List.mem_cons_of_mem _ h) zg_tb_all S hK zg_Km qm500 zw4_206 zy_yX7_weigh_V (ci := 7) (by decide +kernel) (hK.2.1 7 _ rfl).2.1 ⟨rfl, rfl⟩ (zk_dg_ok qdo_1_25 (by decide +kernel)), fun _ h => absurd h List.not_mem_nil⟩⟩⟩⟩⟩⟩
set_option maxRecDepth 100000 in
theorem qm531 {l : Launch} {D : zk_D} {base : Nat} {Hb : Heap} : zk_Met l qK D base Hb (zg_K D base Hb) yX11_moved (Jvm.Cond.code yX11_moved prog_1_method_25_code 5 (some .int) :: zg_tb) qR531 qC531 := zk_met (ws' := zg_tb) (P := qP531) (AT := zg_AT) zpn_X11 rfl rfl rfl qk531 (fun s hK => zg_wd hK) (fun p e s m args below meth c s₁ Q B hml hK => qo531 B hml hK) (fun p e s m args below meth c s₁ v G0 H0 B hml hK ha hp hF q hq => absurd hq List.not_mem_nil)
set_option maxRecDepth 100000 in
def qR532 : Room := { frames := 5, cells := 0, slots := 0, locals := 120 }
set_option maxHeartbeats 4000000 in
set_option maxRecDepth 100000 in
theorem qo532 {p : Program} {l : Launch} {e : Env} {s : State} {m : MethodId} {args : Array Value} {below : List Frame} {meth : Method} {c : Code} {s₁ : State} {Q : State → Prop} {D : zk_D} {base : Nat} {Hb : Heap} (B : BodyLoose p l yX12_moved (headSpec (Jvm.Cond.code yX12_moved prog_14_method_71_code 4 (some .int) :: zg_tb) qR532) prog_14_method_71_code 4 (some .int) e s m args below meth c s₁) (hml : c.maxLocals = 4) (hK : zg_K D base Hb s) : zk_ok p l e (headSpec (Jvm.Cond.code yX12_moved prog_14_method_71_code 4 (some .int) :: zg_tb) qR532).room s m args below meth c Q qK D base Hb 4 prog_14_method_71_code qP532 qC532.2.2.2.2 := by
  have S : CallFix p m c prog_14_method_71_code 4 s args (Jvm.Cond.code yX12_moved prog_14_method_71_code 4 (some .int) :: zg_tb) RX12 := ⟨B.exec, B.bytes, hml, findClass_of_methodNamed B.named, atoms_spec (ws := (Jvm.Cond.code yX12_moved prog_14_method_71_code 4 (some .int) :: zg_tb)) B.pre⟩
  exact ⟨List.forall_mem_cons.mpr ⟨zg_gp S (hK.2.1 12 _ rfl) (fun w h => (List.mem_cons_of_mem _ (zc12 w h))) rfl zt12_0 (List.mem_cons_of_mem _ zw5_159) rfl, List.forall_mem_cons.mpr ⟨zg_gp4 S (hK.2.1 12 _ rfl) (fun w h => (List.mem_cons_of_mem _ (zc12 w h))) rfl zt12_48 (List.mem_cons_of_mem _ zw5_207), fun _ h => absurd h List.not_mem_nil⟩⟩,
    fun _ h => absurd h List.not_mem_nil,
    fun _ h => absurd h List.not_mem_nil,
    fun _ h => absurd h List.not_mem_nil,
    fun h => absurd rfl h,
    List.forall_mem_cons.mpr ⟨zg_kokW S (List.mem_cons_of_mem _ zw7_118) (by decide +kernel) (zk_dg_ok qdo_14_71 (by decide +kernel)), fun _ h => absurd h List.not_mem_nil⟩,
    List.forall_mem_cons.mpr ⟨zg_callV (fun w h => List.mem_cons_of_mem _ h) zg_tb_all S hK zg_Km qm475 zw7_80 zy_yX12_isLetter_V (ci := 12) (by decide +kernel) (hK.2.1 12 _ rfl).2.1 ⟨rfl, rfl⟩ (zk_dg_ok qdo_14_71 (by decide +kernel)), List.forall_mem_cons.mpr ⟨zg_callV (fun w h => List.mem_cons_of_mem _ h) zg_tb_all S hK zg_Km qm422 zw7_119 zy_yX12_gather_V (ci := 12) (by decide +kernel) (hK.2.1 12 _ rfl).2.1 ⟨rfl, rfl⟩ (zk_dg_ok qdo_14_71 (by decide +kernel)), List.forall_mem_cons.mpr ⟨zg_callV (fun w h => List.mem_cons_of_mem _ h) zg_tb_all S hK zg_Km qm516 zw7_123 zy_yX12_weightOf_V (ci := 12) (by decide +kernel) (hK.2.1 12 _ rfl).2.1 ⟨rfl, rfl⟩ (zk_dg_ok qdo_14_71 (by decide +kernel)), List.forall_mem_cons.mpr ⟨zg_callV (fun w h => List.mem_cons_of_mem _ h) zg_tb_all S hK zg_Km qm516 zw7_123 zy_yX12_weightOf_V (ci := 12) (by decide +kernel) (hK.2.1 12 _ rfl).2.1 ⟨rfl, rfl⟩ (zk_dg_ok qdo_14_71 (by decide +kernel)), fun _ h => absurd h List.not_mem_nil⟩⟩⟩⟩⟩
set_option maxRecDepth 100000 in
theorem qm532 {l : Launch} {D : zk_D} {base : Nat} {Hb : Heap} : zk_Met l qK D base Hb (zg_K D base Hb) yX12_moved (Jvm.Cond.code yX12_moved prog_14_method_71_code 4 (some .int) :: zg_tb) qR532 qC532 := zk_met (ws' := zg_tb) (P := qP532) (AT := zg_AT) zpn_X12 rfl rfl rfl qk532 (fun s hK => zg_wd hK) (fun p e s m args below meth c s₁ Q B hml hK => qo532 B hml hK) (fun p e s m args below meth c s₁ v G0 H0 B hml hK ha hp hF q hq => absurd hq List.not_mem_nil)
set_option maxRecDepth 100000 in
def qR533 : Room := { frames := 4, cells := 0, slots := 0, locals := 86 }
set_option maxHeartbeats 4000000 in
set_option maxRecDepth 100000 in
theorem qo533 {p : Program} {l : Launch} {e : Env} {s : State} {m : MethodId} {args : Array Value} {below : List Frame} {meth : Method} {c : Code} {s₁ : State} {Q : State → Prop} {D : zk_D} {base : Nat} {Hb : Heap} (B : BodyLoose p l yX11_weighMarked (headSpec (Jvm.Cond.code yX11_weighMarked prog_1_method_56_code 3 none :: zg_tb) qR533) prog_1_method_56_code 3 none e s m args below meth c s₁) (hml : c.maxLocals = 3) (hK : zg_K D base Hb s) : zk_ok p l e (headSpec (Jvm.Cond.code yX11_weighMarked prog_1_method_56_code 3 none :: zg_tb) qR533).room s m args below meth c Q qK D base Hb 3 prog_1_method_56_code qP533 qC533.2.2.2.2 := by
  have S : CallFix p m c prog_1_method_56_code 3 s args (Jvm.Cond.code yX11_weighMarked prog_1_method_56_code 3 none :: zg_tb) RX11 := ⟨B.exec, B.bytes, hml, findClass_of_methodNamed B.named, atoms_spec (ws := (Jvm.Cond.code yX11_weighMarked prog_1_method_56_code 3 none :: zg_tb)) B.pre⟩
  exact ⟨List.forall_mem_cons.mpr ⟨zg_gp S (hK.2.1 11 _ rfl) (fun w h => (List.mem_cons_of_mem _ (zc11 w h))) rfl zt11_15 (List.mem_cons_of_mem _ zw2_68) rfl, List.forall_mem_cons.mpr ⟨zg_gp4 S (hK.2.1 11 _ rfl) (fun w h => (List.mem_cons_of_mem _ (zc11 w h))) rfl zt11_11 (List.mem_cons_of_mem _ zw2_64), List.forall_mem_cons.mpr ⟨zg_gp4 S (hK.2.1 11 _ rfl) (fun w h => (List.mem_cons_of_mem _ (zc11 w h))) rfl zt11_8 (List.mem_cons_of_mem _ zw2_61), List.forall_mem_cons.mpr ⟨zg_gp4 S (hK.2.1 3 _ rfl) (fun w h => (List.mem_cons_of_mem _ (zc3 w h))) rfl zt3_3 (List.mem_cons_of_mem _ zw2_12), List.forall_mem_cons.mpr ⟨zg_gp4 S (hK.2.1 11 _ rfl) (fun w h => (List.mem_cons_of_mem _ (zc11 w h))) rfl zt11_9 (List.mem_cons_of_mem _ zw2_62), List.forall_mem_cons.mpr ⟨zg_gp4 S (hK.2.1 11 _ rfl) (fun w h => (List.mem_cons_of_mem _ (zc11 w h))) rfl zt11_7 (List.mem_cons_of_mem _ zw2_60), List.forall_mem_cons.mpr ⟨zg_gp S (hK.2.1 1 _ rfl) (fun w h => (List.mem_cons_of_mem _ (zc1 w h))) rfl zt1_11 (List.mem_cons_of_mem _ zw3_236) rfl, List.forall_mem_cons.mpr ⟨zg_gp S (hK.2.1 1 _ rfl) (fun w h => (List.mem_cons_of_mem _ (zc1 w h))) rfl zt1_13 (List.mem_cons_of_mem _ zw4_0) rfl, fun _ h => absurd h List.not_mem_nil⟩⟩⟩⟩⟩⟩⟩⟩,
    fun _ h => absurd h List.not_mem_nil,
    fun _ h => absurd h List.not_mem_nil,
    fun _ h => absurd h List.not_mem_nil,
    fun h => absurd rfl h,
    fun _ h => absurd h List.not_mem_nil,
    List.forall_mem_cons.mpr ⟨zg_callV (fun w h => List.mem_cons_of_mem _ h) zg_tb_all S hK zg_Km qm494 zw4_169 zy_yX11_learn_V (ci := 11) (by decide +kernel) (hK.2.1 11 _ rfl).2.1 ⟨rfl, rfl⟩ (zk_dg_ok qdo_1_56 (by decide +kernel)), List.forall_mem_cons.mpr ⟨zg_callV (fun w h => List.mem_cons_of_mem _ h) zg_tb_all S hK zg_Km qm500 zw4_206 zy_yX7_weigh_V (ci := 7) (by decide +kernel) (hK.2.1 7 _ rfl).2.1 ⟨rfl, rfl⟩ (zk_dg_ok qdo_1_56 (by decide +kernel)), fun _ h => absurd h List.not_mem_nil⟩⟩⟩
set_option maxRecDepth 100000 in
theorem qm533 {l : Launch} {D : zk_D} {base : Nat} {Hb : Heap} : zk_Met l qK D base Hb (zg_K D base Hb) yX11_weighMarked (Jvm.Cond.code yX11_weighMarked prog_1_method_56_code 3 none :: zg_tb) qR533 qC533 := zk_met (ws' := zg_tb) (P := qP533) (AT := zg_AT) zpn_X11 rfl rfl rfl qk533 (fun s hK => zg_wd hK) (fun p e s m args below meth c s₁ Q B hml hK => qo533 B hml hK) (fun p e s m args below meth c s₁ v G0 H0 B hml hK ha hp hF q hq => absurd hq List.not_mem_nil)
set_option maxRecDepth 100000 in
def qR534 : Room := { frames := 1, cells := 0, slots := 0, locals := 20 }
set_option maxHeartbeats 4000000 in
set_option maxRecDepth 100000 in
theorem qo534 {p : Program} {l : Launch} {e : Env} {s : State} {m : MethodId} {args : Array Value} {below : List Frame} {meth : Method} {c : Code} {s₁ : State} {Q : State → Prop} {D : zk_D} {base : Nat} {Hb : Heap} (B : BodyLoose p l yX11_lostAbove (headSpec (Jvm.Cond.code yX11_lostAbove prog_1_method_57_code 4 (some .int) :: zg_tb) qR534) prog_1_method_57_code 4 (some .int) e s m args below meth c s₁) (hml : c.maxLocals = 4) (hK : zg_K D base Hb s) : zk_ok p l e (headSpec (Jvm.Cond.code yX11_lostAbove prog_1_method_57_code 4 (some .int) :: zg_tb) qR534).room s m args below meth c Q qK D base Hb 4 prog_1_method_57_code qP534 qC534.2.2.2.2 := by
  have S : CallFix p m c prog_1_method_57_code 4 s args (Jvm.Cond.code yX11_lostAbove prog_1_method_57_code 4 (some .int) :: zg_tb) RX11 := ⟨B.exec, B.bytes, hml, findClass_of_methodNamed B.named, atoms_spec (ws := (Jvm.Cond.code yX11_lostAbove prog_1_method_57_code 4 (some .int) :: zg_tb)) B.pre⟩
  exact ⟨List.forall_mem_cons.mpr ⟨zg_gp S (hK.2.1 11 _ rfl) (fun w h => (List.mem_cons_of_mem _ (zc11 w h))) rfl zt11_15 (List.mem_cons_of_mem _ zw2_68) rfl, List.forall_mem_cons.mpr ⟨zg_gp4 S (hK.2.1 11 _ rfl) (fun w h => (List.mem_cons_of_mem _ (zc11 w h))) rfl zt11_8 (List.mem_cons_of_mem _ zw2_61), List.forall_mem_cons.mpr ⟨zg_gp4 S (hK.2.1 3 _ rfl) (fun w h => (List.mem_cons_of_mem _ (zc3 w h))) rfl zt3_3 (List.mem_cons_of_mem _ zw2_12), List.forall_mem_cons.mpr ⟨zg_gp4 S (hK.2.1 11 _ rfl) (fun w h => (List.mem_cons_of_mem _ (zc11 w h))) rfl zt11_11 (List.mem_cons_of_mem _ zw2_64), fun _ h => absurd h List.not_mem_nil⟩⟩⟩⟩,
    fun _ h => absurd h List.not_mem_nil,
    fun _ h => absurd h List.not_mem_nil,
    fun _ h => absurd h List.not_mem_nil,
    fun h => absurd rfl h,
    fun _ h => absurd h List.not_mem_nil,
    fun _ h => absurd h List.not_mem_nil⟩
set_option maxRecDepth 100000 in
theorem qm534 {l : Launch} {D : zk_D} {base : Nat} {Hb : Heap} : zk_Met l qK D base Hb (zg_K D base Hb) yX11_lostAbove (Jvm.Cond.code yX11_lostAbove prog_1_method_57_code 4 (some .int) :: zg_tb) qR534 qC534 := zk_met (ws' := zg_tb) (P := qP534) (AT := zg_AT) zpn_X11 rfl rfl rfl qk534 (fun s hK => zg_wd hK) (fun p e s m args below meth c s₁ Q B hml hK => qo534 B hml hK) (fun p e s m args below meth c s₁ v G0 H0 B hml hK ha hp hF q hq => absurd hq List.not_mem_nil)
set_option maxRecDepth 100000 in
def qR535 : Room := { frames := 1, cells := 0, slots := 0, locals := 20 }
set_option maxHeartbeats 4000000 in
set_option maxRecDepth 100000 in
theorem qo535 {p : Program} {l : Launch} {e : Env} {s : State} {m : MethodId} {args : Array Value} {below : List Frame} {meth : Method} {c : Code} {s₁ : State} {Q : State → Prop} {D : zk_D} {base : Nat} {Hb : Heap} (B : BodyLoose p l yX11_letBelow (headSpec (Jvm.Cond.code yX11_letBelow prog_1_method_58_code 4 (some .int) :: zg_tb) qR535) prog_1_method_58_code 4 (some .int) e s m args below meth c s₁) (hml : c.maxLocals = 4) (hK : zg_K D base Hb s) : zk_ok p l e (headSpec (Jvm.Cond.code yX11_letBelow prog_1_method_58_code 4 (some .int) :: zg_tb) qR535).room s m args below meth c Q qK D base Hb 4 prog_1_method_58_code qP535 qC535.2.2.2.2 := by
  have S : CallFix p m c prog_1_method_58_code 4 s args (Jvm.Cond.code yX11_letBelow prog_1_method_58_code 4 (some .int) :: zg_tb) RX11 := ⟨B.exec, B.bytes, hml, findClass_of_methodNamed B.named, atoms_spec (ws := (Jvm.Cond.code yX11_letBelow prog_1_method_58_code 4 (some .int) :: zg_tb)) B.pre⟩
  exact ⟨List.forall_mem_cons.mpr ⟨zg_gp S (hK.2.1 11 _ rfl) (fun w h => (List.mem_cons_of_mem _ (zc11 w h))) rfl zt11_15 (List.mem_cons_of_mem _ zw2_68) rfl, List.forall_mem_cons.mpr ⟨zg_gp4 S (hK.2.1 11 _ rfl) (fun w h => (List.mem_cons_of_mem _ (zc11 w h))) rfl zt11_8 (List.mem_cons_of_mem _ zw2_61), List.forall_mem_cons.mpr ⟨zg_gp4 S (hK.2.1 3 _ rfl) (fun w h => (List.mem_cons_of_mem _ (zc3 w h))) rfl zt3_3 (List.mem_cons_of_mem _ zw2_12), List.forall_mem_cons.mpr ⟨zg_gp4 S (hK.2.1 11 _ rfl) (fun w h => (List.mem_cons_of_mem _ (zc11 w h))) rfl zt11_11 (List.mem_cons_of_mem _ zw2_64), fun _ h => absurd h List.not_mem_nil⟩⟩⟩⟩,
    fun _ h => absurd h List.not_mem_nil,
    fun _ h => absurd h List.not_mem_nil,
    fun _ h => absurd h List.not_mem_nil,
    fun h => absurd rfl h,
    fun _ h => absurd h List.not_mem_nil,
    fun _ h => absurd h List.not_mem_nil⟩
set_option maxRecDepth 100000 in
theorem qm535 {l : Launch} {D : zk_D} {base : Nat} {Hb : Heap} : zk_Met l qK D base Hb (zg_K D base Hb) yX11_letBelow (Jvm.Cond.code yX11_letBelow prog_1_method_58_code 4 (some .int) :: zg_tb) qR535 qC535 := zk_met (ws' := zg_tb) (P := qP535) (AT := zg_AT) zpn_X11 rfl rfl rfl qk535 (fun s hK => zg_wd hK) (fun p e s m args below meth c s₁ Q B hml hK => qo535 B hml hK) (fun p e s m args below meth c s₁ v G0 H0 B hml hK ha hp hF q hq => absurd hq List.not_mem_nil)
set_option maxRecDepth 100000 in
def qR536 : Room := { frames := 5, cells := 0, slots := 0, locals := 108 }
set_option maxHeartbeats 4000000 in
set_option maxRecDepth 100000 in
theorem qo536 {p : Program} {l : Launch} {e : Env} {s : State} {m : MethodId} {args : Array Value} {below : List Frame} {meth : Method} {c : Code} {s₁ : State} {Q : State → Prop} {D : zk_D} {base : Nat} {Hb : Heap} (B : BodyLoose p l yX11_lose (headSpec (Jvm.Cond.code yX11_lose prog_1_method_26_code 4 (some .int) :: zg_tb) qR536) prog_1_method_26_code 4 (some .int) e s m args below meth c s₁) (hml : c.maxLocals = 4) (hK : zg_K D base Hb s) : zk_ok p l e (headSpec (Jvm.Cond.code yX11_lose prog_1_method_26_code 4 (some .int) :: zg_tb) qR536).room s m args below meth c Q qK D base Hb 4 prog_1_method_26_code qP536 qC536.2.2.2.2 := by
  have S : CallFix p m c prog_1_method_26_code 4 s args (Jvm.Cond.code yX11_lose prog_1_method_26_code 4 (some .int) :: zg_tb) RX11 := ⟨B.exec, B.bytes, hml, findClass_of_methodNamed B.named, atoms_spec (ws := (Jvm.Cond.code yX11_lose prog_1_method_26_code 4 (some .int) :: zg_tb)) B.pre⟩
  exact ⟨fun _ h => absurd h List.not_mem_nil,
    fun _ h => absurd h List.not_mem_nil,
    fun _ h => absurd h List.not_mem_nil,
    fun _ h => absurd h List.not_mem_nil,
    fun h => absurd rfl h,
    fun _ h => absurd h List.not_mem_nil,
    List.forall_mem_cons.mpr ⟨zg_callV (fun w h => List.mem_cons_of_mem _ h) zg_tb_all S hK zg_Km qm377 zw3_108 zy_yX11_isPast_V (ci := 11) (by decide +kernel) (hK.2.1 11 _ rfl).2.1 ⟨rfl, rfl⟩ (zk_dg_ok qdo_1_26 (by decide +kernel)), List.forall_mem_cons.mpr ⟨zg_callV (fun w h => List.mem_cons_of_mem _ h) zg_tb_all S hK zg_Km qm533 zw5_19 zy_yX11_weighMarked_V (ci := 11) (by decide +kernel) (hK.2.1 11 _ rfl).2.1 ⟨rfl, rfl⟩ (zk_dg_ok qdo_1_26 (by decide +kernel)), List.forall_mem_cons.mpr ⟨zg_callV (fun w h => List.mem_cons_of_mem _ h) zg_tb_all S hK zg_Km qm534 zw5_23 zy_yX11_lostAbove_V (ci := 11) (by decide +kernel) (hK.2.1 11 _ rfl).2.1 ⟨rfl, rfl⟩ (zk_dg_ok qdo_1_26 (by decide +kernel)), List.forall_mem_cons.mpr ⟨zg_callV (fun w h => List.mem_cons_of_mem _ h) zg_tb_all S hK zg_Km qm535 zw5_27 zy_yX11_letBelow_V (ci := 11) (by decide +kernel) (hK.2.1 11 _ rfl).2.1 ⟨rfl, rfl⟩ (zk_dg_ok qdo_1_26 (by decide +kernel)), fun _ h => absurd h List.not_mem_nil⟩⟩⟩⟩⟩
set_option maxRecDepth 100000 in
theorem qm536 {l : Launch} {D : zk_D} {base : Nat} {Hb : Heap} : zk_Met l qK D base Hb (zg_K D base Hb) yX11_lose (Jvm.Cond.code yX11_lose prog_1_method_26_code 4 (some .int) :: zg_tb) qR536 qC536 := zk_met (ws' := zg_tb) (P := qP536) (AT := zg_AT) zpn_X11 rfl rfl rfl qk536 (fun s hK => zg_wd hK) (fun p e s m args below meth c s₁ Q B hml hK => qo536 B hml hK) (fun p e s m args below meth c s₁ v G0 H0 B hml hK ha hp hF q hq => absurd hq List.not_mem_nil)
set_option maxRecDepth 100000 in
def qR537 : Room := { frames := 1, cells := 0, slots := 0, locals := 20 }
set_option maxHeartbeats 4000000 in
set_option maxRecDepth 100000 in
theorem qo537 {p : Program} {l : Launch} {e : Env} {s : State} {m : MethodId} {args : Array Value} {below : List Frame} {meth : Method} {c : Code} {s₁ : State} {Q : State → Prop} {D : zk_D} {base : Nat} {Hb : Heap} (B : BodyLoose p l yX12_in (headSpec (Jvm.Cond.code yX12_in prog_14_method_1_code 3 (some .boolean) :: zg_tb) qR537) prog_14_method_1_code 3 (some .boolean) e s m args below meth c s₁) (hml : c.maxLocals = 3) (hK : zg_K D base Hb s) : zk_ok p l e (headSpec (Jvm.Cond.code yX12_in prog_14_method_1_code 3 (some .boolean) :: zg_tb) qR537).room s m args below meth c Q qK D base Hb 3 prog_14_method_1_code qP537 qC537.2.2.2.2 := by
  have S : CallFix p m c prog_14_method_1_code 3 s args (Jvm.Cond.code yX12_in prog_14_method_1_code 3 (some .boolean) :: zg_tb) RX12 := ⟨B.exec, B.bytes, hml, findClass_of_methodNamed B.named, atoms_spec (ws := (Jvm.Cond.code yX12_in prog_14_method_1_code 3 (some .boolean) :: zg_tb)) B.pre⟩
  exact ⟨fun _ h => absurd h List.not_mem_nil,
    fun _ h => absurd h List.not_mem_nil,
    fun _ h => absurd h List.not_mem_nil,
    fun _ h => absurd h List.not_mem_nil,
    fun h => absurd rfl h,
    fun _ h => absurd h List.not_mem_nil,
    fun _ h => absurd h List.not_mem_nil⟩
set_option maxRecDepth 100000 in
theorem qm537 {l : Launch} {D : zk_D} {base : Nat} {Hb : Heap} : zk_Met l qK D base Hb (zg_K D base Hb) yX12_in (Jvm.Cond.code yX12_in prog_14_method_1_code 3 (some .boolean) :: zg_tb) qR537 qC537 := zk_met (ws' := zg_tb) (P := qP537) (AT := zg_AT) zpn_X12 rfl rfl rfl qk537 (fun s hK => zg_wd hK) (fun p e s m args below meth c s₁ Q B hml hK => qo537 B hml hK) (fun p e s m args below meth c s₁ v G0 H0 B hml hK ha hp hF q hq => absurd hq List.not_mem_nil)
set_option maxRecDepth 100000 in
def qR538 : Room := { frames := 5, cells := 0, slots := 0, locals := 120 }
set_option maxHeartbeats 4000000 in
set_option maxRecDepth 100000 in
theorem qo538 {p : Program} {l : Launch} {e : Env} {s : State} {m : MethodId} {args : Array Value} {below : List Frame} {meth : Method} {c : Code} {s₁ : State} {Q : State → Prop} {D : zk_D} {base : Nat} {Hb : Heap} (B : BodyLoose p l yX12_weighMarked (headSpec (Jvm.Cond.code yX12_weighMarked prog_14_method_73_code 3 none :: zg_tb) qR538) prog_14_method_73_code 3 none e s m args below meth c s₁) (hml : c.maxLocals = 3) (hK : zg_K D base Hb s) : zk_ok p l e (headSpec (Jvm.Cond.code yX12_weighMarked prog_14_method_73_code 3 none :: zg_tb) qR538).room s m args below meth c Q qK D base Hb 3 prog_14_method_73_code qP538 qC538.2.2.2.2 := by
  have S : CallFix p m c prog_14_method_73_code 3 s args (Jvm.Cond.code yX12_weighMarked prog_14_method_73_code 3 none :: zg_tb) RX12 := ⟨B.exec, B.bytes, hml, findClass_of_methodNamed B.named, atoms_spec (ws := (Jvm.Cond.code yX12_weighMarked prog_14_method_73_code 3 none :: zg_tb)) B.pre⟩
  exact ⟨List.forall_mem_cons.mpr ⟨zg_gp S (hK.2.1 12 _ rfl) (fun w h => (List.mem_cons_of_mem _ (zc12 w h))) rfl zt12_44 (List.mem_cons_of_mem _ zw5_203) rfl, List.forall_mem_cons.mpr ⟨zg_gp4 S (hK.2.1 12 _ rfl) (fun w h => (List.mem_cons_of_mem _ (zc12 w h))) rfl zt12_53 (List.mem_cons_of_mem _ zw5_212), List.forall_mem_cons.mpr ⟨zg_gp4 S (hK.2.1 12 _ rfl) (fun w h => (List.mem_cons_of_mem _ (zc12 w h))) rfl zt12_48 (List.mem_cons_of_mem _ zw5_207), fun _ h => absurd h List.not_mem_nil⟩⟩⟩,
    fun _ h => absurd h List.not_mem_nil,
    fun _ h => absurd h List.not_mem_nil,
    fun _ h => absurd h List.not_mem_nil,
    fun h => absurd rfl h,
    fun _ h => absurd h List.not_mem_nil,
    List.forall_mem_cons.mpr ⟨zg_callV (fun w h => List.mem_cons_of_mem _ h) zg_tb_all S hK zg_Km qm422 zw7_119 zy_yX12_gather_V (ci := 12) (by decide +kernel) (hK.2.1 12 _ rfl).2.1 ⟨rfl, rfl⟩ (zk_dg_ok qdo_14_73 (by decide +kernel)), List.forall_mem_cons.mpr ⟨zg_callV (fun w h => List.mem_cons_of_mem _ h) zg_tb_all S hK zg_Km qm516 zw7_123 zy_yX12_weightOf_V (ci := 12) (by decide +kernel) (hK.2.1 12 _ rfl).2.1 ⟨rfl, rfl⟩ (zk_dg_ok qdo_14_73 (by decide +kernel)), fun _ h => absurd h List.not_mem_nil⟩⟩⟩
set_option maxRecDepth 100000 in
theorem qm538 {l : Launch} {D : zk_D} {base : Nat} {Hb : Heap} : zk_Met l qK D base Hb (zg_K D base Hb) yX12_weighMarked (Jvm.Cond.code yX12_weighMarked prog_14_method_73_code 3 none :: zg_tb) qR538 qC538 := zk_met (ws' := zg_tb) (P := qP538) (AT := zg_AT) zpn_X12 rfl rfl rfl qk538 (fun s hK => zg_wd hK) (fun p e s m args below meth c s₁ Q B hml hK => qo538 B hml hK) (fun p e s m args below meth c s₁ v G0 H0 B hml hK ha hp hF q hq => absurd hq List.not_mem_nil)
set_option maxRecDepth 100000 in
def qR539 : Room := { frames := 1, cells := 0, slots := 0, locals := 20 }
set_option maxHeartbeats 4000000 in
set_option maxRecDepth 100000 in
theorem qo539 {p : Program} {l : Launch} {e : Env} {s : State} {m : MethodId} {args : Array Value} {below : List Frame} {meth : Method} {c : Code} {s₁ : State} {Q : State → Prop} {D : zk_D} {base : Nat} {Hb : Heap} (B : BodyLoose p l yX12_lostOrLet (headSpec (Jvm.Cond.code yX12_lostOrLet prog_14_method_72_code 6 (some .int) :: zg_tb) qR539) prog_14_method_72_code 6 (some .int) e s m args below meth c s₁) (hml : c.maxLocals = 6) (hK : zg_K D base Hb s) : zk_ok p l e (headSpec (Jvm.Cond.code yX12_lostOrLet prog_14_method_72_code 6 (some .int) :: zg_tb) qR539).room s m args below meth c Q qK D base Hb 6 prog_14_method_72_code qP539 qC539.2.2.2.2 := by
  have S : CallFix p m c prog_14_method_72_code 6 s args (Jvm.Cond.code yX12_lostOrLet prog_14_method_72_code 6 (some .int) :: zg_tb) RX12 := ⟨B.exec, B.bytes, hml, findClass_of_methodNamed B.named, atoms_spec (ws := (Jvm.Cond.code yX12_lostOrLet prog_14_method_72_code 6 (some .int) :: zg_tb)) B.pre⟩
  exact ⟨List.forall_mem_cons.mpr ⟨zg_gp S (hK.2.1 12 _ rfl) (fun w h => (List.mem_cons_of_mem _ (zc12 w h))) rfl zt12_44 (List.mem_cons_of_mem _ zw5_203) rfl, List.forall_mem_cons.mpr ⟨zg_gp4 S (hK.2.1 12 _ rfl) (fun w h => (List.mem_cons_of_mem _ (zc12 w h))) rfl zt12_48 (List.mem_cons_of_mem _ zw5_207), List.forall_mem_cons.mpr ⟨zg_gp4 S (hK.2.1 12 _ rfl) (fun w h => (List.mem_cons_of_mem _ (zc12 w h))) rfl zt12_53 (List.mem_cons_of_mem _ zw5_212), fun _ h => absurd h List.not_mem_nil⟩⟩⟩,
    fun _ h => absurd h List.not_mem_nil,
    fun _ h => absurd h List.not_mem_nil,
    fun _ h => absurd h List.not_mem_nil,
    fun h => absurd rfl h,
    fun _ h => absurd h List.not_mem_nil,
    fun _ h => absurd h List.not_mem_nil⟩
set_option maxRecDepth 100000 in
theorem qm539 {l : Launch} {D : zk_D} {base : Nat} {Hb : Heap} : zk_Met l qK D base Hb (zg_K D base Hb) yX12_lostOrLet (Jvm.Cond.code yX12_lostOrLet prog_14_method_72_code 6 (some .int) :: zg_tb) qR539 qC539 := zk_met (ws' := zg_tb) (P := qP539) (AT := zg_AT) zpn_X12 rfl rfl rfl qk539 (fun s hK => zg_wd hK) (fun p e s m args below meth c s₁ Q B hml hK => qo539 B hml hK) (fun p e s m args below meth c s₁ v G0 H0 B hml hK ha hp hF q hq => absurd hq List.not_mem_nil)
set_option maxRecDepth 100000 in
def qR540 : Room := { frames := 6, cells := 0, slots := 0, locals := 142 }
set_option maxHeartbeats 4000000 in
set_option maxRecDepth 100000 in
theorem qo540 {p : Program} {l : Launch} {e : Env} {s : State} {m : MethodId} {args : Array Value} {below : List Frame} {meth : Method} {c : Code} {s₁ : State} {Q : State → Prop} {D : zk_D} {base : Nat} {Hb : Heap} (B : BodyLoose p l yX12_lose (headSpec (Jvm.Cond.code yX12_lose prog_14_method_74_code 4 (some .int) :: zg_tb) qR540) prog_14_method_74_code 4 (some .int) e s m args below meth c s₁) (hml : c.maxLocals = 4) (hK : zg_K D base Hb s) : zk_ok p l e (headSpec (Jvm.Cond.code yX12_lose prog_14_method_74_code 4 (some .int) :: zg_tb) qR540).room s m args below meth c Q qK D base Hb 4 prog_14_method_74_code qP540 qC540.2.2.2.2 := by
  have S : CallFix p m c prog_14_method_74_code 4 s args (Jvm.Cond.code yX12_lose prog_14_method_74_code 4 (some .int) :: zg_tb) RX12 := ⟨B.exec, B.bytes, hml, findClass_of_methodNamed B.named, atoms_spec (ws := (Jvm.Cond.code yX12_lose prog_14_method_74_code 4 (some .int) :: zg_tb)) B.pre⟩
  exact ⟨fun _ h => absurd h List.not_mem_nil,
    fun _ h => absurd h List.not_mem_nil,
    fun _ h => absurd h List.not_mem_nil,
    fun _ h => absurd h List.not_mem_nil,
    fun h => absurd rfl h,
    fun _ h => absurd h List.not_mem_nil,
    List.forall_mem_cons.mpr ⟨zg_callV (fun w h => List.mem_cons_of_mem _ h) zg_tb_all S hK zg_Km qm383 zw7_57 zy_yX12_isKnowing_V (ci := 12) (by decide +kernel) (hK.2.1 12 _ rfl).2.1 ⟨rfl, rfl⟩ (zk_dg_ok qdo_14_74 (by decide +kernel)), List.forall_mem_cons.mpr ⟨zg_callS (fun w h => List.mem_cons_of_mem _ h) zg_tb_all S hK zg_Km qm537 zw6_145 zy_yX12_in_S (by decide +kernel) ⟨rfl, rfl⟩ (zk_dg_ok qdo_14_74 (by decide +kernel)), List.forall_mem_cons.mpr ⟨zg_callV (fun w h => List.mem_cons_of_mem _ h) zg_tb_all S hK zg_Km qm538 zw7_152 zy_yX12_weighMarked_V (ci := 12) (by decide +kernel) (hK.2.1 12 _ rfl).2.1 ⟨rfl, rfl⟩ (zk_dg_ok qdo_14_74 (by decide +kernel)), List.forall_mem_cons.mpr ⟨zg_callV (fun w h => List.mem_cons_of_mem _ h) zg_tb_all S hK zg_Km qm539 zw7_156 zy_yX12_lostOrLet_V (ci := 12) (by decide +kernel) (hK.2.1 12 _ rfl).2.1 ⟨rfl, rfl⟩ (zk_dg_ok qdo_14_74 (by decide +kernel)), fun _ h => absurd h List.not_mem_nil⟩⟩⟩⟩⟩
set_option maxRecDepth 100000 in
theorem qm540 {l : Launch} {D : zk_D} {base : Nat} {Hb : Heap} : zk_Met l qK D base Hb (zg_K D base Hb) yX12_lose (Jvm.Cond.code yX12_lose prog_14_method_74_code 4 (some .int) :: zg_tb) qR540 qC540 := zk_met (ws' := zg_tb) (P := qP540) (AT := zg_AT) zpn_X12 rfl rfl rfl qk540 (fun s hK => zg_wd hK) (fun p e s m args below meth c s₁ Q B hml hK => qo540 B hml hK) (fun p e s m args below meth c s₁ v G0 H0 B hml hK ha hp hF q hq => absurd hq List.not_mem_nil)
set_option maxRecDepth 100000 in
def qR541 : Room := { frames := 5, cells := 0, slots := 0, locals := 108 }
set_option maxHeartbeats 4000000 in
set_option maxRecDepth 100000 in
theorem qo541 {p : Program} {l : Launch} {e : Env} {s : State} {m : MethodId} {args : Array Value} {below : List Frame} {meth : Method} {c : Code} {s₁ : State} {Q : State → Prop} {D : zk_D} {base : Nat} {Hb : Heap} (B : BodyLoose p l yX11_best (headSpec (Jvm.Cond.code yX11_best prog_1_method_27_code 8 (some .int) :: zg_tb) qR541) prog_1_method_27_code 8 (some .int) e s m args below meth c s₁) (hml : c.maxLocals = 8) (hK : zg_K D base Hb s) : zk_ok p l e (headSpec (Jvm.Cond.code yX11_best prog_1_method_27_code 8 (some .int) :: zg_tb) qR541).room s m args below meth c Q qK D base Hb 8 prog_1_method_27_code qP541 qC541.2.2.2.2 := by
  have S : CallFix p m c prog_1_method_27_code 8 s args (Jvm.Cond.code yX11_best prog_1_method_27_code 8 (some .int) :: zg_tb) RX11 := ⟨B.exec, B.bytes, hml, findClass_of_methodNamed B.named, atoms_spec (ws := (Jvm.Cond.code yX11_best prog_1_method_27_code 8 (some .int) :: zg_tb)) B.pre⟩
  exact ⟨List.forall_mem_cons.mpr ⟨zg_gp S (hK.2.1 11 _ rfl) (fun w h => (List.mem_cons_of_mem _ (zc11 w h))) rfl zt11_15 (List.mem_cons_of_mem _ zw2_68) rfl, List.forall_mem_cons.mpr ⟨zg_gp4 S (hK.2.1 11 _ rfl) (fun w h => (List.mem_cons_of_mem _ (zc11 w h))) rfl zt11_8 (List.mem_cons_of_mem _ zw2_61), List.forall_mem_cons.mpr ⟨zg_gp4 S (hK.2.1 3 _ rfl) (fun w h => (List.mem_cons_of_mem _ (zc3 w h))) rfl zt3_3 (List.mem_cons_of_mem _ zw2_12), List.forall_mem_cons.mpr ⟨zg_gp4 S (hK.2.1 11 _ rfl) (fun w h => (List.mem_cons_of_mem _ (zc11 w h))) rfl zt11_11 (List.mem_cons_of_mem _ zw2_64), fun _ h => absurd h List.not_mem_nil⟩⟩⟩⟩,
    fun _ h => absurd h List.not_mem_nil,
    fun _ h => absurd h List.not_mem_nil,
    fun _ h => absurd h List.not_mem_nil,
    fun h => absurd rfl h,
    List.forall_mem_cons.mpr ⟨zg_kokW S (List.mem_cons_of_mem _ zw5_6) (by decide +kernel) (zk_dg_ok qdo_1_27 (by decide +kernel)), List.forall_mem_cons.mpr ⟨zg_kokW S (List.mem_cons_of_mem _ zw5_6) (by decide +kernel) (zk_dg_ok qdo_1_27 (by decide +kernel)), fun _ h => absurd h List.not_mem_nil⟩⟩,
    List.forall_mem_cons.mpr ⟨zg_callV (fun w h => List.mem_cons_of_mem _ h) zg_tb_all S hK zg_Km qm377 zw3_108 zy_yX11_isPast_V (ci := 11) (by decide +kernel) (hK.2.1 11 _ rfl).2.1 ⟨rfl, rfl⟩ (zk_dg_ok qdo_1_27 (by decide +kernel)), List.forall_mem_cons.mpr ⟨zg_callV (fun w h => List.mem_cons_of_mem _ h) zg_tb_all S hK zg_Km qm533 zw5_19 zy_yX11_weighMarked_V (ci := 11) (by decide +kernel) (hK.2.1 11 _ rfl).2.1 ⟨rfl, rfl⟩ (zk_dg_ok qdo_1_27 (by decide +kernel)), List.forall_mem_cons.mpr ⟨zg_callV (fun w h => List.mem_cons_of_mem _ h) zg_tb_all S hK zg_Km qm535 zw5_27 zy_yX11_letBelow_V (ci := 11) (by decide +kernel) (hK.2.1 11 _ rfl).2.1 ⟨rfl, rfl⟩ (zk_dg_ok qdo_1_27 (by decide +kernel)), List.forall_mem_cons.mpr ⟨zg_callV (fun w h => List.mem_cons_of_mem _ h) zg_tb_all S hK zg_Km qm534 zw5_23 zy_yX11_lostAbove_V (ci := 11) (by decide +kernel) (hK.2.1 11 _ rfl).2.1 ⟨rfl, rfl⟩ (zk_dg_ok qdo_1_27 (by decide +kernel)), fun _ h => absurd h List.not_mem_nil⟩⟩⟩⟩⟩
set_option maxRecDepth 100000 in
theorem qm541 {l : Launch} {D : zk_D} {base : Nat} {Hb : Heap} : zk_Met l qK D base Hb (zg_K D base Hb) yX11_best (Jvm.Cond.code yX11_best prog_1_method_27_code 8 (some .int) :: zg_tb) qR541 qC541 := zk_met (ws' := zg_tb) (P := qP541) (AT := zg_AT) zpn_X11 rfl rfl rfl qk541 (fun s hK => zg_wd hK) (fun p e s m args below meth c s₁ Q B hml hK => qo541 B hml hK) (fun p e s m args below meth c s₁ v G0 H0 B hml hK ha hp hF q hq => absurd hq List.not_mem_nil)
set_option maxRecDepth 100000 in
def qR542 : Room := { frames := 6, cells := 0, slots := 0, locals := 142 }
set_option maxHeartbeats 4000000 in
set_option maxRecDepth 100000 in
theorem qo542 {p : Program} {l : Launch} {e : Env} {s : State} {m : MethodId} {args : Array Value} {below : List Frame} {meth : Method} {c : Code} {s₁ : State} {Q : State → Prop} {D : zk_D} {base : Nat} {Hb : Heap} (B : BodyLoose p l yX12_best (headSpec (Jvm.Cond.code yX12_best prog_14_method_75_code 6 (some .int) :: zg_tb) qR542) prog_14_method_75_code 6 (some .int) e s m args below meth c s₁) (hml : c.maxLocals = 6) (hK : zg_K D base Hb s) : zk_ok p l e (headSpec (Jvm.Cond.code yX12_best prog_14_method_75_code 6 (some .int) :: zg_tb) qR542).room s m args below meth c Q qK D base Hb 6 prog_14_method_75_code qP542 qC542.2.2.2.2 := by
  have S : CallFix p m c prog_14_method_75_code 6 s args (Jvm.Cond.code yX12_best prog_14_method_75_code 6 (some .int) :: zg_tb) RX12 := ⟨B.exec, B.bytes, hml, findClass_of_methodNamed B.named, atoms_spec (ws := (Jvm.Cond.code yX12_best prog_14_method_75_code 6 (some .int) :: zg_tb)) B.pre⟩
  exact ⟨List.forall_mem_cons.mpr ⟨zg_gp S (hK.2.1 12 _ rfl) (fun w h => (List.mem_cons_of_mem _ (zc12 w h))) rfl zt12_44 (List.mem_cons_of_mem _ zw5_203) rfl, List.forall_mem_cons.mpr ⟨zg_gp4 S (hK.2.1 12 _ rfl) (fun w h => (List.mem_cons_of_mem _ (zc12 w h))) rfl zt12_48 (List.mem_cons_of_mem _ zw5_207), List.forall_mem_cons.mpr ⟨zg_gp4 S (hK.2.1 12 _ rfl) (fun w h => (List.mem_cons_of_mem _ (zc12 w h))) rfl zt12_53 (List.mem_cons_of_mem _ zw5_212), fun _ h => absurd h List.not_mem_nil⟩⟩⟩,
    fun _ h => absurd h List.not_mem_nil,
    fun _ h => absurd h List.not_mem_nil,
    fun _ h => absurd h List.not_mem_nil,
    fun h => absurd rfl h,
    List.forall_mem_cons.mpr ⟨zg_kokW S (List.mem_cons_of_mem _ zw7_118) (by decide +kernel) (zk_dg_ok qdo_14_75 (by decide +kernel)), List.forall_mem_cons.mpr ⟨zg_kokW S (List.mem_cons_of_mem _ zw7_118) (by decide +kernel) (zk_dg_ok qdo_14_75 (by decide +kernel)), List.forall_mem_cons.mpr ⟨zg_kokW S (List.mem_cons_of_mem _ zw7_118) (by decide +kernel) (zk_dg_ok qdo_14_75 (by decide +kernel)), fun _ h => absurd h List.not_mem_nil⟩⟩⟩,
    List.forall_mem_cons.mpr ⟨zg_callV (fun w h => List.mem_cons_of_mem _ h) zg_tb_all S hK zg_Km qm383 zw7_57 zy_yX12_isKnowing_V (ci := 12) (by decide +kernel) (hK.2.1 12 _ rfl).2.1 ⟨rfl, rfl⟩ (zk_dg_ok qdo_14_75 (by decide +kernel)), List.forall_mem_cons.mpr ⟨zg_callV (fun w h => List.mem_cons_of_mem _ h) zg_tb_all S hK zg_Km qm538 zw7_152 zy_yX12_weighMarked_V (ci := 12) (by decide +kernel) (hK.2.1 12 _ rfl).2.1 ⟨rfl, rfl⟩ (zk_dg_ok qdo_14_75 (by decide +kernel)), List.forall_mem_cons.mpr ⟨zg_callV (fun w h => List.mem_cons_of_mem _ h) zg_tb_all S hK zg_Km qm539 zw7_156 zy_yX12_lostOrLet_V (ci := 12) (by decide +kernel) (hK.2.1 12 _ rfl).2.1 ⟨rfl, rfl⟩ (zk_dg_ok qdo_14_75 (by decide +kernel)), List.forall_mem_cons.mpr ⟨zg_callV (fun w h => List.mem_cons_of_mem _ h) zg_tb_all S hK zg_Km qm539 zw7_156 zy_yX12_lostOrLet_V (ci := 12) (by decide +kernel) (hK.2.1 12 _ rfl).2.1 ⟨rfl, rfl⟩ (zk_dg_ok qdo_14_75 (by decide +kernel)), fun _ h => absurd h List.not_mem_nil⟩⟩⟩⟩⟩
set_option maxRecDepth 100000 in
theorem qm542 {l : Launch} {D : zk_D} {base : Nat} {Hb : Heap} : zk_Met l qK D base Hb (zg_K D base Hb) yX12_best (Jvm.Cond.code yX12_best prog_14_method_75_code 6 (some .int) :: zg_tb) qR542 qC542 := zk_met (ws' := zg_tb) (P := qP542) (AT := zg_AT) zpn_X12 rfl rfl rfl qk542 (fun s hK => zg_wd hK) (fun p e s m args below meth c s₁ Q B hml hK => qo542 B hml hK) (fun p e s m args below meth c s₁ v G0 H0 B hml hK ha hp hF q hq => absurd hq List.not_mem_nil)
set_option maxRecDepth 100000 in
def qR543 : Room := { frames := 1, cells := 0, slots := 0, locals := 20 }
set_option maxHeartbeats 4000000 in
set_option maxRecDepth 100000 in
theorem qo543 {p : Program} {l : Launch} {e : Env} {s : State} {m : MethodId} {args : Array Value} {below : List Frame} {meth : Method} {c : Code} {s₁ : State} {Q : State → Prop} {D : zk_D} {base : Nat} {Hb : Heap} (B : BodyLoose p l yX1_addStep (headSpec (Jvm.Cond.code yX1_addStep prog_3_method_4_code 3 (some .int) :: zg_tb) qR543) prog_3_method_4_code 3 (some .int) e s m args below meth c s₁) (hml : c.maxLocals = 3) (hK : zg_K D base Hb s) : zk_ok p l e (headSpec (Jvm.Cond.code yX1_addStep prog_3_method_4_code 3 (some .int) :: zg_tb) qR543).room s m args below meth c Q qK D base Hb 3 prog_3_method_4_code qP543 qC543.2.2.2.2 := by
  have S : CallFix p m c prog_3_method_4_code 3 s args (Jvm.Cond.code yX1_addStep prog_3_method_4_code 3 (some .int) :: zg_tb) RX1 := ⟨B.exec, B.bytes, hml, findClass_of_methodNamed B.named, atoms_spec (ws := (Jvm.Cond.code yX1_addStep prog_3_method_4_code 3 (some .int) :: zg_tb)) B.pre⟩
  exact ⟨List.forall_mem_cons.mpr ⟨zg_gp S (hK.2.1 1 _ rfl) (fun w h => (List.mem_cons_of_mem _ (zc1 w h))) rfl zt1_16 (List.mem_cons_of_mem _ zw4_5) rfl, List.forall_mem_cons.mpr ⟨zg_gp4 S (hK.2.1 1 _ rfl) (fun w h => (List.mem_cons_of_mem _ (zc1 w h))) rfl zt1_14 (List.mem_cons_of_mem _ zw4_1), List.forall_mem_cons.mpr ⟨zg_gp4 S (hK.2.1 1 _ rfl) (fun w h => (List.mem_cons_of_mem _ (zc1 w h))) rfl zt1_15 (List.mem_cons_of_mem _ zw4_3), fun _ h => absurd h List.not_mem_nil⟩⟩⟩,
    fun _ h => absurd h List.not_mem_nil,
    fun _ h => absurd h List.not_mem_nil,
    fun _ h => absurd h List.not_mem_nil,
    fun h => absurd rfl h,
    fun _ h => absurd h List.not_mem_nil,
    fun _ h => absurd h List.not_mem_nil⟩
set_option maxRecDepth 100000 in
theorem qm543 {l : Launch} {D : zk_D} {base : Nat} {Hb : Heap} : zk_Met l qK D base Hb (zg_K D base Hb) yX1_addStep (Jvm.Cond.code yX1_addStep prog_3_method_4_code 3 (some .int) :: zg_tb) qR543 qC543 := zk_met (ws' := zg_tb) (P := qP543) (AT := zg_AT) zpn_X1 rfl rfl rfl qk543 (fun s hK => zg_wd hK) (fun p e s m args below meth c s₁ Q B hml hK => qo543 B hml hK) (fun p e s m args below meth c s₁ v G0 H0 B hml hK ha hp hF q hq => absurd hq List.not_mem_nil)
set_option maxRecDepth 100000 in
def qR544 : Room := { frames := 2, cells := 0, slots := 0, locals := 42 }
set_option maxHeartbeats 4000000 in
set_option maxRecDepth 100000 in
theorem qo544 {p : Program} {l : Launch} {e : Env} {s : State} {m : MethodId} {args : Array Value} {below : List Frame} {meth : Method} {c : Code} {s₁ : State} {Q : State → Prop} {D : zk_D} {base : Nat} {Hb : Heap} (B : BodyLoose p l yX11_path (headSpec (Jvm.Cond.code yX11_path prog_1_method_28_code 5 (some .int) :: zg_tb) qR544) prog_1_method_28_code 5 (some .int) e s m args below meth c s₁) (hml : c.maxLocals = 5) (hK : zg_K D base Hb s) : zk_ok p l e (headSpec (Jvm.Cond.code yX11_path prog_1_method_28_code 5 (some .int) :: zg_tb) qR544).room s m args below meth c Q qK D base Hb 5 prog_1_method_28_code qP544 qC544.2.2.2.2 := by
  have S : CallFix p m c prog_1_method_28_code 5 s args (Jvm.Cond.code yX11_path prog_1_method_28_code 5 (some .int) :: zg_tb) RX11 := ⟨B.exec, B.bytes, hml, findClass_of_methodNamed B.named, atoms_spec (ws := (Jvm.Cond.code yX11_path prog_1_method_28_code 5 (some .int) :: zg_tb)) B.pre⟩
  exact ⟨List.forall_mem_cons.mpr ⟨zg_gp4 S (hK.2.1 11 _ rfl) (fun w h => (List.mem_cons_of_mem _ (zc11 w h))) rfl zt11_0 (List.mem_cons_of_mem _ zw2_53), fun _ h => absurd h List.not_mem_nil⟩,
    fun _ h => absurd h List.not_mem_nil,
    fun _ h => absurd h List.not_mem_nil,
    fun _ h => absurd h List.not_mem_nil,
    fun h => absurd rfl h,
    fun _ h => absurd h List.not_mem_nil,
    List.forall_mem_cons.mpr ⟨zg_callV (fun w h => List.mem_cons_of_mem _ h) zg_tb_all S hK zg_Km qm472 zw4_142 zy_yX11_letterAt_V (ci := 11) (by decide +kernel) (hK.2.1 11 _ rfl).2.1 ⟨rfl, rfl⟩ (zk_dg_ok qdo_1_28 (by decide +kernel)), List.forall_mem_cons.mpr ⟨zg_callV (fun w h => List.mem_cons_of_mem _ h) zg_tb_all S hK zg_Km qm16 zw2_117 zy_yX4_hasHouse_V (ci := 4) (by decide +kernel) (hK.2.1 4 _ rfl).2.1 ⟨rfl, rfl⟩ (zk_dg_ok qdo_1_28 (by decide +kernel)), List.forall_mem_cons.mpr ⟨zg_callV (fun w h => List.mem_cons_of_mem _ h) zg_tb_all S hK zg_Km qm543 zw5_39 zy_yX1_addStep_V (ci := 1) (by decide +kernel) (hK.2.1 1 _ rfl).2.1 ⟨rfl, rfl⟩ (zk_dg_ok qdo_1_28 (by decide +kernel)), fun _ h => absurd h List.not_mem_nil⟩⟩⟩⟩
set_option maxRecDepth 100000 in
theorem qm544 {l : Launch} {D : zk_D} {base : Nat} {Hb : Heap} : zk_Met l qK D base Hb (zg_K D base Hb) yX11_path (Jvm.Cond.code yX11_path prog_1_method_28_code 5 (some .int) :: zg_tb) qR544 qC544 := zk_met (ws' := zg_tb) (P := qP544) (AT := zg_AT) zpn_X11 rfl rfl rfl qk544 (fun s hK => zg_wd hK) (fun p e s m args below meth c s₁ Q B hml hK => qo544 B hml hK) (fun p e s m args below meth c s₁ v G0 H0 B hml hK ha hp hF q hq => absurd hq List.not_mem_nil)
set_option maxRecDepth 100000 in
def qR545 : Room := { frames := 1, cells := 0, slots := 0, locals := 20 }
set_option maxHeartbeats 4000000 in
set_option maxRecDepth 100000 in
theorem qo545 {p : Program} {l : Launch} {e : Env} {s : State} {m : MethodId} {args : Array Value} {below : List Frame} {meth : Method} {c : Code} {s₁ : State} {Q : State → Prop} {D : zk_D} {base : Nat} {Hb : Heap} (B : BodyLoose p l yX12_in (headSpec (Jvm.Cond.code yX12_in prog_14_method_1_code 3 (some .boolean) :: zg_tb) qR545) prog_14_method_1_code 3 (some .boolean) e s m args below meth c s₁) (hml : c.maxLocals = 3) (hK : zg_K D base Hb s) : zk_ok p l e (headSpec (Jvm.Cond.code yX12_in prog_14_method_1_code 3 (some .boolean) :: zg_tb) qR545).room s m args below meth c Q qK D base Hb 3 prog_14_method_1_code qP545 qC545.2.2.2.2 := by
  have S : CallFix p m c prog_14_method_1_code 3 s args (Jvm.Cond.code yX12_in prog_14_method_1_code 3 (some .boolean) :: zg_tb) RX12 := ⟨B.exec, B.bytes, hml, findClass_of_methodNamed B.named, atoms_spec (ws := (Jvm.Cond.code yX12_in prog_14_method_1_code 3 (some .boolean) :: zg_tb)) B.pre⟩
  exact ⟨fun _ h => absurd h List.not_mem_nil,
    fun _ h => absurd h List.not_mem_nil,
    fun _ h => absurd h List.not_mem_nil,
    fun _ h => absurd h List.not_mem_nil,
    fun h => absurd rfl h,
    fun _ h => absurd h List.not_mem_nil,
    fun _ h => absurd h List.not_mem_nil⟩
set_option maxRecDepth 100000 in
theorem qm545 {l : Launch} {D : zk_D} {base : Nat} {Hb : Heap} : zk_Met l qK D base Hb (zg_K D base Hb) yX12_in (Jvm.Cond.code yX12_in prog_14_method_1_code 3 (some .boolean) :: zg_tb) qR545 qC545 := zk_met (ws' := zg_tb) (P := qP545) (AT := zg_AT) zpn_X12 rfl rfl rfl qk545 (fun s hK => zg_wd hK) (fun p e s m args below meth c s₁ Q B hml hK => qo545 B hml hK) (fun p e s m args below meth c s₁ v G0 H0 B hml hK ha hp hF q hq => absurd hq List.not_mem_nil)
set_option maxRecDepth 100000 in
def qR546 : Room := { frames := 3, cells := 0, slots := 0, locals := 63 }
set_option maxHeartbeats 4000000 in
set_option maxRecDepth 100000 in
theorem qo546 {p : Program} {l : Launch} {e : Env} {s : State} {m : MethodId} {args : Array Value} {below : List Frame} {meth : Method} {c : Code} {s₁ : State} {Q : State → Prop} {D : zk_D} {base : Nat} {Hb : Heap} (B : BodyLoose p l yX12_path (headSpec (Jvm.Cond.code yX12_path prog_14_method_87_code 4 (some .int) :: zg_tb) qR546) prog_14_method_87_code 4 (some .int) e s m args below meth c s₁) (hml : c.maxLocals = 4) (hK : zg_K D base Hb s) : zk_ok p l e (headSpec (Jvm.Cond.code yX12_path prog_14_method_87_code 4 (some .int) :: zg_tb) qR546).room s m args below meth c Q qK D base Hb 4 prog_14_method_87_code qP546 qC546.2.2.2.2 := by
  have S : CallFix p m c prog_14_method_87_code 4 s args (Jvm.Cond.code yX12_path prog_14_method_87_code 4 (some .int) :: zg_tb) RX12 := ⟨B.exec, B.bytes, hml, findClass_of_methodNamed B.named, atoms_spec (ws := (Jvm.Cond.code yX12_path prog_14_method_87_code 4 (some .int) :: zg_tb)) B.pre⟩
  exact ⟨List.forall_mem_cons.mpr ⟨zg_gp4 S (hK.2.1 12 _ rfl) (fun w h => (List.mem_cons_of_mem _ (zc12 w h))) rfl zt12_61 (List.mem_cons_of_mem _ zw5_220), List.forall_mem_cons.mpr ⟨zg_gp4 S (hK.2.1 12 _ rfl) (fun w h => (List.mem_cons_of_mem _ (zc12 w h))) rfl zt12_59 (List.mem_cons_of_mem _ zw5_218), List.forall_mem_cons.mpr ⟨zg_gp4 S (hK.2.1 12 _ rfl) (fun w h => (List.mem_cons_of_mem _ (zc12 w h))) rfl zt12_60 (List.mem_cons_of_mem _ zw5_219), fun _ h => absurd h List.not_mem_nil⟩⟩⟩,
    fun _ h => absurd h List.not_mem_nil,
    fun _ h => absurd h List.not_mem_nil,
    fun _ h => absurd h List.not_mem_nil,
    fun h => absurd rfl h,
    fun _ h => absurd h List.not_mem_nil,
    List.forall_mem_cons.mpr ⟨zg_callV (fun w h => List.mem_cons_of_mem _ h) zg_tb_all S hK zg_Km qm475 zw7_80 zy_yX12_isLetter_V (ci := 12) (by decide +kernel) (hK.2.1 12 _ rfl).2.1 ⟨rfl, rfl⟩ (zk_dg_ok qdo_14_87 (by decide +kernel)), List.forall_mem_cons.mpr ⟨zg_callV (fun w h => List.mem_cons_of_mem _ h) zg_tb_all S hK zg_Km qm21 zw6_141 zy_yX12_isHouse_V (ci := 12) (by decide +kernel) (hK.2.1 12 _ rfl).2.1 ⟨rfl, rfl⟩ (zk_dg_ok qdo_14_87 (by decide +kernel)), List.forall_mem_cons.mpr ⟨zg_callS (fun w h => List.mem_cons_of_mem _ h) zg_tb_all S hK zg_Km qm545 zw6_145 zy_yX12_in_S (by decide +kernel) ⟨rfl, rfl⟩ (zk_dg_ok qdo_14_87 (by decide +kernel)), fun _ h => absurd h List.not_mem_nil⟩⟩⟩⟩
set_option maxRecDepth 100000 in
theorem qm546 {l : Launch} {D : zk_D} {base : Nat} {Hb : Heap} : zk_Met l qK D base Hb (zg_K D base Hb) yX12_path (Jvm.Cond.code yX12_path prog_14_method_87_code 4 (some .int) :: zg_tb) qR546 qC546 := zk_met (ws' := zg_tb) (P := qP546) (AT := zg_AT) zpn_X12 rfl rfl rfl qk546 (fun s hK => zg_wd hK) (fun p e s m args below meth c s₁ Q B hml hK => qo546 B hml hK) (fun p e s m args below meth c s₁ v G0 H0 B hml hK ha hp hF q hq => absurd hq List.not_mem_nil)
set_option maxRecDepth 100000 in
def qR547 : Room := { frames := 2, cells := 0, slots := 0, locals := 42 }
set_option maxHeartbeats 4000000 in
set_option maxRecDepth 100000 in
theorem qo547 {p : Program} {l : Launch} {e : Env} {s : State} {m : MethodId} {args : Array Value} {below : List Frame} {meth : Method} {c : Code} {s₁ : State} {Q : State → Prop} {D : zk_D} {base : Nat} {Hb : Heap} (B : BodyLoose p l yX11_falsely (headSpec (Jvm.Cond.code yX11_falsely prog_1_method_29_code 4 (some .int) :: zg_tb) qR547) prog_1_method_29_code 4 (some .int) e s m args below meth c s₁) (hml : c.maxLocals = 4) (hK : zg_K D base Hb s) : zk_ok p l e (headSpec (Jvm.Cond.code yX11_falsely prog_1_method_29_code 4 (some .int) :: zg_tb) qR547).room s m args below meth c Q qK D base Hb 4 prog_1_method_29_code qP547 qC547.2.2.2.2 := by
  have S : CallFix p m c prog_1_method_29_code 4 s args (Jvm.Cond.code yX11_falsely prog_1_method_29_code 4 (some .int) :: zg_tb) RX11 := ⟨B.exec, B.bytes, hml, findClass_of_methodNamed B.named, atoms_spec (ws := (Jvm.Cond.code yX11_falsely prog_1_method_29_code 4 (some .int) :: zg_tb)) B.pre⟩
  exact ⟨List.forall_mem_cons.mpr ⟨zg_gp S (hK.2.1 1 _ rfl) (fun w h => (List.mem_cons_of_mem _ (zc1 w h))) rfl zt1_16 (List.mem_cons_of_mem _ zw4_6) rfl, List.forall_mem_cons.mpr ⟨zg_gp4 S (hK.2.1 11 _ rfl) (fun w h => (List.mem_cons_of_mem _ (zc11 w h))) rfl zt11_0 (List.mem_cons_of_mem _ zw2_53), List.forall_mem_cons.mpr ⟨zg_gp4 S (hK.2.1 1 _ rfl) (fun w h => (List.mem_cons_of_mem _ (zc1 w h))) rfl zt1_14 (List.mem_cons_of_mem _ zw4_2), List.forall_mem_cons.mpr ⟨zg_gp4 S (hK.2.1 1 _ rfl) (fun w h => (List.mem_cons_of_mem _ (zc1 w h))) rfl zt1_15 (List.mem_cons_of_mem _ zw4_4), List.forall_mem_cons.mpr ⟨zg_gp4 S (hK.2.1 4 _ rfl) (fun w h => (List.mem_cons_of_mem _ (zc4 w h))) rfl zt4_2 (List.mem_cons_of_mem _ zw1_41), List.forall_mem_cons.mpr ⟨zg_gp4 S (hK.2.1 1 _ rfl) (fun w h => (List.mem_cons_of_mem _ (zc1 w h))) rfl zt1_1 (List.mem_cons_of_mem _ zw3_216), fun _ h => absurd h List.not_mem_nil⟩⟩⟩⟩⟩⟩,
    fun _ h => absurd h List.not_mem_nil,
    fun _ h => absurd h List.not_mem_nil,
    fun _ h => absurd h List.not_mem_nil,
    fun h => absurd rfl h,
    fun _ h => absurd h List.not_mem_nil,
    List.forall_mem_cons.mpr ⟨zg_callV (fun w h => List.mem_cons_of_mem _ h) zg_tb_all S hK zg_Km qm472 zw4_142 zy_yX11_letterAt_V (ci := 11) (by decide +kernel) (hK.2.1 11 _ rfl).2.1 ⟨rfl, rfl⟩ (zk_dg_ok qdo_1_29 (by decide +kernel)), List.forall_mem_cons.mpr ⟨zg_callV (fun w h => List.mem_cons_of_mem _ h) zg_tb_all S hK zg_Km qm17 zw2_125 zy_yX4_joined_V (ci := 4) (by decide +kernel) (hK.2.1 4 _ rfl).2.1 ⟨rfl, rfl⟩ (zk_dg_ok qdo_1_29 (by decide +kernel)), fun _ h => absurd h List.not_mem_nil⟩⟩⟩
set_option maxRecDepth 100000 in
theorem qm547 {l : Launch} {D : zk_D} {base : Nat} {Hb : Heap} : zk_Met l qK D base Hb (zg_K D base Hb) yX11_falsely (Jvm.Cond.code yX11_falsely prog_1_method_29_code 4 (some .int) :: zg_tb) qR547 qC547 := zk_met (ws' := zg_tb) (P := qP547) (AT := zg_AT) zpn_X11 rfl rfl rfl qk547 (fun s hK => zg_wd hK) (fun p e s m args below meth c s₁ Q B hml hK => qo547 B hml hK) (fun p e s m args below meth c s₁ v G0 H0 B hml hK ha hp hF q hq => absurd hq List.not_mem_nil)
set_option maxRecDepth 100000 in
def qR548 : Room := { frames := 3, cells := 0, slots := 0, locals := 63 }
set_option maxHeartbeats 4000000 in
set_option maxRecDepth 100000 in
theorem qo548 {p : Program} {l : Launch} {e : Env} {s : State} {m : MethodId} {args : Array Value} {below : List Frame} {meth : Method} {c : Code} {s₁ : State} {Q : State → Prop} {D : zk_D} {base : Nat} {Hb : Heap} (B : BodyLoose p l yX12_falsely (headSpec (Jvm.Cond.code yX12_falsely prog_14_method_88_code 4 (some .int) :: zg_tb) qR548) prog_14_method_88_code 4 (some .int) e s m args below meth c s₁) (hml : c.maxLocals = 4) (hK : zg_K D base Hb s) : zk_ok p l e (headSpec (Jvm.Cond.code yX12_falsely prog_14_method_88_code 4 (some .int) :: zg_tb) qR548).room s m args below meth c Q qK D base Hb 4 prog_14_method_88_code qP548 qC548.2.2.2.2 := by
  have S : CallFix p m c prog_14_method_88_code 4 s args (Jvm.Cond.code yX12_falsely prog_14_method_88_code 4 (some .int) :: zg_tb) RX12 := ⟨B.exec, B.bytes, hml, findClass_of_methodNamed B.named, atoms_spec (ws := (Jvm.Cond.code yX12_falsely prog_14_method_88_code 4 (some .int) :: zg_tb)) B.pre⟩
  exact ⟨List.forall_mem_cons.mpr ⟨zg_gp4 S (hK.2.1 12 _ rfl) (fun w h => (List.mem_cons_of_mem _ (zc12 w h))) rfl zt12_61 (List.mem_cons_of_mem _ zw5_220), List.forall_mem_cons.mpr ⟨zg_gp4 S (hK.2.1 12 _ rfl) (fun w h => (List.mem_cons_of_mem _ (zc12 w h))) rfl zt12_2 (List.mem_cons_of_mem _ zw5_161), List.forall_mem_cons.mpr ⟨zg_gp4 S (hK.2.1 12 _ rfl) (fun w h => (List.mem_cons_of_mem _ (zc12 w h))) rfl zt12_59 (List.mem_cons_of_mem _ zw5_218), List.forall_mem_cons.mpr ⟨zg_gp4 S (hK.2.1 12 _ rfl) (fun w h => (List.mem_cons_of_mem _ (zc12 w h))) rfl zt12_60 (List.mem_cons_of_mem _ zw5_219), List.forall_mem_cons.mpr ⟨zg_gp4 S (hK.2.1 12 _ rfl) (fun w h => (List.mem_cons_of_mem _ (zc12 w h))) rfl zt12_3 (List.mem_cons_of_mem _ zw5_162), List.forall_mem_cons.mpr ⟨zg_gp4 S (hK.2.1 12 _ rfl) (fun w h => (List.mem_cons_of_mem _ (zc12 w h))) rfl zt12_36 (List.mem_cons_of_mem _ zw5_195), fun _ h => absurd h List.not_mem_nil⟩⟩⟩⟩⟩⟩,
    fun _ h => absurd h List.not_mem_nil,
    fun _ h => absurd h List.not_mem_nil,
    fun _ h => absurd h List.not_mem_nil,
    fun h => absurd rfl h,
    fun _ h => absurd h List.not_mem_nil,
    List.forall_mem_cons.mpr ⟨zg_callV (fun w h => List.mem_cons_of_mem _ h) zg_tb_all S hK zg_Km qm475 zw7_80 zy_yX12_isLetter_V (ci := 12) (by decide +kernel) (hK.2.1 12 _ rfl).2.1 ⟨rfl, rfl⟩ (zk_dg_ok qdo_14_88 (by decide +kernel)), fun _ h => absurd h List.not_mem_nil⟩⟩
set_option maxRecDepth 100000 in
theorem qm548 {l : Launch} {D : zk_D} {base : Nat} {Hb : Heap} : zk_Met l qK D base Hb (zg_K D base Hb) yX12_falsely (Jvm.Cond.code yX12_falsely prog_14_method_88_code 4 (some .int) :: zg_tb) qR548 qC548 := zk_met (ws' := zg_tb) (P := qP548) (AT := zg_AT) zpn_X12 rfl rfl rfl qk548 (fun s hK => zg_wd hK) (fun p e s m args below meth c s₁ Q B hml hK => qo548 B hml hK) (fun p e s m args below meth c s₁ v G0 H0 B hml hK ha hp hF q hq => absurd hq List.not_mem_nil)
set_option maxRecDepth 100000 in
def qR549 : Room := { frames := 2, cells := 0, slots := 0, locals := 41 }
set_option maxHeartbeats 4000000 in
set_option maxRecDepth 100000 in
theorem qo549 {p : Program} {l : Launch} {e : Env} {s : State} {m : MethodId} {args : Array Value} {below : List Frame} {meth : Method} {c : Code} {s₁ : State} {Q : State → Prop} {D : zk_D} {base : Nat} {Hb : Heap} (B : BodyLoose p l yX11_give (headSpec (Jvm.Cond.code yX11_give prog_1_method_30_code 3 (some .boolean) :: zg_tb) qR549) prog_1_method_30_code 3 (some .boolean) e s m args below meth c s₁) (hml : c.maxLocals = 3) (hK : zg_K D base Hb s) : zk_ok p l e (headSpec (Jvm.Cond.code yX11_give prog_1_method_30_code 3 (some .boolean) :: zg_tb) qR549).room s m args below meth c Q qK D base Hb 3 prog_1_method_30_code qP549 qC549.2.2.2.2 := by
  have S : CallFix p m c prog_1_method_30_code 3 s args (Jvm.Cond.code yX11_give prog_1_method_30_code 3 (some .boolean) :: zg_tb) RX11 := ⟨B.exec, B.bytes, hml, findClass_of_methodNamed B.named, atoms_spec (ws := (Jvm.Cond.code yX11_give prog_1_method_30_code 3 (some .boolean) :: zg_tb)) B.pre⟩
  exact ⟨List.forall_mem_cons.mpr ⟨zg_gp4 S (hK.2.1 11 _ rfl) (fun w h => (List.mem_cons_of_mem _ (zc11 w h))) rfl zt11_0 (List.mem_cons_of_mem _ zw2_53), List.forall_mem_cons.mpr ⟨zg_gp4 S (hK.2.1 4 _ rfl) (fun w h => (List.mem_cons_of_mem _ (zc4 w h))) rfl zt4_4 (List.mem_cons_of_mem _ zw1_45), fun _ h => absurd h List.not_mem_nil⟩⟩,
    fun _ h => absurd h List.not_mem_nil,
    fun _ h => absurd h List.not_mem_nil,
    fun _ h => absurd h List.not_mem_nil,
    fun h => absurd rfl h,
    fun _ h => absurd h List.not_mem_nil,
    List.forall_mem_cons.mpr ⟨zg_callV (fun w h => List.mem_cons_of_mem _ h) zg_tb_all S hK zg_Km qm435 zw3_204 zy_yX4_hasName_V (ci := 4) (by decide +kernel) (hK.2.1 4 _ rfl).2.1 ⟨rfl, rfl⟩ (zk_dg_ok qdo_1_30 (by decide +kernel)), fun _ h => absurd h List.not_mem_nil⟩⟩
set_option maxRecDepth 100000 in
theorem qm549 {l : Launch} {D : zk_D} {base : Nat} {Hb : Heap} : zk_Met l qK D base Hb (zg_K D base Hb) yX11_give (Jvm.Cond.code yX11_give prog_1_method_30_code 3 (some .boolean) :: zg_tb) qR549 qC549 := zk_met (ws' := zg_tb) (P := qP549) (AT := zg_AT) zpn_X11 rfl rfl rfl qk549 (fun s hK => zg_wd hK) (fun p e s m args below meth c s₁ Q B hml hK => qo549 B hml hK) (fun p e s m args below meth c s₁ v G0 H0 B hml hK ha hp hF q hq => absurd hq List.not_mem_nil)
set_option maxRecDepth 100000 in
def qR550 : Room := { frames := 1, cells := 0, slots := 0, locals := 20 }
set_option maxHeartbeats 4000000 in
set_option maxRecDepth 100000 in
theorem qo550 {p : Program} {l : Launch} {e : Env} {s : State} {m : MethodId} {args : Array Value} {below : List Frame} {meth : Method} {c : Code} {s₁ : State} {Q : State → Prop} {D : zk_D} {base : Nat} {Hb : Heap} (B : BodyLoose p l yX12_in (headSpec (Jvm.Cond.code yX12_in prog_14_method_1_code 3 (some .boolean) :: zg_tb) qR550) prog_14_method_1_code 3 (some .boolean) e s m args below meth c s₁) (hml : c.maxLocals = 3) (hK : zg_K D base Hb s) : zk_ok p l e (headSpec (Jvm.Cond.code yX12_in prog_14_method_1_code 3 (some .boolean) :: zg_tb) qR550).room s m args below meth c Q qK D base Hb 3 prog_14_method_1_code qP550 qC550.2.2.2.2 := by
  have S : CallFix p m c prog_14_method_1_code 3 s args (Jvm.Cond.code yX12_in prog_14_method_1_code 3 (some .boolean) :: zg_tb) RX12 := ⟨B.exec, B.bytes, hml, findClass_of_methodNamed B.named, atoms_spec (ws := (Jvm.Cond.code yX12_in prog_14_method_1_code 3 (some .boolean) :: zg_tb)) B.pre⟩
  exact ⟨fun _ h => absurd h List.not_mem_nil,
    fun _ h => absurd h List.not_mem_nil,
    fun _ h => absurd h List.not_mem_nil,
    fun _ h => absurd h List.not_mem_nil,
    fun h => absurd rfl h,
    fun _ h => absurd h List.not_mem_nil,
    fun _ h => absurd h List.not_mem_nil⟩
set_option maxRecDepth 100000 in
theorem qm550 {l : Launch} {D : zk_D} {base : Nat} {Hb : Heap} : zk_Met l qK D base Hb (zg_K D base Hb) yX12_in (Jvm.Cond.code yX12_in prog_14_method_1_code 3 (some .boolean) :: zg_tb) qR550 qC550 := zk_met (ws' := zg_tb) (P := qP550) (AT := zg_AT) zpn_X12 rfl rfl rfl qk550 (fun s hK => zg_wd hK) (fun p e s m args below meth c s₁ Q B hml hK => qo550 B hml hK) (fun p e s m args below meth c s₁ v G0 H0 B hml hK ha hp hF q hq => absurd hq List.not_mem_nil)
set_option maxRecDepth 100000 in
def qR551 : Room := { frames := 3, cells := 0, slots := 0, locals := 63 }
set_option maxHeartbeats 4000000 in
set_option maxRecDepth 100000 in
theorem qo551 {p : Program} {l : Launch} {e : Env} {s : State} {m : MethodId} {args : Array Value} {below : List Frame} {meth : Method} {c : Code} {s₁ : State} {Q : State → Prop} {D : zk_D} {base : Nat} {Hb : Heap} (B : BodyLoose p l yX12_give (headSpec (Jvm.Cond.code yX12_give prog_14_method_10_code 3 (some .boolean) :: zg_tb) qR551) prog_14_method_10_code 3 (some .boolean) e s m args below meth c s₁) (hml : c.maxLocals = 3) (hK : zg_K D base Hb s) : zk_ok p l e (headSpec (Jvm.Cond.code yX12_give prog_14_method_10_code 3 (some .boolean) :: zg_tb) qR551).room s m args below meth c Q qK D base Hb 3 prog_14_method_10_code qP551 qC551.2.2.2.2 := by
  have S : CallFix p m c prog_14_method_10_code 3 s args (Jvm.Cond.code yX12_give prog_14_method_10_code 3 (some .boolean) :: zg_tb) RX12 := ⟨B.exec, B.bytes, hml, findClass_of_methodNamed B.named, atoms_spec (ws := (Jvm.Cond.code yX12_give prog_14_method_10_code 3 (some .boolean) :: zg_tb)) B.pre⟩
  exact ⟨List.forall_mem_cons.mpr ⟨zg_gp4 S (hK.2.1 12 _ rfl) (fun w h => (List.mem_cons_of_mem _ (zc12 w h))) rfl zt12_5 (List.mem_cons_of_mem _ zw5_164), fun _ h => absurd h List.not_mem_nil⟩,
    fun _ h => absurd h List.not_mem_nil,
    fun _ h => absurd h List.not_mem_nil,
    fun _ h => absurd h List.not_mem_nil,
    fun h => absurd rfl h,
    fun _ h => absurd h List.not_mem_nil,
    List.forall_mem_cons.mpr ⟨zg_callV (fun w h => List.mem_cons_of_mem _ h) zg_tb_all S hK zg_Km qm466 zw6_160 zy_yX12_isName_V (ci := 12) (by decide +kernel) (hK.2.1 12 _ rfl).2.1 ⟨rfl, rfl⟩ (zk_dg_ok qdo_14_10 (by decide +kernel)), List.forall_mem_cons.mpr ⟨zg_callS (fun w h => List.mem_cons_of_mem _ h) zg_tb_all S hK zg_Km qm550 zw6_145 zy_yX12_in_S (by decide +kernel) ⟨rfl, rfl⟩ (zk_dg_ok qdo_14_10 (by decide +kernel)), fun _ h => absurd h List.not_mem_nil⟩⟩⟩
set_option maxRecDepth 100000 in
theorem qm551 {l : Launch} {D : zk_D} {base : Nat} {Hb : Heap} : zk_Met l qK D base Hb (zg_K D base Hb) yX12_give (Jvm.Cond.code yX12_give prog_14_method_10_code 3 (some .boolean) :: zg_tb) qR551 qC551 := zk_met (ws' := zg_tb) (P := qP551) (AT := zg_AT) zpn_X12 rfl rfl rfl qk551 (fun s hK => zg_wd hK) (fun p e s m args below meth c s₁ Q B hml hK => qo551 B hml hK) (fun p e s m args below meth c s₁ v G0 H0 B hml hK ha hp hF q hq => absurd hq List.not_mem_nil)
set_option maxRecDepth 100000 in
def qR552 : Room := { frames := 1, cells := 0, slots := 0, locals := 20 }
set_option maxHeartbeats 4000000 in
set_option maxRecDepth 100000 in
theorem qo552 {p : Program} {l : Launch} {e : Env} {s : State} {m : MethodId} {args : Array Value} {below : List Frame} {meth : Method} {c : Code} {s₁ : State} {Q : State → Prop} {D : zk_D} {base : Nat} {Hb : Heap} (B : BodyLoose p l yX4_clearReached (headSpec (Jvm.Cond.code yX4_clearReached prog_6_method_8_code 2 none :: zg_tb) qR552) prog_6_method_8_code 2 none e s m args below meth c s₁) (hml : c.maxLocals = 2) (hK : zg_K D base Hb s) : zk_ok p l e (headSpec (Jvm.Cond.code yX4_clearReached prog_6_method_8_code 2 none :: zg_tb) qR552).room s m args below meth c Q qK D base Hb 2 prog_6_method_8_code qP552 qC552.2.2.2.2 := by
  have S : CallFix p m c prog_6_method_8_code 2 s args (Jvm.Cond.code yX4_clearReached prog_6_method_8_code 2 none :: zg_tb) RX4 := ⟨B.exec, B.bytes, hml, findClass_of_methodNamed B.named, atoms_spec (ws := (Jvm.Cond.code yX4_clearReached prog_6_method_8_code 2 none :: zg_tb)) B.pre⟩
  exact ⟨List.forall_mem_cons.mpr ⟨zg_gp S (hK.2.1 4 _ rfl) (fun w h => (List.mem_cons_of_mem _ (zc4 w h))) rfl zt4_7 (List.mem_cons_of_mem _ zw1_50) rfl, List.forall_mem_cons.mpr ⟨zg_gp4 S (hK.2.1 4 _ rfl) (fun w h => (List.mem_cons_of_mem _ (zc4 w h))) rfl zt4_5 (List.mem_cons_of_mem _ zw1_46), fun _ h => absurd h List.not_mem_nil⟩⟩,
    fun _ h => absurd h List.not_mem_nil,
    fun _ h => absurd h List.not_mem_nil,
    fun _ h => absurd h List.not_mem_nil,
    fun h => absurd rfl h,
    fun _ h => absurd h List.not_mem_nil,
    fun _ h => absurd h List.not_mem_nil⟩
set_option maxRecDepth 100000 in
theorem qm552 {l : Launch} {D : zk_D} {base : Nat} {Hb : Heap} : zk_Met l qK D base Hb (zg_K D base Hb) yX4_clearReached (Jvm.Cond.code yX4_clearReached prog_6_method_8_code 2 none :: zg_tb) qR552 qC552 := zk_met (ws' := zg_tb) (P := qP552) (AT := zg_AT) zpn_X4 rfl rfl rfl qk552 (fun s hK => zg_wd hK) (fun p e s m args below meth c s₁ Q B hml hK => qo552 B hml hK) (fun p e s m args below meth c s₁ v G0 H0 B hml hK ha hp hF q hq => absurd hq List.not_mem_nil)
set_option maxRecDepth 100000 in
def qR553 : Room := { frames := 1, cells := 0, slots := 0, locals := 20 }
set_option maxHeartbeats 4000000 in
set_option maxRecDepth 100000 in
theorem qo553 {p : Program} {l : Launch} {e : Env} {s : State} {m : MethodId} {args : Array Value} {below : List Frame} {meth : Method} {c : Code} {s₁ : State} {Q : State → Prop} {D : zk_D} {base : Nat} {Hb : Heap} (B : BodyLoose p l yX4_explains (headSpec (Jvm.Cond.code yX4_explains prog_6_method_9_code 3 (some .boolean) :: zg_tb) qR553) prog_6_method_9_code 3 (some .boolean) e s m args below meth c s₁) (hml : c.maxLocals = 3) (hK : zg_K D base Hb s) : zk_ok p l e (headSpec (Jvm.Cond.code yX4_explains prog_6_method_9_code 3 (some .boolean) :: zg_tb) qR553).room s m args below meth c Q qK D base Hb 3 prog_6_method_9_code qP553 qC553.2.2.2.2 := by
  have S : CallFix p m c prog_6_method_9_code 3 s args (Jvm.Cond.code yX4_explains prog_6_method_9_code 3 (some .boolean) :: zg_tb) RX4 := ⟨B.exec, B.bytes, hml, findClass_of_methodNamed B.named, atoms_spec (ws := (Jvm.Cond.code yX4_explains prog_6_method_9_code 3 (some .boolean) :: zg_tb)) B.pre⟩
  exact ⟨List.forall_mem_cons.mpr ⟨zg_gp S (hK.2.1 4 _ rfl) (fun w h => (List.mem_cons_of_mem _ (zc4 w h))) rfl zt4_7 (List.mem_cons_of_mem _ zw1_50) rfl, List.forall_mem_cons.mpr ⟨zg_gp4 S (hK.2.1 4 _ rfl) (fun w h => (List.mem_cons_of_mem _ (zc4 w h))) rfl zt4_5 (List.mem_cons_of_mem _ zw1_46), List.forall_mem_cons.mpr ⟨zg_gp4 S (hK.2.1 4 _ rfl) (fun w h => (List.mem_cons_of_mem _ (zc4 w h))) rfl zt4_4 (List.mem_cons_of_mem _ zw1_44), fun _ h => absurd h List.not_mem_nil⟩⟩⟩,
    fun _ h => absurd h List.not_mem_nil,
    fun _ h => absurd h List.not_mem_nil,
    fun _ h => absurd h List.not_mem_nil,
    fun h => absurd rfl h,
    fun _ h => absurd h List.not_mem_nil,
    fun _ h => absurd h List.not_mem_nil⟩
set_option maxRecDepth 100000 in
theorem qm553 {l : Launch} {D : zk_D} {base : Nat} {Hb : Heap} : zk_Met l qK D base Hb (zg_K D base Hb) yX4_explains (Jvm.Cond.code yX4_explains prog_6_method_9_code 3 (some .boolean) :: zg_tb) qR553 qC553 := zk_met (ws' := zg_tb) (P := qP553) (AT := zg_AT) zpn_X4 rfl rfl rfl qk553 (fun s hK => zg_wd hK) (fun p e s m args below meth c s₁ Q B hml hK => qo553 B hml hK) (fun p e s m args below meth c s₁ v G0 H0 B hml hK ha hp hF q hq => absurd hq List.not_mem_nil)
end
