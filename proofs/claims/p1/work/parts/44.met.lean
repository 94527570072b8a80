/-! CONTRACTS MET, 72.. -/
set_option maxRecDepth 100000 in
def qR72 : Room := { frames := 1, cells := 0, slots := 0, locals := 20 }
set_option maxHeartbeats 4000000 in
set_option maxRecDepth 100000 in
theorem qm72 {l : Launch} {D : zk_D} {base : Nat} {Hb : Heap} : zk_Met l qK D base Hb (zg_K D base Hb) yX12_in (Jvm.Cond.code yX12_in prog_14_method_1_code 3 (some .boolean) :: zg_tb) qR72 qC72 := by
  refine zk_met (ws' := zg_tb) (P := qP72) (AT := zg_AT) (by decide +kernel) rfl rfl rfl qk72 (fun s hK => zg_wd hK) (fun p e s m args below meth c s₁ Q B hml hK => ?_) (fun p e s m args below meth c s₁ v G0 H0 B hml hK ha hp hF q hq => absurd hq List.not_mem_nil)
  have S : CallFix p m c prog_14_method_1_code 3 s args (Jvm.Cond.code yX12_in prog_14_method_1_code 3 (some .boolean) :: zg_tb) RX12 := ⟨B.exec, B.bytes, hml, findClass_of_methodNamed B.named, atoms_spec (ws := Jvm.Cond.code yX12_in prog_14_method_1_code 3 (some .boolean) :: zg_tb) B.pre⟩
  exact ⟨fun _ h => absurd h List.not_mem_nil,
    fun _ h => absurd h List.not_mem_nil,
    fun _ h => absurd h List.not_mem_nil,
    fun _ h => absurd h List.not_mem_nil,
    fun h => absurd rfl h,
    fun _ h => absurd h List.not_mem_nil,
    fun _ h => absurd h List.not_mem_nil⟩
set_option maxRecDepth 100000 in
def qR73 : Room := { frames := 4, cells := 0, slots := 0, locals := 85 }
set_option maxHeartbeats 4000000 in
set_option maxRecDepth 100000 in
theorem qm73 {l : Launch} {D : zk_D} {base : Nat} {Hb : Heap} : zk_Met l qK D base Hb (zg_K D base Hb) yX12_read (Jvm.Cond.code yX12_read prog_14_method_58_code 10 (some .int) :: zg_tb) qR73 qC73 := by
  refine zk_met (ws' := zg_tb) (P := qP73) (AT := zg_AT) (by decide +kernel) rfl rfl rfl qk73 (fun s hK => zg_wd hK) (fun p e s m args below meth c s₁ Q B hml hK => ?_) (fun p e s m args below meth c s₁ v G0 H0 B hml hK ha hp hF q hq => absurd hq List.not_mem_nil)
  have S : CallFix p m c prog_14_method_58_code 10 s args (Jvm.Cond.code yX12_read prog_14_method_58_code 10 (some .int) :: zg_tb) RX12 := ⟨B.exec, B.bytes, hml, findClass_of_methodNamed B.named, atoms_spec (ws := Jvm.Cond.code yX12_read prog_14_method_58_code 10 (some .int) :: zg_tb) B.pre⟩
  exact ⟨fun _ h => absurd h List.not_mem_nil,
    fun _ h => absurd h List.not_mem_nil,
    fun _ h => absurd h List.not_mem_nil,
    fun _ h => absurd h List.not_mem_nil,
    fun h => absurd rfl h,
    fun _ h => absurd h List.not_mem_nil,
    List.forall_mem_cons.mpr ⟨zg_callV (fun w h => List.mem_cons_of_mem _ h) zg_tb_all S hK zg_Km qm70 zw7_88 zy_yX12_words_V (ci := 12) (by decide +kernel) (hK.2.1 12 _ rfl).2.1 ⟨rfl, rfl⟩ (by decide +kernel), List.forall_mem_cons.mpr ⟨zg_callS (fun w h => List.mem_cons_of_mem _ h) zg_tb_all S hK zg_Km qm72 zw6_145 zy_yX12_in_S (by decide +kernel) ⟨rfl, rfl⟩ (by decide +kernel), fun _ h => absurd h List.not_mem_nil⟩⟩⟩
set_option maxRecDepth 100000 in
def qR74 : Room := { frames := 2, cells := 0, slots := 0, locals := 41 }
set_option maxHeartbeats 4000000 in
set_option maxRecDepth 100000 in
theorem qm74 {l : Launch} {D : zk_D} {base : Nat} {Hb : Heap} : zk_Met l qK D base Hb (zg_K D base Hb) yX11_unlike (Jvm.Cond.code yX11_unlike prog_1_method_18_code 5 (some .int) :: zg_tb) qR74 qC74 := by
  refine zk_met (ws' := zg_tb) (P := qP74) (AT := zg_AT) (by decide +kernel) rfl rfl rfl qk74 (fun s hK => zg_wd hK) (fun p e s m args below meth c s₁ Q B hml hK => ?_) (fun p e s m args below meth c s₁ v G0 H0 B hml hK ha hp hF q hq => absurd hq List.not_mem_nil)
  have S : CallFix p m c prog_1_method_18_code 5 s args (Jvm.Cond.code yX11_unlike prog_1_method_18_code 5 (some .int) :: zg_tb) RX11 := ⟨B.exec, B.bytes, hml, findClass_of_methodNamed B.named, atoms_spec (ws := Jvm.Cond.code yX11_unlike prog_1_method_18_code 5 (some .int) :: zg_tb) B.pre⟩
  exact ⟨fun _ h => absurd h List.not_mem_nil,
    fun _ h => absurd h List.not_mem_nil,
    fun _ h => absurd h List.not_mem_nil,
    fun _ h => absurd h List.not_mem_nil,
    fun h => absurd rfl h,
    fun _ h => absurd h List.not_mem_nil,
    List.forall_mem_cons.mpr ⟨zg_callV (fun w h => List.mem_cons_of_mem _ h) zg_tb_all S hK zg_Km qm66 zw4_142 zy_yX11_letterAt_V (ci := 11) (by decide +kernel) (hK.2.1 11 _ rfl).2.1 ⟨rfl, rfl⟩ (by decide +kernel), fun _ h => absurd h List.not_mem_nil⟩⟩
set_option maxRecDepth 100000 in
def qR75 : Room := { frames := 3, cells := 0, slots := 0, locals := 63 }
set_option maxHeartbeats 4000000 in
set_option maxRecDepth 100000 in
theorem qm75 {l : Launch} {D : zk_D} {base : Nat} {Hb : Heap} : zk_Met l qK D base Hb (zg_K D base Hb) yX12_unlike (Jvm.Cond.code yX12_unlike prog_14_method_59_code 4 (some .int) :: zg_tb) qR75 qC75 := by
  refine zk_met (ws' := zg_tb) (P := qP75) (AT := zg_AT) (by decide +kernel) rfl rfl rfl qk75 (fun s hK => zg_wd hK) (fun p e s m args below meth c s₁ Q B hml hK => ?_) (fun p e s m args below meth c s₁ v G0 H0 B hml hK ha hp hF q hq => absurd hq List.not_mem_nil)
  have S : CallFix p m c prog_14_method_59_code 4 s args (Jvm.Cond.code yX12_unlike prog_14_method_59_code 4 (some .int) :: zg_tb) RX12 := ⟨B.exec, B.bytes, hml, findClass_of_methodNamed B.named, atoms_spec (ws := Jvm.Cond.code yX12_unlike prog_14_method_59_code 4 (some .int) :: zg_tb) B.pre⟩
  exact ⟨fun _ h => absurd h List.not_mem_nil,
    fun _ h => absurd h List.not_mem_nil,
    fun _ h => absurd h List.not_mem_nil,
    fun _ h => absurd h List.not_mem_nil,
    fun h => absurd rfl h,
    fun _ h => absurd h List.not_mem_nil,
    List.forall_mem_cons.mpr ⟨zg_callV (fun w h => List.mem_cons_of_mem _ h) zg_tb_all S hK zg_Km qm69 zw7_80 zy_yX12_isLetter_V (ci := 12) (by decide +kernel) (hK.2.1 12 _ rfl).2.1 ⟨rfl, rfl⟩ (by decide +kernel), fun _ h => absurd h List.not_mem_nil⟩⟩
set_option maxRecDepth 100000 in
def qR76 : Room := { frames := 2, cells := 0, slots := 0, locals := 41 }
set_option maxHeartbeats 4000000 in
set_option maxRecDepth 100000 in
theorem qm76 {l : Launch} {D : zk_D} {base : Nat} {Hb : Heap} : zk_Met l qK D base Hb (zg_K D base Hb) yX11_letter (Jvm.Cond.code yX11_letter prog_1_method_19_code 4 (some .int) :: zg_tb) qR76 qC76 := by
  refine zk_met (ws' := zg_tb) (P := qP76) (AT := zg_AT) (by decide +kernel) rfl rfl rfl qk76 (fun s hK => zg_wd hK) (fun p e s m args below meth c s₁ Q B hml hK => ?_) (fun p e s m args below meth c s₁ v G0 H0 B hml hK ha hp hF q hq => absurd hq List.not_mem_nil)
  have S : CallFix p m c prog_1_method_19_code 4 s args (Jvm.Cond.code yX11_letter prog_1_method_19_code 4 (some .int) :: zg_tb) RX11 := ⟨B.exec, B.bytes, hml, findClass_of_methodNamed B.named, atoms_spec (ws := Jvm.Cond.code yX11_letter prog_1_method_19_code 4 (some .int) :: zg_tb) B.pre⟩
  exact ⟨fun _ h => absurd h List.not_mem_nil,
    fun _ h => absurd h List.not_mem_nil,
    fun _ h => absurd h List.not_mem_nil,
    fun _ h => absurd h List.not_mem_nil,
    fun h => absurd rfl h,
    fun _ h => absurd h List.not_mem_nil,
    List.forall_mem_cons.mpr ⟨zg_callV (fun w h => List.mem_cons_of_mem _ h) zg_tb_all S hK zg_Km qm66 zw4_142 zy_yX11_letterAt_V (ci := 11) (by decide +kernel) (hK.2.1 11 _ rfl).2.1 ⟨rfl, rfl⟩ (by decide +kernel), fun _ h => absurd h List.not_mem_nil⟩⟩
set_option maxRecDepth 100000 in
def qR77 : Room := { frames := 3, cells := 0, slots := 0, locals := 63 }
set_option maxHeartbeats 4000000 in
set_option maxRecDepth 100000 in
theorem qm77 {l : Launch} {D : zk_D} {base : Nat} {Hb : Heap} : zk_Met l qK D base Hb (zg_K D base Hb) yX12_letter (Jvm.Cond.code yX12_letter prog_14_method_60_code 3 (some .int) :: zg_tb) qR77 qC77 := by
  refine zk_met (ws' := zg_tb) (P := qP77) (AT := zg_AT) (by decide +kernel) rfl rfl rfl qk77 (fun s hK => zg_wd hK) (fun p e s m args below meth c s₁ Q B hml hK => ?_) (fun p e s m args below meth c s₁ v G0 H0 B hml hK ha hp hF q hq => absurd hq List.not_mem_nil)
  have S : CallFix p m c prog_14_method_60_code 3 s args (Jvm.Cond.code yX12_letter prog_14_method_60_code 3 (some .int) :: zg_tb) RX12 := ⟨B.exec, B.bytes, hml, findClass_of_methodNamed B.named, atoms_spec (ws := Jvm.Cond.code yX12_letter prog_14_method_60_code 3 (some .int) :: zg_tb) B.pre⟩
  exact ⟨fun _ h => absurd h List.not_mem_nil,
    fun _ h => absurd h List.not_mem_nil,
    fun _ h => absurd h List.not_mem_nil,
    fun _ h => absurd h List.not_mem_nil,
    fun h => absurd rfl h,
    fun _ h => absurd h List.not_mem_nil,
    List.forall_mem_cons.mpr ⟨zg_callV (fun w h => List.mem_cons_of_mem _ h) zg_tb_all S hK zg_Km qm69 zw7_80 zy_yX12_isLetter_V (ci := 12) (by decide +kernel) (hK.2.1 12 _ rfl).2.1 ⟨rfl, rfl⟩ (by decide +kernel), fun _ h => absurd h List.not_mem_nil⟩⟩
set_option maxRecDepth 100000 in
def qR78 : Room := { frames := 2, cells := 0, slots := 0, locals := 41 }
set_option maxHeartbeats 4000000 in
set_option maxRecDepth 100000 in
theorem qm78 {l : Launch} {D : zk_D} {base : Nat} {Hb : Heap} : zk_Met l qK D base Hb (zg_K D base Hb) yX11_why (Jvm.Cond.code yX11_why prog_1_method_20_code 3 (some .int) :: zg_tb) qR78 qC78 := by
  refine zk_met (ws' := zg_tb) (P := qP78) (AT := zg_AT) (by decide +kernel) rfl rfl rfl qk78 (fun s hK => zg_wd hK) (fun p e s m args below meth c s₁ Q B hml hK => ?_) (fun p e s m args below meth c s₁ v G0 H0 B hml hK ha hp hF q hq => absurd hq List.not_mem_nil)
  have S : CallFix p m c prog_1_method_20_code 3 s args (Jvm.Cond.code yX11_why prog_1_method_20_code 3 (some .int) :: zg_tb) RX11 := ⟨B.exec, B.bytes, hml, findClass_of_methodNamed B.named, atoms_spec (ws := Jvm.Cond.code yX11_why prog_1_method_20_code 3 (some .int) :: zg_tb) B.pre⟩
  exact ⟨fun _ h => absurd h List.not_mem_nil,
    fun _ h => absurd h List.not_mem_nil,
    fun _ h => absurd h List.not_mem_nil,
    fun _ h => absurd h List.not_mem_nil,
    fun h => absurd rfl h,
    fun _ h => absurd h List.not_mem_nil,
    List.forall_mem_cons.mpr ⟨zg_callV (fun w h => List.mem_cons_of_mem _ h) zg_tb_all S hK zg_Km qm66 zw4_142 zy_yX11_letterAt_V (ci := 11) (by decide +kernel) (hK.2.1 11 _ rfl).2.1 ⟨rfl, rfl⟩ (by decide +kernel), fun _ h => absurd h List.not_mem_nil⟩⟩
set_option maxRecDepth 100000 in
def qR79 : Room := { frames := 3, cells := 0, slots := 0, locals := 63 }
set_option maxHeartbeats 4000000 in
set_option maxRecDepth 100000 in
theorem qm79 {l : Launch} {D : zk_D} {base : Nat} {Hb : Heap} : zk_Met l qK D base Hb (zg_K D base Hb) yX12_why (Jvm.Cond.code yX12_why prog_14_method_61_code 2 (some .int) :: zg_tb) qR79 qC79 := by
  refine zk_met (ws' := zg_tb) (P := qP79) (AT := zg_AT) (by decide +kernel) rfl rfl rfl qk79 (fun s hK => zg_wd hK) (fun p e s m args below meth c s₁ Q B hml hK => ?_) (fun p e s m args below meth c s₁ v G0 H0 B hml hK ha hp hF q hq => absurd hq List.not_mem_nil)
  have S : CallFix p m c prog_14_method_61_code 2 s args (Jvm.Cond.code yX12_why prog_14_method_61_code 2 (some .int) :: zg_tb) RX12 := ⟨B.exec, B.bytes, hml, findClass_of_methodNamed B.named, atoms_spec (ws := Jvm.Cond.code yX12_why prog_14_method_61_code 2 (some .int) :: zg_tb) B.pre⟩
  exact ⟨fun _ h => absurd h List.not_mem_nil,
    fun _ h => absurd h List.not_mem_nil,
    fun _ h => absurd h List.not_mem_nil,
    fun _ h => absurd h List.not_mem_nil,
    fun h => absurd rfl h,
    fun _ h => absurd h List.not_mem_nil,
    List.forall_mem_cons.mpr ⟨zg_callV (fun w h => List.mem_cons_of_mem _ h) zg_tb_all S hK zg_Km qm69 zw7_80 zy_yX12_isLetter_V (ci := 12) (by decide +kernel) (hK.2.1 12 _ rfl).2.1 ⟨rfl, rfl⟩ (by decide +kernel), fun _ h => absurd h List.not_mem_nil⟩⟩
set_option maxRecDepth 100000 in
def qR80 : Room := { frames := 1, cells := 0, slots := 0, locals := 20 }
set_option maxHeartbeats 4000000 in
set_option maxRecDepth 100000 in
theorem qm80 {l : Launch} {D : zk_D} {base : Nat} {Hb : Heap} : zk_Met l qK D base Hb (zg_K D base Hb) yJ7_fill_53178 (Jvm.Cond.code yJ7_fill_53178 prog_23_method_103_code 4 none :: zg_tb) qR80 qC80 := by
  refine zk_met (ws' := zg_tb) (P := qP80) (AT := zg_AT) (by decide +kernel) rfl rfl rfl qk80 (fun s hK => zg_wd hK) (fun p e s m args below meth c s₁ Q B hml hK => ?_) (fun p e s m args below meth c s₁ v G0 H0 B hml hK ha hp hF q hq => absurd hq List.not_mem_nil)
  have S : CallFix p m c prog_23_method_103_code 4 s args (Jvm.Cond.code yJ7_fill_53178 prog_23_method_103_code 4 none :: zg_tb) RJ7 := ⟨B.exec, B.bytes, hml, findClass_of_methodNamed B.named, atoms_spec (ws := Jvm.Cond.code yJ7_fill_53178 prog_23_method_103_code 4 none :: zg_tb) B.pre⟩
  exact ⟨fun _ h => absurd h List.not_mem_nil,
    fun _ h => absurd h List.not_mem_nil,
    fun _ h => absurd h List.not_mem_nil,
    fun _ h => absurd h List.not_mem_nil,
    fun h => absurd rfl h,
    fun _ h => absurd h List.not_mem_nil,
    fun _ h => absurd h List.not_mem_nil⟩
set_option maxRecDepth 100000 in
def qR81 : Room := { frames := 2, cells := 0, slots := 0, locals := 43 }
set_option maxHeartbeats 4000000 in
set_option maxRecDepth 100000 in
theorem qm81 {l : Launch} {D : zk_D} {base : Nat} {Hb : Heap} : zk_Met l qK D base Hb (zg_K D base Hb) yX3_know (Jvm.Cond.code yX3_know prog_5_method_3_code 3 none :: zg_tb) qR81 qC81 := by
  refine zk_met (ws' := zg_tb) (P := qP81) (AT := zg_AT) (by decide +kernel) rfl rfl rfl qk81 (fun s hK => zg_wd hK) (fun p e s m args below meth c s₁ Q B hml hK => ?_) (fun p e s m args below meth c s₁ v G0 H0 B hml hK ha hp hF q hq => absurd hq List.not_mem_nil)
  have S : CallFix p m c prog_5_method_3_code 3 s args (Jvm.Cond.code yX3_know prog_5_method_3_code 3 none :: zg_tb) RX3 := ⟨B.exec, B.bytes, hml, findClass_of_methodNamed B.named, atoms_spec (ws := Jvm.Cond.code yX3_know prog_5_method_3_code 3 none :: zg_tb) B.pre⟩
  exact ⟨List.forall_mem_cons.mpr ⟨zg_gp4 S (hK.2.1 3 _ rfl) (fun w h => (List.mem_cons_of_mem _ (zc3 w h))) rfl zt3_3 (List.mem_cons_of_mem _ zw2_11), List.forall_mem_cons.mpr ⟨zg_gp S (hK.2.1 3 _ rfl) (fun w h => (List.mem_cons_of_mem _ (zc3 w h))) rfl zt3_4 (List.mem_cons_of_mem _ zw2_13) rfl, fun _ h => absurd h List.not_mem_nil⟩⟩,
    fun _ h => absurd h List.not_mem_nil,
    fun _ h => absurd h List.not_mem_nil,
    fun _ h => absurd h List.not_mem_nil,
    fun h => absurd rfl h,
    fun _ h => absurd h List.not_mem_nil,
    List.forall_mem_cons.mpr ⟨zg_callS (fun w h => List.mem_cons_of_mem _ h) zg_tb_all S hK zg_Km qm80 zw3_136 zy_yJ7_fill_53178_S (by decide +kernel) ⟨rfl, rfl⟩ (by decide +kernel), fun _ h => absurd h List.not_mem_nil⟩⟩
set_option maxRecDepth 100000 in
def qR82 : Room := { frames := 1, cells := 0, slots := 0, locals := 20 }
set_option maxHeartbeats 4000000 in
set_option maxRecDepth 100000 in
theorem qm82 {l : Launch} {D : zk_D} {base : Nat} {Hb : Heap} : zk_Met l qK D base Hb (zg_K D base Hb) yX7_forget (Jvm.Cond.code yX7_forget prog_9_method_2_code 1 none :: zg_tb) qR82 qC82 := by
  refine zk_met (ws' := zg_tb) (P := qP82) (AT := zg_AT) (by decide +kernel) rfl rfl rfl qk82 (fun s hK => zg_wd hK) (fun p e s m args below meth c s₁ Q B hml hK => ?_) (fun p e s m args below meth c s₁ v G0 H0 B hml hK ha hp hF q hq => absurd hq List.not_mem_nil)
  have S : CallFix p m c prog_9_method_2_code 1 s args (Jvm.Cond.code yX7_forget prog_9_method_2_code 1 none :: zg_tb) RX7 := ⟨B.exec, B.bytes, hml, findClass_of_methodNamed B.named, atoms_spec (ws := Jvm.Cond.code yX7_forget prog_9_method_2_code 1 none :: zg_tb) B.pre⟩
  exact ⟨List.forall_mem_cons.mpr ⟨zg_gp S (hK.2.1 7 _ rfl) (fun w h => (List.mem_cons_of_mem _ (zc7 w h))) rfl zt7_3 (List.mem_cons_of_mem _ zw2_37) rfl, List.forall_mem_cons.mpr ⟨zg_gp S (hK.2.1 7 _ rfl) (fun w h => (List.mem_cons_of_mem _ (zc7 w h))) rfl zt7_4 (List.mem_cons_of_mem _ zw2_38) rfl, List.forall_mem_cons.mpr ⟨zg_gp S (hK.2.1 7 _ rfl) (fun w h => (List.mem_cons_of_mem _ (zc7 w h))) rfl zt7_5 (List.mem_cons_of_mem _ zw2_39) rfl, fun _ h => absurd h List.not_mem_nil⟩⟩⟩,
    fun _ h => absurd h List.not_mem_nil,
    fun _ h => absurd h List.not_mem_nil,
    fun _ h => absurd h List.not_mem_nil,
    fun h => absurd rfl h,
    fun _ h => absurd h List.not_mem_nil,
    fun _ h => absurd h List.not_mem_nil⟩
set_option maxRecDepth 100000 in
def qR83 : Room := { frames := 2, cells := 0, slots := 0, locals := 40 }
set_option maxHeartbeats 4000000 in
set_option maxRecDepth 100000 in
theorem qm83 {l : Launch} {D : zk_D} {base : Nat} {Hb : Heap} : zk_Met l qK D base Hb (zg_K D base Hb) yX11_learnMarked (Jvm.Cond.code yX11_learnMarked prog_1_method_55_code 2 none :: zg_tb) qR83 qC83 := by
  refine zk_met (ws' := zg_tb) (P := qP83) (AT := zg_AT) (by decide +kernel) rfl rfl rfl qk83 (fun s hK => zg_wd hK) (fun p e s m args below meth c s₁ Q B hml hK => ?_) (fun p e s m args below meth c s₁ v G0 H0 B hml hK ha hp hF q hq => absurd hq List.not_mem_nil)
  have S : CallFix p m c prog_1_method_55_code 2 s args (Jvm.Cond.code yX11_learnMarked prog_1_method_55_code 2 none :: zg_tb) RX11 := ⟨B.exec, B.bytes, hml, findClass_of_methodNamed B.named, atoms_spec (ws := Jvm.Cond.code yX11_learnMarked prog_1_method_55_code 2 none :: zg_tb) B.pre⟩
  exact ⟨List.forall_mem_cons.mpr ⟨zg_gp4 S (hK.2.1 11 _ rfl) (fun w h => (List.mem_cons_of_mem _ (zc11 w h))) rfl zt11_9 (List.mem_cons_of_mem _ zw2_62), List.forall_mem_cons.mpr ⟨zg_gp S (hK.2.1 11 _ rfl) (fun w h => (List.mem_cons_of_mem _ (zc11 w h))) rfl zt11_15 (List.mem_cons_of_mem _ zw2_68) rfl, fun _ h => absurd h List.not_mem_nil⟩⟩,
    fun _ h => absurd h List.not_mem_nil,
    fun _ h => absurd h List.not_mem_nil,
    fun _ h => absurd h List.not_mem_nil,
    fun h => absurd rfl h,
    fun _ h => absurd h List.not_mem_nil,
    List.forall_mem_cons.mpr ⟨zg_callV (fun w h => List.mem_cons_of_mem _ h) zg_tb_all S hK zg_Km qm82 zw4_177 zy_yX7_forget_V (ci := 7) (by decide +kernel) (hK.2.1 7 _ rfl).2.1 ⟨rfl, rfl⟩ (by decide +kernel), fun _ h => absurd h List.not_mem_nil⟩⟩
set_option maxRecDepth 100000 in
def qR84 : Room := { frames := 3, cells := 0, slots := 0, locals := 65 }
set_option maxHeartbeats 4000000 in
set_option maxRecDepth 100000 in
theorem qm84 {l : Launch} {D : zk_D} {base : Nat} {Hb : Heap} : zk_Met l qK D base Hb (zg_K D base Hb) yX11_learn (Jvm.Cond.code yX11_learn prog_1_method_54_code 2 none :: zg_tb) qR84 qC84 := by
  refine zk_met (ws' := zg_tb) (P := qP84) (AT := zg_AT) (by decide +kernel) rfl rfl rfl qk84 (fun s hK => zg_wd hK) (fun p e s m args below meth c s₁ Q B hml hK => ?_) (fun p e s m args below meth c s₁ v G0 H0 B hml hK ha hp hF q hq => absurd hq List.not_mem_nil)
  have S : CallFix p m c prog_1_method_54_code 2 s args (Jvm.Cond.code yX11_learn prog_1_method_54_code 2 none :: zg_tb) RX11 := ⟨B.exec, B.bytes, hml, findClass_of_methodNamed B.named, atoms_spec (ws := Jvm.Cond.code yX11_learn prog_1_method_54_code 2 none :: zg_tb) B.pre⟩
  exact ⟨List.forall_mem_cons.mpr ⟨zg_gp4 S (hK.2.1 11 _ rfl) (fun w h => (List.mem_cons_of_mem _ (zc11 w h))) rfl zt11_8 (List.mem_cons_of_mem _ zw2_61), fun _ h => absurd h List.not_mem_nil⟩,
    fun _ h => absurd h List.not_mem_nil,
    fun _ h => absurd h List.not_mem_nil,
    fun _ h => absurd h List.not_mem_nil,
    fun h => absurd rfl h,
    fun _ h => absurd h List.not_mem_nil,
    List.forall_mem_cons.mpr ⟨zg_callV (fun w h => List.mem_cons_of_mem _ h) zg_tb_all S hK zg_Km qm81 zw3_132 zy_yX3_know_V (ci := 3) (by decide +kernel) (hK.2.1 3 _ rfl).2.1 ⟨rfl, rfl⟩ (by decide +kernel), List.forall_mem_cons.mpr ⟨zg_callV (fun w h => List.mem_cons_of_mem _ h) zg_tb_all S hK zg_Km qm83 zw4_173 zy_yX11_learnMarked_V (ci := 11) (by decide +kernel) (hK.2.1 11 _ rfl).2.1 ⟨rfl, rfl⟩ (by decide +kernel), fun _ h => absurd h List.not_mem_nil⟩⟩⟩
set_option maxRecDepth 100000 in
def qR85 : Room := { frames := 4, cells := 0, slots := 0, locals := 86 }
set_option maxHeartbeats 4000000 in
set_option maxRecDepth 100000 in
theorem qm85 {l : Launch} {D : zk_D} {base : Nat} {Hb : Heap} : zk_Met l qK D base Hb (zg_K D base Hb) yX11_minutes (Jvm.Cond.code yX11_minutes prog_1_method_21_code 4 (some .int) :: zg_tb) qR85 qC85 := by
  refine zk_met (ws' := zg_tb) (P := qP85) (AT := zg_AT) (by decide +kernel) rfl rfl rfl qk85 (fun s hK => zg_wd hK) (fun p e s m args below meth c s₁ Q B hml hK => ?_) (fun p e s m args below meth c s₁ v G0 H0 B hml hK ha hp hF q hq => absurd hq List.not_mem_nil)
  have S : CallFix p m c prog_1_method_21_code 4 s args (Jvm.Cond.code yX11_minutes prog_1_method_21_code 4 (some .int) :: zg_tb) RX11 := ⟨B.exec, B.bytes, hml, findClass_of_methodNamed B.named, atoms_spec (ws := Jvm.Cond.code yX11_minutes prog_1_method_21_code 4 (some .int) :: zg_tb) B.pre⟩
  exact ⟨List.forall_mem_cons.mpr ⟨zg_gp S (hK.2.1 11 _ rfl) (fun w h => (List.mem_cons_of_mem _ (zc11 w h))) rfl zt11_13 (List.mem_cons_of_mem _ zw2_66) rfl, List.forall_mem_cons.mpr ⟨zg_gp S (hK.2.1 11 _ rfl) (fun w h => (List.mem_cons_of_mem _ (zc11 w h))) rfl zt11_15 (List.mem_cons_of_mem _ zw2_68) rfl, fun _ h => absurd h List.not_mem_nil⟩⟩,
    fun _ h => absurd h List.not_mem_nil,
    fun _ h => absurd h List.not_mem_nil,
    fun _ h => absurd h List.not_mem_nil,
    fun h => absurd rfl h,
    fun _ h => absurd h List.not_mem_nil,
    List.forall_mem_cons.mpr ⟨zg_callV (fun w h => List.mem_cons_of_mem _ h) zg_tb_all S hK zg_Km qm84 zw4_169 zy_yX11_learn_V (ci := 11) (by decide +kernel) (hK.2.1 11 _ rfl).2.1 ⟨rfl, rfl⟩ (by decide +kernel), fun _ h => absurd h List.not_mem_nil⟩⟩
set_option maxRecDepth 100000 in
def qR86 : Room := { frames := 1, cells := 0, slots := 0, locals := 20 }
set_option maxHeartbeats 4000000 in
set_option maxRecDepth 100000 in
theorem qm86 {l : Launch} {D : zk_D} {base : Nat} {Hb : Heap} : zk_Met l qK D base Hb (zg_K D base Hb) yX12_in (Jvm.Cond.code yX12_in prog_14_method_1_code 3 (some .boolean) :: zg_tb) qR86 qC86 := by
  refine zk_met (ws' := zg_tb) (P := qP86) (AT := zg_AT) (by decide +kernel) rfl rfl rfl qk86 (fun s hK => zg_wd hK) (fun p e s m args below meth c s₁ Q B hml hK => ?_) (fun p e s m args below meth c s₁ v G0 H0 B hml hK ha hp hF q hq => absurd hq List.not_mem_nil)
  have S : CallFix p m c prog_14_method_1_code 3 s args (Jvm.Cond.code yX12_in prog_14_method_1_code 3 (some .boolean) :: zg_tb) RX12 := ⟨B.exec, B.bytes, hml, findClass_of_methodNamed B.named, atoms_spec (ws := Jvm.Cond.code yX12_in prog_14_method_1_code 3 (some .boolean) :: zg_tb) B.pre⟩
  exact ⟨fun _ h => absurd h List.not_mem_nil,
    fun _ h => absurd h List.not_mem_nil,
    fun _ h => absurd h List.not_mem_nil,
    fun _ h => absurd h List.not_mem_nil,
    fun h => absurd rfl h,
    fun _ h => absurd h List.not_mem_nil,
    fun _ h => absurd h List.not_mem_nil⟩
set_option maxRecDepth 100000 in
def qR87 : Room := { frames := 2, cells := 0, slots := 0, locals := 42 }
set_option maxHeartbeats 4000000 in
set_option maxRecDepth 100000 in
theorem qm87 {l : Launch} {D : zk_D} {base : Nat} {Hb : Heap} : zk_Met l qK D base Hb (zg_K D base Hb) yX12_minutes (Jvm.Cond.code yX12_minutes prog_14_method_86_code 4 (some .int) :: zg_tb) qR87 qC87 := by
  refine zk_met (ws' := zg_tb) (P := qP87) (AT := zg_AT) (by decide +kernel) rfl rfl rfl qk87 (fun s hK => zg_wd hK) (fun p e s m args below meth c s₁ Q B hml hK => ?_) (fun p e s m args below meth c s₁ v G0 H0 B hml hK ha hp hF q hq => absurd hq List.not_mem_nil)
  have S : CallFix p m c prog_14_method_86_code 4 s args (Jvm.Cond.code yX12_minutes prog_14_method_86_code 4 (some .int) :: zg_tb) RX12 := ⟨B.exec, B.bytes, hml, findClass_of_methodNamed B.named, atoms_spec (ws := Jvm.Cond.code yX12_minutes prog_14_method_86_code 4 (some .int) :: zg_tb) B.pre⟩
  exact ⟨List.forall_mem_cons.mpr ⟨zg_gp S (hK.2.1 12 _ rfl) (fun w h => (List.mem_cons_of_mem _ (zc12 w h))) rfl zt12_0 (List.mem_cons_of_mem _ zw5_159) rfl, List.forall_mem_cons.mpr ⟨zg_gp S (hK.2.1 12 _ rfl) (fun w h => (List.mem_cons_of_mem _ (zc12 w h))) rfl zt12_44 (List.mem_cons_of_mem _ zw5_203) rfl, fun _ h => absurd h List.not_mem_nil⟩⟩,
    fun _ h => absurd h List.not_mem_nil,
    fun _ h => absurd h List.not_mem_nil,
    fun _ h => absurd h List.not_mem_nil,
    fun h => absurd rfl h,
    fun _ h => absurd h List.not_mem_nil,
    List.forall_mem_cons.mpr ⟨zg_callS (fun w h => List.mem_cons_of_mem _ h) zg_tb_all S hK zg_Km qm86 zw6_145 zy_yX12_in_S (by decide +kernel) ⟨rfl, rfl⟩ (by decide +kernel), fun _ h => absurd h List.not_mem_nil⟩⟩
set_option maxRecDepth 100000 in
def qR88 : Room := { frames := 2, cells := 0, slots := 0, locals := 41 }
set_option maxHeartbeats 4000000 in
set_option maxRecDepth 100000 in
theorem qm88 {l : Launch} {D : zk_D} {base : Nat} {Hb : Heap} : zk_Met l qK D base Hb (zg_K D base Hb) yX11_mark (Jvm.Cond.code yX11_mark prog_1_method_22_code 3 (some .boolean) :: zg_tb) qR88 qC88 := by
  refine zk_met (ws' := zg_tb) (P := qP88) (AT := zg_AT) (by decide +kernel) rfl rfl rfl qk88 (fun s hK => zg_wd hK) (fun p e s m args below meth c s₁ Q B hml hK => ?_) (fun p e s m args below meth c s₁ v G0 H0 B hml hK ha hp hF q hq => absurd hq List.not_mem_nil)
  have S : CallFix p m c prog_1_method_22_code 3 s args (Jvm.Cond.code yX11_mark prog_1_method_22_code 3 (some .boolean) :: zg_tb) RX11 := ⟨B.exec, B.bytes, hml, findClass_of_methodNamed B.named, atoms_spec (ws := Jvm.Cond.code yX11_mark prog_1_method_22_code 3 (some .boolean) :: zg_tb) B.pre⟩
  exact ⟨fun _ h => absurd h List.not_mem_nil,
    fun _ h => absurd h List.not_mem_nil,
    fun _ h => absurd h List.not_mem_nil,
    fun _ h => absurd h List.not_mem_nil,
    fun h => absurd rfl h,
    fun _ h => absurd h List.not_mem_nil,
    List.forall_mem_cons.mpr ⟨zg_callV (fun w h => List.mem_cons_of_mem _ h) zg_tb_all S hK zg_Km qm66 zw4_142 zy_yX11_letterAt_V (ci := 11) (by decide +kernel) (hK.2.1 11 _ rfl).2.1 ⟨rfl, rfl⟩ (by decide +kernel), fun _ h => absurd h List.not_mem_nil⟩⟩
set_option maxRecDepth 100000 in
def qR89 : Room := { frames := 3, cells := 0, slots := 0, locals := 63 }
set_option maxHeartbeats 4000000 in
set_option maxRecDepth 100000 in
theorem qm89 {l : Launch} {D : zk_D} {base : Nat} {Hb : Heap} : zk_Met l qK D base Hb (zg_K D base Hb) yX12_mark (Jvm.Cond.code yX12_mark prog_14_method_62_code 3 (some .boolean) :: zg_tb) qR89 qC89 := by
  refine zk_met (ws' := zg_tb) (P := qP89) (AT := zg_AT) (by decide +kernel) rfl rfl rfl qk89 (fun s hK => zg_wd hK) (fun p e s m args below meth c s₁ Q B hml hK => ?_) (fun p e s m args below meth c s₁ v G0 H0 B hml hK ha hp hF q hq => absurd hq List.not_mem_nil)
  have S : CallFix p m c prog_14_method_62_code 3 s args (Jvm.Cond.code yX12_mark prog_14_method_62_code 3 (some .boolean) :: zg_tb) RX12 := ⟨B.exec, B.bytes, hml, findClass_of_methodNamed B.named, atoms_spec (ws := Jvm.Cond.code yX12_mark prog_14_method_62_code 3 (some .boolean) :: zg_tb) B.pre⟩
  exact ⟨fun _ h => absurd h List.not_mem_nil,
    fun _ h => absurd h List.not_mem_nil,
    fun _ h => absurd h List.not_mem_nil,
    fun _ h => absurd h List.not_mem_nil,
    fun h => absurd rfl h,
    fun _ h => absurd h List.not_mem_nil,
    List.forall_mem_cons.mpr ⟨zg_callV (fun w h => List.mem_cons_of_mem _ h) zg_tb_all S hK zg_Km qm69 zw7_80 zy_yX12_isLetter_V (ci := 12) (by decide +kernel) (hK.2.1 12 _ rfl).2.1 ⟨rfl, rfl⟩ (by decide +kernel), fun _ h => absurd h List.not_mem_nil⟩⟩
set_option maxRecDepth 100000 in
def qR90 : Room := { frames := 2, cells := 0, slots := 0, locals := 41 }
set_option maxHeartbeats 4000000 in
set_option maxRecDepth 100000 in
theorem qm90 {l : Launch} {D : zk_D} {base : Nat} {Hb : Heap} : zk_Met l qK D base Hb (zg_K D base Hb) yX11_knownLetter (Jvm.Cond.code yX11_knownLetter prog_1_method_43_code 4 (some (.object "UnaskedLetters$Letter")) :: zg_tb) qR90 qC90 := by
  refine zk_met (ws' := zg_tb) (P := qP90) (AT := zg_AT) (by decide +kernel) rfl rfl rfl qk90 (fun s hK => zg_wd hK) (fun p e s m args below meth c s₁ Q B hml hK => ?_) (fun p e s m args below meth c s₁ v G0 H0 B hml hK ha hp hF q hq => absurd hq List.not_mem_nil)
  have S : CallFix p m c prog_1_method_43_code 4 s args (Jvm.Cond.code yX11_knownLetter prog_1_method_43_code 4 (some (.object "UnaskedLetters$Letter")) :: zg_tb) RX11 := ⟨B.exec, B.bytes, hml, findClass_of_methodNamed B.named, atoms_spec (ws := Jvm.Cond.code yX11_knownLetter prog_1_method_43_code 4 (some (.object "UnaskedLetters$Letter")) :: zg_tb) B.pre⟩
  exact ⟨fun _ h => absurd h List.not_mem_nil,
    fun _ h => absurd h List.not_mem_nil,
    fun _ h => absurd h List.not_mem_nil,
    fun _ h => absurd h List.not_mem_nil,
    fun h => absurd rfl h,
    fun _ h => absurd h List.not_mem_nil,
    List.forall_mem_cons.mpr ⟨zg_callV (fun w h => List.mem_cons_of_mem _ h) zg_tb_all S hK zg_Km qm66 zw4_142 zy_yX11_letterAt_V (ci := 11) (by decide +kernel) (hK.2.1 11 _ rfl).2.1 ⟨rfl, rfl⟩ (by decide +kernel), fun _ h => absurd h List.not_mem_nil⟩⟩
set_option maxRecDepth 100000 in
def qR91 : Room := { frames := 3, cells := 0, slots := 0, locals := 64 }
set_option maxHeartbeats 4000000 in
set_option maxRecDepth 100000 in
theorem qm91 {l : Launch} {D : zk_D} {base : Nat} {Hb : Heap} : zk_Met l qK D base Hb (zg_K D base Hb) yX11_weight (Jvm.Cond.code yX11_weight prog_1_method_23_code 4 (some .int) :: zg_tb) qR91 qC91 := by
  refine zk_met (ws' := zg_tb) (P := qP91) (AT := zg_AT) (by decide +kernel) rfl rfl rfl qk91 (fun s hK => zg_wd hK) (fun p e s m args below meth c s₁ Q B hml hK => ?_) (fun p e s m args below meth c s₁ v G0 H0 B hml hK ha hp hF q hq => absurd hq List.not_mem_nil)
  have S : CallFix p m c prog_1_method_23_code 4 s args (Jvm.Cond.code yX11_weight prog_1_method_23_code 4 (some .int) :: zg_tb) RX11 := ⟨B.exec, B.bytes, hml, findClass_of_methodNamed B.named, atoms_spec (ws := Jvm.Cond.code yX11_weight prog_1_method_23_code 4 (some .int) :: zg_tb) B.pre⟩
  exact ⟨fun _ h => absurd h List.not_mem_nil,
    fun _ h => absurd h List.not_mem_nil,
    fun _ h => absurd h List.not_mem_nil,
    fun _ h => absurd h List.not_mem_nil,
    fun h => absurd rfl h,
    List.forall_mem_cons.mpr ⟨zg_kokW S (List.mem_cons_of_mem _ zw5_6) (by decide +kernel) (by decide +kernel), fun _ h => absurd h List.not_mem_nil⟩,
    List.forall_mem_cons.mpr ⟨zg_callV (fun w h => List.mem_cons_of_mem _ h) zg_tb_all S hK zg_Km qm90 zw5_2 zy_yX11_knownLetter_V (ci := 11) (by decide +kernel) (hK.2.1 11 _ rfl).2.1 ⟨rfl, rfl⟩ (by decide +kernel), fun _ h => absurd h List.not_mem_nil⟩⟩
set_option maxRecDepth 100000 in
def qR92 : Room := { frames := 3, cells := 0, slots := 0, locals := 63 }
set_option maxHeartbeats 4000000 in
set_option maxRecDepth 100000 in
theorem qm92 {l : Launch} {D : zk_D} {base : Nat} {Hb : Heap} : zk_Met l qK D base Hb (zg_K D base Hb) yX12_isKnown (Jvm.Cond.code yX12_isKnown prog_14_method_68_code 3 (some .boolean) :: zg_tb) qR92 qC92 := by
  refine zk_met (ws' := zg_tb) (P := qP92) (AT := zg_AT) (by decide +kernel) rfl rfl rfl qk92 (fun s hK => zg_wd hK) (fun p e s m args below meth c s₁ Q B hml hK => ?_) (fun p e s m args below meth c s₁ v G0 H0 B hml hK ha hp hF q hq => absurd hq List.not_mem_nil)
  have S : CallFix p m c prog_14_method_68_code 3 s args (Jvm.Cond.code yX12_isKnown prog_14_method_68_code 3 (some .boolean) :: zg_tb) RX12 := ⟨B.exec, B.bytes, hml, findClass_of_methodNamed B.named, atoms_spec (ws := Jvm.Cond.code yX12_isKnown prog_14_method_68_code 3 (some .boolean) :: zg_tb) B.pre⟩
  exact ⟨fun _ h => absurd h List.not_mem_nil,
    fun _ h => absurd h List.not_mem_nil,
    fun _ h => absurd h List.not_mem_nil,
    fun _ h => absurd h List.not_mem_nil,
    fun h => absurd rfl h,
    fun _ h => absurd h List.not_mem_nil,
    List.forall_mem_cons.mpr ⟨zg_callV (fun w h => List.mem_cons_of_mem _ h) zg_tb_all S hK zg_Km qm69 zw7_80 zy_yX12_isLetter_V (ci := 12) (by decide +kernel) (hK.2.1 12 _ rfl).2.1 ⟨rfl, rfl⟩ (by decide +kernel), fun _ h => absurd h List.not_mem_nil⟩⟩
set_option maxRecDepth 100000 in
def qR93 : Room := { frames := 4, cells := 0, slots := 0, locals := 85 }
set_option maxHeartbeats 4000000 in
set_option maxRecDepth 100000 in
theorem qm93 {l : Launch} {D : zk_D} {base : Nat} {Hb : Heap} : zk_Met l qK D base Hb (zg_K D base Hb) yX12_weight (Jvm.Cond.code yX12_weight prog_14_method_69_code 3 (some .int) :: zg_tb) qR93 qC93 := by
  refine zk_met (ws' := zg_tb) (P := qP93) (AT := zg_AT) (by decide +kernel) rfl rfl rfl qk93 (fun s hK => zg_wd hK) (fun p e s m args below meth c s₁ Q B hml hK => ?_) (fun p e s m args below meth c s₁ v G0 H0 B hml hK ha hp hF q hq => absurd hq List.not_mem_nil)
  have S : CallFix p m c prog_14_method_69_code 3 s args (Jvm.Cond.code yX12_weight prog_14_method_69_code 3 (some .int) :: zg_tb) RX12 := ⟨B.exec, B.bytes, hml, findClass_of_methodNamed B.named, atoms_spec (ws := Jvm.Cond.code yX12_weight prog_14_method_69_code 3 (some .int) :: zg_tb) B.pre⟩
  exact ⟨fun _ h => absurd h List.not_mem_nil,
    fun _ h => absurd h List.not_mem_nil,
    fun _ h => absurd h List.not_mem_nil,
    fun _ h => absurd h List.not_mem_nil,
    fun h => absurd rfl h,
    List.forall_mem_cons.mpr ⟨zg_kokW S (List.mem_cons_of_mem _ zw7_118) (by decide +kernel) (by decide +kernel), fun _ h => absurd h List.not_mem_nil⟩,
    List.forall_mem_cons.mpr ⟨zg_callV (fun w h => List.mem_cons_of_mem _ h) zg_tb_all S hK zg_Km qm92 zw7_114 zy_yX12_isKnown_V (ci := 12) (by decide +kernel) (hK.2.1 12 _ rfl).2.1 ⟨rfl, rfl⟩ (by decide +kernel), fun _ h => absurd h List.not_mem_nil⟩⟩
set_option maxRecDepth 100000 in
def qR94 : Room := { frames := 3, cells := 0, slots := 0, locals := 64 }
set_option maxHeartbeats 4000000 in
set_option maxRecDepth 100000 in
theorem qm94 {l : Launch} {D : zk_D} {base : Nat} {Hb : Heap} : zk_Met l qK D base Hb (zg_K D base Hb) yX11_decides (Jvm.Cond.code yX11_decides prog_1_method_24_code 5 (some .int) :: zg_tb) qR94 qC94 := by
  refine zk_met (ws' := zg_tb) (P := qP94) (AT := zg_AT) (by decide +kernel) rfl rfl rfl qk94 (fun s hK => zg_wd hK) (fun p e s m args below meth c s₁ Q B hml hK => ?_) (fun p e s m args below meth c s₁ v G0 H0 B hml hK ha hp hF q hq => absurd hq List.not_mem_nil)
  have S : CallFix p m c prog_1_method_24_code 5 s args (Jvm.Cond.code yX11_decides prog_1_method_24_code 5 (some .int) :: zg_tb) RX11 := ⟨B.exec, B.bytes, hml, findClass_of_methodNamed B.named, atoms_spec (ws := Jvm.Cond.code yX11_decides prog_1_method_24_code 5 (some .int) :: zg_tb) B.pre⟩
  exact ⟨fun _ h => absurd h List.not_mem_nil,
    fun _ h => absurd h List.not_mem_nil,
    fun _ h => absurd h List.not_mem_nil,
    fun _ h => absurd h List.not_mem_nil,
    fun h => absurd rfl h,
    fun _ h => absurd h List.not_mem_nil,
    List.forall_mem_cons.mpr ⟨zg_callV (fun w h => List.mem_cons_of_mem _ h) zg_tb_all S hK zg_Km qm90 zw5_2 zy_yX11_knownLetter_V (ci := 11) (by decide +kernel) (hK.2.1 11 _ rfl).2.1 ⟨rfl, rfl⟩ (by decide +kernel), fun _ h => absurd h List.not_mem_nil⟩⟩
set_option maxRecDepth 100000 in
def qR95 : Room := { frames := 4, cells := 0, slots := 0, locals := 85 }
set_option maxHeartbeats 4000000 in
set_option maxRecDepth 100000 in
theorem qm95 {l : Launch} {D : zk_D} {base : Nat} {Hb : Heap} : zk_Met l qK D base Hb (zg_K D base Hb) yX12_decides (Jvm.Cond.code yX12_decides prog_14_method_70_code 4 (some .int) :: zg_tb) qR95 qC95 := by
  refine zk_met (ws' := zg_tb) (P := qP95) (AT := zg_AT) (by decide +kernel) rfl rfl rfl qk95 (fun s hK => zg_wd hK) (fun p e s m args below meth c s₁ Q B hml hK => ?_) (fun p e s m args below meth c s₁ v G0 H0 B hml hK ha hp hF q hq => absurd hq List.not_mem_nil)
  have S : CallFix p m c prog_14_method_70_code 4 s args (Jvm.Cond.code yX12_decides prog_14_method_70_code 4 (some .int) :: zg_tb) RX12 := ⟨B.exec, B.bytes, hml, findClass_of_methodNamed B.named, atoms_spec (ws := Jvm.Cond.code yX12_decides prog_14_method_70_code 4 (some .int) :: zg_tb) B.pre⟩
  exact ⟨fun _ h => absurd h List.not_mem_nil,
    fun _ h => absurd h List.not_mem_nil,
    fun _ h => absurd h List.not_mem_nil,
    fun _ h => absurd h List.not_mem_nil,
    fun h => absurd rfl h,
    fun _ h => absurd h List.not_mem_nil,
    List.forall_mem_cons.mpr ⟨zg_callV (fun w h => List.mem_cons_of_mem _ h) zg_tb_all S hK zg_Km qm92 zw7_114 zy_yX12_isKnown_V (ci := 12) (by decide +kernel) (hK.2.1 12 _ rfl).2.1 ⟨rfl, rfl⟩ (by decide +kernel), fun _ h => absurd h List.not_mem_nil⟩⟩
