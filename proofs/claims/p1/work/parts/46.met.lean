/-! CONTRACTS MET, 120.. -/
set_option maxRecDepth 100000 in
def qR120 : Room := { frames := 1, cells := 0, slots := 0, locals := 20 }
set_option maxHeartbeats 4000000 in
set_option maxRecDepth 100000 in
theorem qm120 {l : Launch} {D : zk_D} {base : Nat} {Hb : Heap} : zk_Met l qK D base Hb (zg_K D base Hb) yX8_wordEnd (Jvm.Cond.code yX8_wordEnd prog_10_method_5_code 3 (some .int) :: zg_tb) qR120 qC120 := by
  refine zk_met (ws' := zg_tb) (P := qP120) (AT := zg_AT) (by decide +kernel) rfl rfl rfl qk120 (fun s hK => zg_wd hK) (fun p e s m args below meth c s₁ Q B hml hK => ?_) (fun p e s m args below meth c s₁ v G0 H0 B hml hK ha hp hF q hq => absurd hq List.not_mem_nil)
  have S : CallFix p m c prog_10_method_5_code 3 s args (Jvm.Cond.code yX8_wordEnd prog_10_method_5_code 3 (some .int) :: zg_tb) RX8 := ⟨B.exec, B.bytes, hml, findClass_of_methodNamed B.named, atoms_spec (ws := Jvm.Cond.code yX8_wordEnd prog_10_method_5_code 3 (some .int) :: zg_tb) B.pre⟩
  exact ⟨List.forall_mem_cons.mpr ⟨zg_gp S (hK.2.1 8 _ rfl) (fun w h => (List.mem_cons_of_mem _ (zc8 w h))) rfl zt8_1 (List.mem_cons_of_mem _ zw1_79) rfl, fun _ h => absurd h List.not_mem_nil⟩,
    fun _ h => absurd h List.not_mem_nil,
    fun _ h => absurd h List.not_mem_nil,
    fun _ h => absurd h List.not_mem_nil,
    fun h => absurd rfl h,
    fun _ h => absurd h List.not_mem_nil,
    fun _ h => absurd h List.not_mem_nil⟩
set_option maxRecDepth 100000 in
def qR121 : Room := { frames := 2, cells := 0, slots := 0, locals := 42 }
set_option maxHeartbeats 4000000 in
set_option maxRecDepth 100000 in
theorem qm121 {l : Launch} {D : zk_D} {base : Nat} {Hb : Heap} : zk_Met l qK D base Hb (zg_K D base Hb) yX11_swap (Jvm.Cond.code yX11_swap prog_1_method_32_code 5 (some .int) :: zg_tb) qR121 qC121 := by
  refine zk_met (ws' := zg_tb) (P := qP121) (AT := zg_AT) (by decide +kernel) rfl rfl rfl qk121 (fun s hK => zg_wd hK) (fun p e s m args below meth c s₁ Q B hml hK => ?_) (fun p e s m args below meth c s₁ v G0 H0 B hml hK ha hp hF q hq => absurd hq List.not_mem_nil)
  have S : CallFix p m c prog_1_method_32_code 5 s args (Jvm.Cond.code yX11_swap prog_1_method_32_code 5 (some .int) :: zg_tb) RX11 := ⟨B.exec, B.bytes, hml, findClass_of_methodNamed B.named, atoms_spec (ws := Jvm.Cond.code yX11_swap prog_1_method_32_code 5 (some .int) :: zg_tb) B.pre⟩
  exact ⟨List.forall_mem_cons.mpr ⟨zg_gp4 S (hK.2.1 11 _ rfl) (fun w h => (List.mem_cons_of_mem _ (zc11 w h))) rfl zt11_1 (List.mem_cons_of_mem _ zw2_54), List.forall_mem_cons.mpr ⟨zg_gp4 S (hK.2.1 11 _ rfl) (fun w h => (List.mem_cons_of_mem _ (zc11 w h))) rfl zt11_6 (List.mem_cons_of_mem _ zw2_59), List.forall_mem_cons.mpr ⟨zg_gp S (hK.2.1 10 _ rfl) (fun w h => (List.mem_cons_of_mem _ (zc10 w h))) rfl zt10_4 (List.mem_cons_of_mem _ zw1_225) rfl, fun _ h => absurd h List.not_mem_nil⟩⟩⟩,
    fun _ h => absurd h List.not_mem_nil,
    fun _ h => absurd h List.not_mem_nil,
    fun _ h => absurd h List.not_mem_nil,
    fun h => absurd rfl h,
    fun _ h => absurd h List.not_mem_nil,
    List.forall_mem_cons.mpr ⟨zg_callV (fun w h => List.mem_cons_of_mem _ h) zg_tb_all S hK zg_Km qm120 zw5_76 zy_yX8_wordEnd_V (ci := 8) (by decide +kernel) (hK.2.1 8 _ rfl).2.1 ⟨rfl, rfl⟩ (by decide +kernel), List.forall_mem_cons.mpr ⟨zg_callV (fun w h => List.mem_cons_of_mem _ h) zg_tb_all S hK zg_Km qm28 zw5_82 zy_yX8_at_V (ci := 8) (by decide +kernel) (hK.2.1 8 _ rfl).2.1 ⟨rfl, rfl⟩ (by decide +kernel), fun _ h => absurd h List.not_mem_nil⟩⟩⟩
set_option maxRecDepth 100000 in
def qR122 : Room := { frames := 1, cells := 0, slots := 0, locals := 20 }
set_option maxHeartbeats 4000000 in
set_option maxRecDepth 100000 in
theorem qm122 {l : Launch} {D : zk_D} {base : Nat} {Hb : Heap} : zk_Met l qK D base Hb (zg_K D base Hb) yX12_in (Jvm.Cond.code yX12_in prog_14_method_1_code 3 (some .boolean) :: zg_tb) qR122 qC122 := by
  refine zk_met (ws' := zg_tb) (P := qP122) (AT := zg_AT) (by decide +kernel) rfl rfl rfl qk122 (fun s hK => zg_wd hK) (fun p e s m args below meth c s₁ Q B hml hK => ?_) (fun p e s m args below meth c s₁ v G0 H0 B hml hK ha hp hF q hq => absurd hq List.not_mem_nil)
  have S : CallFix p m c prog_14_method_1_code 3 s args (Jvm.Cond.code yX12_in prog_14_method_1_code 3 (some .boolean) :: zg_tb) RX12 := ⟨B.exec, B.bytes, hml, findClass_of_methodNamed B.named, atoms_spec (ws := Jvm.Cond.code yX12_in prog_14_method_1_code 3 (some .boolean) :: zg_tb) B.pre⟩
  exact ⟨fun _ h => absurd h List.not_mem_nil,
    fun _ h => absurd h List.not_mem_nil,
    fun _ h => absurd h List.not_mem_nil,
    fun _ h => absurd h List.not_mem_nil,
    fun h => absurd rfl h,
    fun _ h => absurd h List.not_mem_nil,
    fun _ h => absurd h List.not_mem_nil⟩
set_option maxRecDepth 100000 in
def qR123 : Room := { frames := 2, cells := 0, slots := 0, locals := 42 }
set_option maxHeartbeats 4000000 in
set_option maxRecDepth 100000 in
theorem qm123 {l : Launch} {D : zk_D} {base : Nat} {Hb : Heap} : zk_Met l qK D base Hb (zg_K D base Hb) yX12_swap (Jvm.Cond.code yX12_swap prog_14_method_91_code 3 (some .int) :: zg_tb) qR123 qC123 := by
  refine zk_met (ws' := zg_tb) (P := qP123) (AT := zg_AT) (by decide +kernel) rfl rfl rfl qk123 (fun s hK => zg_wd hK) (fun p e s m args below meth c s₁ Q B hml hK => ?_) (fun p e s m args below meth c s₁ v G0 H0 B hml hK ha hp hF q hq => absurd hq List.not_mem_nil)
  have S : CallFix p m c prog_14_method_91_code 3 s args (Jvm.Cond.code yX12_swap prog_14_method_91_code 3 (some .int) :: zg_tb) RX12 := ⟨B.exec, B.bytes, hml, findClass_of_methodNamed B.named, atoms_spec (ws := Jvm.Cond.code yX12_swap prog_14_method_91_code 3 (some .int) :: zg_tb) B.pre⟩
  exact ⟨List.forall_mem_cons.mpr ⟨zg_gp S (hK.2.1 12 _ rfl) (fun w h => (List.mem_cons_of_mem _ (zc12 w h))) rfl zt12_9 (List.mem_cons_of_mem _ zw5_168) rfl, fun _ h => absurd h List.not_mem_nil⟩,
    fun _ h => absurd h List.not_mem_nil,
    fun _ h => absurd h List.not_mem_nil,
    fun _ h => absurd h List.not_mem_nil,
    fun h => absurd rfl h,
    fun _ h => absurd h List.not_mem_nil,
    List.forall_mem_cons.mpr ⟨zg_callS (fun w h => List.mem_cons_of_mem _ h) zg_tb_all S hK zg_Km qm122 zw6_145 zy_yX12_in_S (by decide +kernel) ⟨rfl, rfl⟩ (by decide +kernel), fun _ h => absurd h List.not_mem_nil⟩⟩
set_option maxRecDepth 100000 in
def qR124 : Room := { frames := 2, cells := 0, slots := 0, locals := 41 }
set_option maxHeartbeats 4000000 in
set_option maxRecDepth 100000 in
theorem qm124 {l : Launch} {D : zk_D} {base : Nat} {Hb : Heap} : zk_Met l qK D base Hb (zg_K D base Hb) yX11_round (Jvm.Cond.code yX11_round prog_1_method_33_code 10 (some .int) :: zg_tb) qR124 qC124 := by
  refine zk_met (ws' := zg_tb) (P := qP124) (AT := zg_AT) (by decide +kernel) rfl rfl rfl qk124 (fun s hK => zg_wd hK) (fun p e s m args below meth c s₁ Q B hml hK => ?_) (fun p e s m args below meth c s₁ v G0 H0 B hml hK ha hp hF q hq => absurd hq List.not_mem_nil)
  have S : CallFix p m c prog_1_method_33_code 10 s args (Jvm.Cond.code yX11_round prog_1_method_33_code 10 (some .int) :: zg_tb) RX11 := ⟨B.exec, B.bytes, hml, findClass_of_methodNamed B.named, atoms_spec (ws := Jvm.Cond.code yX11_round prog_1_method_33_code 10 (some .int) :: zg_tb) B.pre⟩
  exact ⟨fun _ h => absurd h List.not_mem_nil,
    fun _ h => absurd h List.not_mem_nil,
    fun _ h => absurd h List.not_mem_nil,
    fun _ h => absurd h List.not_mem_nil,
    fun h => absurd rfl h,
    fun _ h => absurd h List.not_mem_nil,
    List.forall_mem_cons.mpr ⟨zg_callV (fun w h => List.mem_cons_of_mem _ h) zg_tb_all S hK zg_Km qm66 zw4_142 zy_yX11_letterAt_V (ci := 11) (by decide +kernel) (hK.2.1 11 _ rfl).2.1 ⟨rfl, rfl⟩ (by decide +kernel), fun _ h => absurd h List.not_mem_nil⟩⟩
set_option maxRecDepth 100000 in
def qR125 : Room := { frames := 1, cells := 0, slots := 0, locals := 20 }
set_option maxHeartbeats 4000000 in
set_option maxRecDepth 100000 in
theorem qm125 {l : Launch} {D : zk_D} {base : Nat} {Hb : Heap} : zk_Met l qK D base Hb (zg_K D base Hb) yX12_in (Jvm.Cond.code yX12_in prog_14_method_1_code 3 (some .boolean) :: zg_tb) qR125 qC125 := by
  refine zk_met (ws' := zg_tb) (P := qP125) (AT := zg_AT) (by decide +kernel) rfl rfl rfl qk125 (fun s hK => zg_wd hK) (fun p e s m args below meth c s₁ Q B hml hK => ?_) (fun p e s m args below meth c s₁ v G0 H0 B hml hK ha hp hF q hq => absurd hq List.not_mem_nil)
  have S : CallFix p m c prog_14_method_1_code 3 s args (Jvm.Cond.code yX12_in prog_14_method_1_code 3 (some .boolean) :: zg_tb) RX12 := ⟨B.exec, B.bytes, hml, findClass_of_methodNamed B.named, atoms_spec (ws := Jvm.Cond.code yX12_in prog_14_method_1_code 3 (some .boolean) :: zg_tb) B.pre⟩
  exact ⟨fun _ h => absurd h List.not_mem_nil,
    fun _ h => absurd h List.not_mem_nil,
    fun _ h => absurd h List.not_mem_nil,
    fun _ h => absurd h List.not_mem_nil,
    fun h => absurd rfl h,
    fun _ h => absurd h List.not_mem_nil,
    fun _ h => absurd h List.not_mem_nil⟩
set_option maxRecDepth 100000 in
def qR126 : Room := { frames := 3, cells := 0, slots := 0, locals := 63 }
set_option maxHeartbeats 4000000 in
set_option maxRecDepth 100000 in
theorem qm126 {l : Launch} {D : zk_D} {base : Nat} {Hb : Heap} : zk_Met l qK D base Hb (zg_K D base Hb) yX12_findRound (Jvm.Cond.code yX12_findRound prog_14_method_93_code 7 (some .boolean) :: zg_tb) qR126 qC126 := by
  refine zk_met (ws' := zg_tb) (P := qP126) (AT := zg_AT) (by decide +kernel) rfl rfl rfl qk126 (fun s hK => zg_wd hK) (fun p e s m args below meth c s₁ Q B hml hK => ?_) (fun p e s m args below meth c s₁ v G0 H0 B hml hK ha hp hF q hq => absurd hq List.not_mem_nil)
  have S : CallFix p m c prog_14_method_93_code 7 s args (Jvm.Cond.code yX12_findRound prog_14_method_93_code 7 (some .boolean) :: zg_tb) RX12 := ⟨B.exec, B.bytes, hml, findClass_of_methodNamed B.named, atoms_spec (ws := Jvm.Cond.code yX12_findRound prog_14_method_93_code 7 (some .boolean) :: zg_tb) B.pre⟩
  exact ⟨fun _ h => absurd h List.not_mem_nil,
    fun _ h => absurd h List.not_mem_nil,
    fun _ h => absurd h List.not_mem_nil,
    fun _ h => absurd h List.not_mem_nil,
    fun h => absurd rfl h,
    fun _ h => absurd h List.not_mem_nil,
    List.forall_mem_cons.mpr ⟨zg_callV (fun w h => List.mem_cons_of_mem _ h) zg_tb_all S hK zg_Km qm69 zw7_80 zy_yX12_isLetter_V (ci := 12) (by decide +kernel) (hK.2.1 12 _ rfl).2.1 ⟨rfl, rfl⟩ (by decide +kernel), fun _ h => absurd h List.not_mem_nil⟩⟩
set_option maxRecDepth 100000 in
def qR127 : Room := { frames := 4, cells := 0, slots := 0, locals := 89 }
set_option maxHeartbeats 4000000 in
set_option maxRecDepth 100000 in
theorem qm127 {l : Launch} {D : zk_D} {base : Nat} {Hb : Heap} : zk_Met l qK D base Hb (zg_K D base Hb) yX12_round (Jvm.Cond.code yX12_round prog_14_method_94_code 4 (some .int) :: zg_tb) qR127 qC127 := by
  refine zk_met (ws' := zg_tb) (P := qP127) (AT := zg_AT) (by decide +kernel) rfl rfl rfl qk127 (fun s hK => zg_wd hK) (fun p e s m args below meth c s₁ Q B hml hK => ?_) (fun p e s m args below meth c s₁ v G0 H0 B hml hK ha hp hF q hq => absurd hq List.not_mem_nil)
  have S : CallFix p m c prog_14_method_94_code 4 s args (Jvm.Cond.code yX12_round prog_14_method_94_code 4 (some .int) :: zg_tb) RX12 := ⟨B.exec, B.bytes, hml, findClass_of_methodNamed B.named, atoms_spec (ws := Jvm.Cond.code yX12_round prog_14_method_94_code 4 (some .int) :: zg_tb) B.pre⟩
  exact ⟨fun _ h => absurd h List.not_mem_nil,
    fun _ h => absurd h List.not_mem_nil,
    fun _ h => absurd h List.not_mem_nil,
    fun _ h => absurd h List.not_mem_nil,
    fun h => absurd rfl h,
    fun _ h => absurd h List.not_mem_nil,
    List.forall_mem_cons.mpr ⟨zg_callS (fun w h => List.mem_cons_of_mem _ h) zg_tb_all S hK zg_Km qm125 zw6_145 zy_yX12_in_S (by decide +kernel) ⟨rfl, rfl⟩ (by decide +kernel), List.forall_mem_cons.mpr ⟨zg_callV (fun w h => List.mem_cons_of_mem _ h) zg_tb_all S hK zg_Km qm126 zw8_15 zy_yX12_findRound_V (ci := 12) (by decide +kernel) (hK.2.1 12 _ rfl).2.1 ⟨rfl, rfl⟩ (by decide +kernel), fun _ h => absurd h List.not_mem_nil⟩⟩⟩
set_option maxRecDepth 100000 in
def qR128 : Room := { frames := 1, cells := 0, slots := 0, locals := 20 }
set_option maxHeartbeats 4000000 in
set_option maxRecDepth 100000 in
theorem qm128 {l : Launch} {D : zk_D} {base : Nat} {Hb : Heap} : zk_Met l qK D base Hb (zg_K D base Hb) yX11_measure (Jvm.Cond.code yX11_measure prog_1_method_36_code 2 (some .int) :: zg_tb) qR128 qC128 := by
  refine zk_met (ws' := zg_tb) (P := qP128) (AT := zg_AT) (by decide +kernel) rfl rfl rfl qk128 (fun s hK => zg_wd hK) (fun p e s m args below meth c s₁ Q B hml hK => ?_) (fun p e s m args below meth c s₁ v G0 H0 B hml hK ha hp hF q hq => absurd hq List.not_mem_nil)
  have S : CallFix p m c prog_1_method_36_code 2 s args (Jvm.Cond.code yX11_measure prog_1_method_36_code 2 (some .int) :: zg_tb) RX11 := ⟨B.exec, B.bytes, hml, findClass_of_methodNamed B.named, atoms_spec (ws := Jvm.Cond.code yX11_measure prog_1_method_36_code 2 (some .int) :: zg_tb) B.pre⟩
  exact ⟨List.forall_mem_cons.mpr ⟨zg_gp S (hK.2.1 11 _ rfl) (fun w h => (List.mem_cons_of_mem _ (zc11 w h))) rfl zt11_16 (List.mem_cons_of_mem _ zw2_69) rfl, List.forall_mem_cons.mpr ⟨zg_gp4 S (hK.2.1 11 _ rfl) (fun w h => (List.mem_cons_of_mem _ (zc11 w h))) rfl zt11_10 (List.mem_cons_of_mem _ zw2_63), fun _ h => absurd h List.not_mem_nil⟩⟩,
    fun _ h => absurd h List.not_mem_nil,
    fun _ h => absurd h List.not_mem_nil,
    fun _ h => absurd h List.not_mem_nil,
    fun h => absurd rfl h,
    List.forall_mem_cons.mpr ⟨zg_kokW S (List.mem_cons_of_mem _ zw5_132) (by decide +kernel) (by decide +kernel), fun _ h => absurd h List.not_mem_nil⟩,
    fun _ h => absurd h List.not_mem_nil⟩
set_option maxRecDepth 100000 in
def qR129 : Room := { frames := 1, cells := 0, slots := 0, locals := 20 }
set_option maxHeartbeats 4000000 in
set_option maxRecDepth 100000 in
theorem qm129 {l : Launch} {D : zk_D} {base : Nat} {Hb : Heap} : zk_Met l qK D base Hb (zg_K D base Hb) yX12_in (Jvm.Cond.code yX12_in prog_14_method_1_code 3 (some .boolean) :: zg_tb) qR129 qC129 := by
  refine zk_met (ws' := zg_tb) (P := qP129) (AT := zg_AT) (by decide +kernel) rfl rfl rfl qk129 (fun s hK => zg_wd hK) (fun p e s m args below meth c s₁ Q B hml hK => ?_) (fun p e s m args below meth c s₁ v G0 H0 B hml hK ha hp hF q hq => absurd hq List.not_mem_nil)
  have S : CallFix p m c prog_14_method_1_code 3 s args (Jvm.Cond.code yX12_in prog_14_method_1_code 3 (some .boolean) :: zg_tb) RX12 := ⟨B.exec, B.bytes, hml, findClass_of_methodNamed B.named, atoms_spec (ws := Jvm.Cond.code yX12_in prog_14_method_1_code 3 (some .boolean) :: zg_tb) B.pre⟩
  exact ⟨fun _ h => absurd h List.not_mem_nil,
    fun _ h => absurd h List.not_mem_nil,
    fun _ h => absurd h List.not_mem_nil,
    fun _ h => absurd h List.not_mem_nil,
    fun h => absurd rfl h,
    fun _ h => absurd h List.not_mem_nil,
    fun _ h => absurd h List.not_mem_nil⟩
set_option maxRecDepth 100000 in
def qR130 : Room := { frames := 2, cells := 0, slots := 0, locals := 42 }
set_option maxHeartbeats 4000000 in
set_option maxRecDepth 100000 in
theorem qm130 {l : Launch} {D : zk_D} {base : Nat} {Hb : Heap} : zk_Met l qK D base Hb (zg_K D base Hb) yX12_measure (Jvm.Cond.code yX12_measure prog_14_method_98_code 2 (some .int) :: zg_tb) qR130 qC130 := by
  refine zk_met (ws' := zg_tb) (P := qP130) (AT := zg_AT) (by decide +kernel) rfl rfl rfl qk130 (fun s hK => zg_wd hK) (fun p e s m args below meth c s₁ Q B hml hK => ?_) (fun p e s m args below meth c s₁ v G0 H0 B hml hK ha hp hF q hq => absurd hq List.not_mem_nil)
  have S : CallFix p m c prog_14_method_98_code 2 s args (Jvm.Cond.code yX12_measure prog_14_method_98_code 2 (some .int) :: zg_tb) RX12 := ⟨B.exec, B.bytes, hml, findClass_of_methodNamed B.named, atoms_spec (ws := Jvm.Cond.code yX12_measure prog_14_method_98_code 2 (some .int) :: zg_tb) B.pre⟩
  exact ⟨List.forall_mem_cons.mpr ⟨zg_gp S (hK.2.1 12 _ rfl) (fun w h => (List.mem_cons_of_mem _ (zc12 w h))) rfl zt12_70 (List.mem_cons_of_mem _ zw5_229) rfl, List.forall_mem_cons.mpr ⟨zg_gp4 S (hK.2.1 12 _ rfl) (fun w h => (List.mem_cons_of_mem _ (zc12 w h))) rfl zt12_69 (List.mem_cons_of_mem _ zw5_228), fun _ h => absurd h List.not_mem_nil⟩⟩,
    fun _ h => absurd h List.not_mem_nil,
    fun _ h => absurd h List.not_mem_nil,
    fun _ h => absurd h List.not_mem_nil,
    fun h => absurd rfl h,
    List.forall_mem_cons.mpr ⟨zg_kokW S (List.mem_cons_of_mem _ zw8_40) (by decide +kernel) (by decide +kernel), fun _ h => absurd h List.not_mem_nil⟩,
    List.forall_mem_cons.mpr ⟨zg_callS (fun w h => List.mem_cons_of_mem _ h) zg_tb_all S hK zg_Km qm129 zw6_145 zy_yX12_in_S (by decide +kernel) ⟨rfl, rfl⟩ (by decide +kernel), fun _ h => absurd h List.not_mem_nil⟩⟩
set_option maxRecDepth 100000 in
def qR131 : Room := { frames := 1, cells := 0, slots := 0, locals := 20 }
set_option maxHeartbeats 4000000 in
set_option maxRecDepth 100000 in
theorem qm131 {l : Launch} {D : zk_D} {base : Nat} {Hb : Heap} : zk_Met l qK D base Hb (zg_K D base Hb) yX11_markedBits (Jvm.Cond.code yX11_markedBits prog_1_method_60_code 4 (some .int) :: zg_tb) qR131 qC131 := by
  refine zk_met (ws' := zg_tb) (P := qP131) (AT := zg_AT) (by decide +kernel) rfl rfl rfl qk131 (fun s hK => zg_wd hK) (fun p e s m args below meth c s₁ Q B hml hK => ?_) (fun p e s m args below meth c s₁ v G0 H0 B hml hK ha hp hF q hq => absurd hq List.not_mem_nil)
  have S : CallFix p m c prog_1_method_60_code 4 s args (Jvm.Cond.code yX11_markedBits prog_1_method_60_code 4 (some .int) :: zg_tb) RX11 := ⟨B.exec, B.bytes, hml, findClass_of_methodNamed B.named, atoms_spec (ws := Jvm.Cond.code yX11_markedBits prog_1_method_60_code 4 (some .int) :: zg_tb) B.pre⟩
  exact ⟨List.forall_mem_cons.mpr ⟨zg_gp S (hK.2.1 11 _ rfl) (fun w h => (List.mem_cons_of_mem _ (zc11 w h))) rfl zt11_15 (List.mem_cons_of_mem _ zw2_68) rfl, fun _ h => absurd h List.not_mem_nil⟩,
    fun _ h => absurd h List.not_mem_nil,
    fun _ h => absurd h List.not_mem_nil,
    fun _ h => absurd h List.not_mem_nil,
    fun h => absurd rfl h,
    fun _ h => absurd h List.not_mem_nil,
    fun _ h => absurd h List.not_mem_nil⟩
set_option maxRecDepth 100000 in
def qR132 : Room := { frames := 3, cells := 0, slots := 0, locals := 65 }
set_option maxHeartbeats 4000000 in
set_option maxRecDepth 100000 in
theorem qm132 {l : Launch} {D : zk_D} {base : Nat} {Hb : Heap} : zk_Met l qK D base Hb (zg_K D base Hb) yX11_plan (Jvm.Cond.code yX11_plan prog_1_method_37_code 11 (some .int) :: zg_tb) qR132 qC132 := by
  refine zk_met (ws' := zg_tb) (P := qP132) (AT := zg_AT) (by decide +kernel) rfl rfl rfl qk132 (fun s hK => zg_wd hK) (fun p e s m args below meth c s₁ Q B hml hK => ?_) (fun p e s m args below meth c s₁ v G0 H0 B hml hK ha hp hF q hq => absurd hq List.not_mem_nil)
  have S : CallFix p m c prog_1_method_37_code 11 s args (Jvm.Cond.code yX11_plan prog_1_method_37_code 11 (some .int) :: zg_tb) RX11 := ⟨B.exec, B.bytes, hml, findClass_of_methodNamed B.named, atoms_spec (ws := Jvm.Cond.code yX11_plan prog_1_method_37_code 11 (some .int) :: zg_tb) B.pre⟩
  exact ⟨List.forall_mem_cons.mpr ⟨zg_gp4 S (hK.2.1 11 _ rfl) (fun w h => (List.mem_cons_of_mem _ (zc11 w h))) rfl zt11_8 (List.mem_cons_of_mem _ zw2_61), List.forall_mem_cons.mpr ⟨zg_gp S (hK.2.1 11 _ rfl) (fun w h => (List.mem_cons_of_mem _ (zc11 w h))) rfl zt11_13 (List.mem_cons_of_mem _ zw2_66) rfl, List.forall_mem_cons.mpr ⟨zg_gp S (hK.2.1 11 _ rfl) (fun w h => (List.mem_cons_of_mem _ (zc11 w h))) rfl zt11_16 (List.mem_cons_of_mem _ zw2_69) rfl, fun _ h => absurd h List.not_mem_nil⟩⟩⟩,
    fun _ h => absurd h List.not_mem_nil,
    fun _ h => absurd h List.not_mem_nil,
    fun _ h => absurd h List.not_mem_nil,
    fun h => absurd rfl h,
    fun _ h => absurd h List.not_mem_nil,
    List.forall_mem_cons.mpr ⟨zg_callV (fun w h => List.mem_cons_of_mem _ h) zg_tb_all S hK zg_Km qm81 zw3_132 zy_yX3_know_V (ci := 3) (by decide +kernel) (hK.2.1 3 _ rfl).2.1 ⟨rfl, rfl⟩ (by decide +kernel), List.forall_mem_cons.mpr ⟨zg_callV (fun w h => List.mem_cons_of_mem _ h) zg_tb_all S hK zg_Km qm131 zw5_137 zy_yX11_markedBits_V (ci := 11) (by decide +kernel) (hK.2.1 11 _ rfl).2.1 ⟨rfl, rfl⟩ (by decide +kernel), List.forall_mem_cons.mpr ⟨zg_callV (fun w h => List.mem_cons_of_mem _ h) zg_tb_all S hK zg_Km qm131 zw5_137 zy_yX11_markedBits_V (ci := 11) (by decide +kernel) (hK.2.1 11 _ rfl).2.1 ⟨rfl, rfl⟩ (by decide +kernel), fun _ h => absurd h List.not_mem_nil⟩⟩⟩⟩
set_option maxRecDepth 100000 in
def qR133 : Room := { frames := 1, cells := 0, slots := 0, locals := 20 }
set_option maxHeartbeats 4000000 in
set_option maxRecDepth 100000 in
theorem qm133 {l : Launch} {D : zk_D} {base : Nat} {Hb : Heap} : zk_Met l qK D base Hb (zg_K D base Hb) yX12_in (Jvm.Cond.code yX12_in prog_14_method_1_code 3 (some .boolean) :: zg_tb) qR133 qC133 := by
  refine zk_met (ws' := zg_tb) (P := qP133) (AT := zg_AT) (by decide +kernel) rfl rfl rfl qk133 (fun s hK => zg_wd hK) (fun p e s m args below meth c s₁ Q B hml hK => ?_) (fun p e s m args below meth c s₁ v G0 H0 B hml hK ha hp hF q hq => absurd hq List.not_mem_nil)
  have S : CallFix p m c prog_14_method_1_code 3 s args (Jvm.Cond.code yX12_in prog_14_method_1_code 3 (some .boolean) :: zg_tb) RX12 := ⟨B.exec, B.bytes, hml, findClass_of_methodNamed B.named, atoms_spec (ws := Jvm.Cond.code yX12_in prog_14_method_1_code 3 (some .boolean) :: zg_tb) B.pre⟩
  exact ⟨fun _ h => absurd h List.not_mem_nil,
    fun _ h => absurd h List.not_mem_nil,
    fun _ h => absurd h List.not_mem_nil,
    fun _ h => absurd h List.not_mem_nil,
    fun h => absurd rfl h,
    fun _ h => absurd h List.not_mem_nil,
    fun _ h => absurd h List.not_mem_nil⟩
set_option maxRecDepth 100000 in
def qR134 : Room := { frames := 1, cells := 0, slots := 0, locals := 20 }
set_option maxHeartbeats 4000000 in
set_option maxRecDepth 100000 in
theorem qm134 {l : Launch} {D : zk_D} {base : Nat} {Hb : Heap} : zk_Met l qK D base Hb (zg_K D base Hb) yX12_in (Jvm.Cond.code yX12_in prog_14_method_1_code 3 (some .boolean) :: zg_tb) qR134 qC134 := by
  refine zk_met (ws' := zg_tb) (P := qP134) (AT := zg_AT) (by decide +kernel) rfl rfl rfl qk134 (fun s hK => zg_wd hK) (fun p e s m args below meth c s₁ Q B hml hK => ?_) (fun p e s m args below meth c s₁ v G0 H0 B hml hK ha hp hF q hq => absurd hq List.not_mem_nil)
  have S : CallFix p m c prog_14_method_1_code 3 s args (Jvm.Cond.code yX12_in prog_14_method_1_code 3 (some .boolean) :: zg_tb) RX12 := ⟨B.exec, B.bytes, hml, findClass_of_methodNamed B.named, atoms_spec (ws := Jvm.Cond.code yX12_in prog_14_method_1_code 3 (some .boolean) :: zg_tb) B.pre⟩
  exact ⟨fun _ h => absurd h List.not_mem_nil,
    fun _ h => absurd h List.not_mem_nil,
    fun _ h => absurd h List.not_mem_nil,
    fun _ h => absurd h List.not_mem_nil,
    fun h => absurd rfl h,
    fun _ h => absurd h List.not_mem_nil,
    fun _ h => absurd h List.not_mem_nil⟩
set_option maxRecDepth 100000 in
def qR135 : Room := { frames := 1, cells := 0, slots := 0, locals := 20 }
set_option maxHeartbeats 4000000 in
set_option maxRecDepth 100000 in
theorem qm135 {l : Launch} {D : zk_D} {base : Nat} {Hb : Heap} : zk_Met l qK D base Hb (zg_K D base Hb) yX12_stopped (Jvm.Cond.code yX12_stopped prog_14_method_99_code 6 (some .int) :: zg_tb) qR135 qC135 := by
  refine zk_met (ws' := zg_tb) (P := qP135) (AT := zg_AT) (by decide +kernel) rfl rfl rfl qk135 (fun s hK => zg_wd hK) (fun p e s m args below meth c s₁ Q B hml hK => ?_) (fun p e s m args below meth c s₁ v G0 H0 B hml hK ha hp hF q hq => absurd hq List.not_mem_nil)
  have S : CallFix p m c prog_14_method_99_code 6 s args (Jvm.Cond.code yX12_stopped prog_14_method_99_code 6 (some .int) :: zg_tb) RX12 := ⟨B.exec, B.bytes, hml, findClass_of_methodNamed B.named, atoms_spec (ws := Jvm.Cond.code yX12_stopped prog_14_method_99_code 6 (some .int) :: zg_tb) B.pre⟩
  exact ⟨List.forall_mem_cons.mpr ⟨zg_gp S (hK.2.1 12 _ rfl) (fun w h => (List.mem_cons_of_mem _ (zc12 w h))) rfl zt12_70 (List.mem_cons_of_mem _ zw5_229) rfl, List.forall_mem_cons.mpr ⟨zg_gp S (hK.2.1 12 _ rfl) (fun w h => (List.mem_cons_of_mem _ (zc12 w h))) rfl zt12_44 (List.mem_cons_of_mem _ zw5_203) rfl, fun _ h => absurd h List.not_mem_nil⟩⟩,
    fun _ h => absurd h List.not_mem_nil,
    fun _ h => absurd h List.not_mem_nil,
    fun _ h => absurd h List.not_mem_nil,
    fun h => absurd rfl h,
    fun _ h => absurd h List.not_mem_nil,
    fun _ h => absurd h List.not_mem_nil⟩
set_option maxRecDepth 100000 in
def qR136 : Room := { frames := 2, cells := 0, slots := 0, locals := 45 }
set_option maxHeartbeats 4000000 in
set_option maxRecDepth 100000 in
theorem qm136 {l : Launch} {D : zk_D} {base : Nat} {Hb : Heap} : zk_Met l qK D base Hb (zg_K D base Hb) yX12_plan (Jvm.Cond.code yX12_plan prog_14_method_100_code 9 (some .int) :: zg_tb) qR136 qC136 := by
  refine zk_met (ws' := zg_tb) (P := qP136) (AT := zg_AT) (by decide +kernel) rfl rfl rfl qk136 (fun s hK => zg_wd hK) (fun p e s m args below meth c s₁ Q B hml hK => ?_) (fun p e s m args below meth c s₁ v G0 H0 B hml hK ha hp hF q hq => absurd hq List.not_mem_nil)
  have S : CallFix p m c prog_14_method_100_code 9 s args (Jvm.Cond.code yX12_plan prog_14_method_100_code 9 (some .int) :: zg_tb) RX12 := ⟨B.exec, B.bytes, hml, findClass_of_methodNamed B.named, atoms_spec (ws := Jvm.Cond.code yX12_plan prog_14_method_100_code 9 (some .int) :: zg_tb) B.pre⟩
  exact ⟨List.forall_mem_cons.mpr ⟨zg_gp S (hK.2.1 12 _ rfl) (fun w h => (List.mem_cons_of_mem _ (zc12 w h))) rfl zt12_0 (List.mem_cons_of_mem _ zw5_159) rfl, List.forall_mem_cons.mpr ⟨zg_gp S (hK.2.1 12 _ rfl) (fun w h => (List.mem_cons_of_mem _ (zc12 w h))) rfl zt12_70 (List.mem_cons_of_mem _ zw5_229) rfl, fun _ h => absurd h List.not_mem_nil⟩⟩,
    fun _ h => absurd h List.not_mem_nil,
    fun _ h => absurd h List.not_mem_nil,
    fun _ h => absurd h List.not_mem_nil,
    fun h => absurd rfl h,
    fun _ h => absurd h List.not_mem_nil,
    List.forall_mem_cons.mpr ⟨zg_callS (fun w h => List.mem_cons_of_mem _ h) zg_tb_all S hK zg_Km qm133 zw6_145 zy_yX12_in_S (by decide +kernel) ⟨rfl, rfl⟩ (by decide +kernel), List.forall_mem_cons.mpr ⟨zg_callS (fun w h => List.mem_cons_of_mem _ h) zg_tb_all S hK zg_Km qm134 zw6_145 zy_yX12_in_S (by decide +kernel) ⟨rfl, rfl⟩ (by decide +kernel), List.forall_mem_cons.mpr ⟨zg_callV (fun w h => List.mem_cons_of_mem _ h) zg_tb_all S hK zg_Km qm106 zw7_119 zy_yX12_gather_V (ci := 12) (by decide +kernel) (hK.2.1 12 _ rfl).2.1 ⟨rfl, rfl⟩ (by decide +kernel), List.forall_mem_cons.mpr ⟨zg_callV (fun w h => List.mem_cons_of_mem _ h) zg_tb_all S hK zg_Km qm135 zw8_45 zy_yX12_stopped_V (ci := 12) (by decide +kernel) (hK.2.1 12 _ rfl).2.1 ⟨rfl, rfl⟩ (by decide +kernel), List.forall_mem_cons.mpr ⟨zg_callV (fun w h => List.mem_cons_of_mem _ h) zg_tb_all S hK zg_Km qm135 zw8_45 zy_yX12_stopped_V (ci := 12) (by decide +kernel) (hK.2.1 12 _ rfl).2.1 ⟨rfl, rfl⟩ (by decide +kernel), fun _ h => absurd h List.not_mem_nil⟩⟩⟩⟩⟩⟩
set_option maxRecDepth 100000 in
def qR137 : Room := { frames := 1, cells := 0, slots := 0, locals := 20 }
set_option maxHeartbeats 4000000 in
set_option maxRecDepth 100000 in
theorem qm137 {l : Launch} {D : zk_D} {base : Nat} {Hb : Heap} : zk_Met l qK D base Hb (zg_K D base Hb) yX11_inState (Jvm.Cond.code yX11_inState prog_1_method_44_code 4 (some .int) :: zg_tb) qR137 qC137 := by
  refine zk_met (ws' := zg_tb) (P := qP137) (AT := zg_AT) (by decide +kernel) rfl rfl rfl qk137 (fun s hK => zg_wd hK) (fun p e s m args below meth c s₁ Q B hml hK => ?_) (fun p e s m args below meth c s₁ v G0 H0 B hml hK ha hp hF q hq => absurd hq List.not_mem_nil)
  have S : CallFix p m c prog_1_method_44_code 4 s args (Jvm.Cond.code yX11_inState prog_1_method_44_code 4 (some .int) :: zg_tb) RX11 := ⟨B.exec, B.bytes, hml, findClass_of_methodNamed B.named, atoms_spec (ws := Jvm.Cond.code yX11_inState prog_1_method_44_code 4 (some .int) :: zg_tb) B.pre⟩
  exact ⟨List.forall_mem_cons.mpr ⟨zg_gp S (hK.2.1 11 _ rfl) (fun w h => (List.mem_cons_of_mem _ (zc11 w h))) rfl zt11_15 (List.mem_cons_of_mem _ zw2_68) rfl, fun _ h => absurd h List.not_mem_nil⟩,
    fun _ h => absurd h List.not_mem_nil,
    fun _ h => absurd h List.not_mem_nil,
    fun _ h => absurd h List.not_mem_nil,
    fun h => absurd rfl h,
    fun _ h => absurd h List.not_mem_nil,
    fun _ h => absurd h List.not_mem_nil⟩
set_option maxRecDepth 100000 in
def qR138 : Room := { frames := 2, cells := 0, slots := 0, locals := 43 }
set_option maxHeartbeats 4000000 in
set_option maxRecDepth 100000 in
theorem qm138 {l : Launch} {D : zk_D} {base : Nat} {Hb : Heap} : zk_Met l qK D base Hb (zg_K D base Hb) yX11_count (Jvm.Cond.code yX11_count prog_1_method_38_code 2 (some .int) :: zg_tb) qR138 qC138 := by
  refine zk_met (ws' := zg_tb) (P := qP138) (AT := zg_AT) (by decide +kernel) rfl rfl rfl qk138 (fun s hK => zg_wd hK) (fun p e s m args below meth c s₁ Q B hml hK => ?_) (fun p e s m args below meth c s₁ v G0 H0 B hml hK ha hp hF q hq => absurd hq List.not_mem_nil)
  have S : CallFix p m c prog_1_method_38_code 2 s args (Jvm.Cond.code yX11_count prog_1_method_38_code 2 (some .int) :: zg_tb) RX11 := ⟨B.exec, B.bytes, hml, findClass_of_methodNamed B.named, atoms_spec (ws := Jvm.Cond.code yX11_count prog_1_method_38_code 2 (some .int) :: zg_tb) B.pre⟩
  exact ⟨List.forall_mem_cons.mpr ⟨zg_gp S (hK.2.1 11 _ rfl) (fun w h => (List.mem_cons_of_mem _ (zc11 w h))) rfl zt11_13 (List.mem_cons_of_mem _ zw2_66) rfl, List.forall_mem_cons.mpr ⟨zg_gp4 S (hK.2.1 11 _ rfl) (fun w h => (List.mem_cons_of_mem _ (zc11 w h))) rfl zt11_0 (List.mem_cons_of_mem _ zw2_53), List.forall_mem_cons.mpr ⟨zg_gp S (hK.2.1 4 _ rfl) (fun w h => (List.mem_cons_of_mem _ (zc4 w h))) rfl zt4_6 (List.mem_cons_of_mem _ zw1_49) rfl, List.forall_mem_cons.mpr ⟨zg_gp S (hK.2.1 4 _ rfl) (fun w h => (List.mem_cons_of_mem _ (zc4 w h))) rfl zt4_7 (List.mem_cons_of_mem _ zw1_51) rfl, List.forall_mem_cons.mpr ⟨zg_gp S (hK.2.1 11 _ rfl) (fun w h => (List.mem_cons_of_mem _ (zc11 w h))) rfl zt11_15 (List.mem_cons_of_mem _ zw2_68) rfl, List.forall_mem_cons.mpr ⟨zg_gp4 S (hK.2.1 11 _ rfl) (fun w h => (List.mem_cons_of_mem _ (zc11 w h))) rfl zt11_5 (List.mem_cons_of_mem _ zw2_58), List.forall_mem_cons.mpr ⟨zg_gp S (hK.2.1 5 _ rfl) (fun w h => (List.mem_cons_of_mem _ (zc5 w h))) rfl zt5_5 (List.mem_cons_of_mem _ zw1_185) rfl, List.forall_mem_cons.mpr ⟨zg_gp S (hK.2.1 11 _ rfl) (fun w h => (List.mem_cons_of_mem _ (zc11 w h))) rfl zt11_14 (List.mem_cons_of_mem _ zw2_67) rfl, List.forall_mem_cons.mpr ⟨zg_gp4 S (hK.2.1 11 _ rfl) (fun w h => (List.mem_cons_of_mem _ (zc11 w h))) rfl zt11_8 (List.mem_cons_of_mem _ zw2_61), List.forall_mem_cons.mpr ⟨zg_gp S (hK.2.1 3 _ rfl) (fun w h => (List.mem_cons_of_mem _ (zc3 w h))) rfl zt3_4 (List.mem_cons_of_mem _ zw2_14) rfl, List.forall_mem_cons.mpr ⟨zg_gp4 S (hK.2.1 11 _ rfl) (fun w h => (List.mem_cons_of_mem _ (zc11 w h))) rfl zt11_6 (List.mem_cons_of_mem _ zw2_59), List.forall_mem_cons.mpr ⟨zg_gp S (hK.2.1 10 _ rfl) (fun w h => (List.mem_cons_of_mem _ (zc10 w h))) rfl zt10_4 (List.mem_cons_of_mem _ zw1_225) rfl, List.forall_mem_cons.mpr ⟨zg_gp S (hK.2.1 11 _ rfl) (fun w h => (List.mem_cons_of_mem _ (zc11 w h))) rfl zt11_16 (List.mem_cons_of_mem _ zw2_69) rfl, List.forall_mem_cons.mpr ⟨zg_gp4 S (hK.2.1 11 _ rfl) (fun w h => (List.mem_cons_of_mem _ (zc11 w h))) rfl zt11_1 (List.mem_cons_of_mem _ zw2_54), List.forall_mem_cons.mpr ⟨zg_gp S (hK.2.1 8 _ rfl) (fun w h => (List.mem_cons_of_mem _ (zc8 w h))) rfl zt8_1 (List.mem_cons_of_mem _ zw1_81) rfl, fun _ h => absurd h List.not_mem_nil⟩⟩⟩⟩⟩⟩⟩⟩⟩⟩⟩⟩⟩⟩⟩,
    fun _ h => absurd h List.not_mem_nil,
    fun _ h => absurd h List.not_mem_nil,
    fun _ h => absurd h List.not_mem_nil,
    fun h => absurd rfl h,
    fun _ h => absurd h List.not_mem_nil,
    List.forall_mem_cons.mpr ⟨zg_callV (fun w h => List.mem_cons_of_mem _ h) zg_tb_all S hK zg_Km qm137 zw5_149 zy_yX11_inState_V (ci := 11) (by decide +kernel) (hK.2.1 11 _ rfl).2.1 ⟨rfl, rfl⟩ (by decide +kernel), List.forall_mem_cons.mpr ⟨zg_callV (fun w h => List.mem_cons_of_mem _ h) zg_tb_all S hK zg_Km qm137 zw5_149 zy_yX11_inState_V (ci := 11) (by decide +kernel) (hK.2.1 11 _ rfl).2.1 ⟨rfl, rfl⟩ (by decide +kernel), List.forall_mem_cons.mpr ⟨zg_callV (fun w h => List.mem_cons_of_mem _ h) zg_tb_all S hK zg_Km qm137 zw5_149 zy_yX11_inState_V (ci := 11) (by decide +kernel) (hK.2.1 11 _ rfl).2.1 ⟨rfl, rfl⟩ (by decide +kernel), List.forall_mem_cons.mpr ⟨zg_callV (fun w h => List.mem_cons_of_mem _ h) zg_tb_all S hK zg_Km qm137 zw5_149 zy_yX11_inState_V (ci := 11) (by decide +kernel) (hK.2.1 11 _ rfl).2.1 ⟨rfl, rfl⟩ (by decide +kernel), fun _ h => absurd h List.not_mem_nil⟩⟩⟩⟩⟩
set_option maxRecDepth 100000 in
def qR139 : Room := { frames := 1, cells := 0, slots := 0, locals := 20 }
set_option maxHeartbeats 4000000 in
set_option maxRecDepth 100000 in
theorem qm139 {l : Launch} {D : zk_D} {base : Nat} {Hb : Heap} : zk_Met l qK D base Hb (zg_K D base Hb) yX12_inState (Jvm.Cond.code yX12_inState prog_14_method_101_code 4 (some .int) :: zg_tb) qR139 qC139 := by
  refine zk_met (ws' := zg_tb) (P := qP139) (AT := zg_AT) (by decide +kernel) rfl rfl rfl qk139 (fun s hK => zg_wd hK) (fun p e s m args below meth c s₁ Q B hml hK => ?_) (fun p e s m args below meth c s₁ v G0 H0 B hml hK ha hp hF q hq => absurd hq List.not_mem_nil)
  have S : CallFix p m c prog_14_method_101_code 4 s args (Jvm.Cond.code yX12_inState prog_14_method_101_code 4 (some .int) :: zg_tb) RX12 := ⟨B.exec, B.bytes, hml, findClass_of_methodNamed B.named, atoms_spec (ws := Jvm.Cond.code yX12_inState prog_14_method_101_code 4 (some .int) :: zg_tb) B.pre⟩
  exact ⟨List.forall_mem_cons.mpr ⟨zg_gp S (hK.2.1 12 _ rfl) (fun w h => (List.mem_cons_of_mem _ (zc12 w h))) rfl zt12_44 (List.mem_cons_of_mem _ zw5_203) rfl, fun _ h => absurd h List.not_mem_nil⟩,
    fun _ h => absurd h List.not_mem_nil,
    fun _ h => absurd h List.not_mem_nil,
    fun _ h => absurd h List.not_mem_nil,
    fun h => absurd rfl h,
    fun _ h => absurd h List.not_mem_nil,
    fun _ h => absurd h List.not_mem_nil⟩
set_option maxRecDepth 100000 in
def qR140 : Room := { frames := 2, cells := 0, slots := 0, locals := 43 }
set_option maxHeartbeats 4000000 in
set_option maxRecDepth 100000 in
theorem qm140 {l : Launch} {D : zk_D} {base : Nat} {Hb : Heap} : zk_Met l qK D base Hb (zg_K D base Hb) yX12_count (Jvm.Cond.code yX12_count prog_14_method_102_code 2 (some .int) :: zg_tb) qR140 qC140 := by
  refine zk_met (ws' := zg_tb) (P := qP140) (AT := zg_AT) (by decide +kernel) rfl rfl rfl qk140 (fun s hK => zg_wd hK) (fun p e s m args below meth c s₁ Q B hml hK => ?_) (fun p e s m args below meth c s₁ v G0 H0 B hml hK ha hp hF q hq => absurd hq List.not_mem_nil)
  have S : CallFix p m c prog_14_method_102_code 2 s args (Jvm.Cond.code yX12_count prog_14_method_102_code 2 (some .int) :: zg_tb) RX12 := ⟨B.exec, B.bytes, hml, findClass_of_methodNamed B.named, atoms_spec (ws := Jvm.Cond.code yX12_count prog_14_method_102_code 2 (some .int) :: zg_tb) B.pre⟩
  exact ⟨List.forall_mem_cons.mpr ⟨zg_gp S (hK.2.1 12 _ rfl) (fun w h => (List.mem_cons_of_mem _ (zc12 w h))) rfl zt12_0 (List.mem_cons_of_mem _ zw5_159) rfl, List.forall_mem_cons.mpr ⟨zg_gp S (hK.2.1 12 _ rfl) (fun w h => (List.mem_cons_of_mem _ (zc12 w h))) rfl zt12_6 (List.mem_cons_of_mem _ zw5_165) rfl, List.forall_mem_cons.mpr ⟨zg_gp S (hK.2.1 12 _ rfl) (fun w h => (List.mem_cons_of_mem _ (zc12 w h))) rfl zt12_7 (List.mem_cons_of_mem _ zw5_166) rfl, List.forall_mem_cons.mpr ⟨zg_gp S (hK.2.1 12 _ rfl) (fun w h => (List.mem_cons_of_mem _ (zc12 w h))) rfl zt12_44 (List.mem_cons_of_mem _ zw5_203) rfl, List.forall_mem_cons.mpr ⟨zg_gp S (hK.2.1 12 _ rfl) (fun w h => (List.mem_cons_of_mem _ (zc12 w h))) rfl zt12_26 (List.mem_cons_of_mem _ zw5_185) rfl, List.forall_mem_cons.mpr ⟨zg_gp S (hK.2.1 12 _ rfl) (fun w h => (List.mem_cons_of_mem _ (zc12 w h))) rfl zt12_57 (List.mem_cons_of_mem _ zw5_216) rfl, List.forall_mem_cons.mpr ⟨zg_gp S (hK.2.1 12 _ rfl) (fun w h => (List.mem_cons_of_mem _ (zc12 w h))) rfl zt12_49 (List.mem_cons_of_mem _ zw5_208) rfl, List.forall_mem_cons.mpr ⟨zg_gp S (hK.2.1 12 _ rfl) (fun w h => (List.mem_cons_of_mem _ (zc12 w h))) rfl zt12_65 (List.mem_cons_of_mem _ zw5_224) rfl, List.forall_mem_cons.mpr ⟨zg_gp S (hK.2.1 12 _ rfl) (fun w h => (List.mem_cons_of_mem _ (zc12 w h))) rfl zt12_70 (List.mem_cons_of_mem _ zw5_229) rfl, List.forall_mem_cons.mpr ⟨zg_gp S (hK.2.1 12 _ rfl) (fun w h => (List.mem_cons_of_mem _ (zc12 w h))) rfl zt12_9 (List.mem_cons_of_mem _ zw5_168) rfl, fun _ h => absurd h List.not_mem_nil⟩⟩⟩⟩⟩⟩⟩⟩⟩⟩,
    fun _ h => absurd h List.not_mem_nil,
    fun _ h => absurd h List.not_mem_nil,
    fun _ h => absurd h List.not_mem_nil,
    fun h => absurd rfl h,
    fun _ h => absurd h List.not_mem_nil,
    List.forall_mem_cons.mpr ⟨zg_callV (fun w h => List.mem_cons_of_mem _ h) zg_tb_all S hK zg_Km qm139 zw8_53 zy_yX12_inState_V (ci := 12) (by decide +kernel) (hK.2.1 12 _ rfl).2.1 ⟨rfl, rfl⟩ (by decide +kernel), List.forall_mem_cons.mpr ⟨zg_callV (fun w h => List.mem_cons_of_mem _ h) zg_tb_all S hK zg_Km qm139 zw8_53 zy_yX12_inState_V (ci := 12) (by decide +kernel) (hK.2.1 12 _ rfl).2.1 ⟨rfl, rfl⟩ (by decide +kernel), List.forall_mem_cons.mpr ⟨zg_callV (fun w h => List.mem_cons_of_mem _ h) zg_tb_all S hK zg_Km qm139 zw8_53 zy_yX12_inState_V (ci := 12) (by decide +kernel) (hK.2.1 12 _ rfl).2.1 ⟨rfl, rfl⟩ (by decide +kernel), List.forall_mem_cons.mpr ⟨zg_callV (fun w h => List.mem_cons_of_mem _ h) zg_tb_all S hK zg_Km qm139 zw8_53 zy_yX12_inState_V (ci := 12) (by decide +kernel) (hK.2.1 12 _ rfl).2.1 ⟨rfl, rfl⟩ (by decide +kernel), fun _ h => absurd h List.not_mem_nil⟩⟩⟩⟩⟩
