/-! BY HAND -/
noncomputable section
set_option maxRecDepth 100000 in
theorem zq_pk13 {a b : Int} (h : a ≤ b + 0) : a ≤ b := by omega
set_option maxRecDepth 100000 in
theorem zq_qW : zq_row qK qn_pickWorth := ⟨by decide, by decide +kernel, by decide +kernel, by decide +kernel, by decide +kernel, (zk_kd qK qn_pickWorth).2.2.1.headD (3, 0, 0), by decide +kernel, by decide +kernel⟩
set_option maxRecDepth 100000 in
def qP29 : zk_P := ([], [], [], [], [], [], [])
set_option maxRecDepth 100000 in
def qX29 : zk_Hd := (0, zk_x0 qC29, [(0, none, none)], 0, 0)
set_option maxRecDepth 100000 in
theorem qk29 : zk_chk qK qP29 prog_14_method_12_code 9 qC29 (some .int) [] [qX29] 5 1 = true := by decide +kernel
set_option maxRecDepth 100000 in
theorem qh58_29 : zk_chf qK qP29 prog_14_method_12_code 9 qC29 (some .int) [] [] (58, zq_fdY qX29.2.1, [], 0, 0) 5 1 = true := by decide +kernel
set_option maxRecDepth 100000 in
theorem qh119_29 : zk_chf qK qP29 prog_14_method_12_code 9 qC29 (some .int) [] [] (119, zq_fdY qX29.2.1, [], 0, 0) 5 1 = true := by decide +kernel
set_option maxRecDepth 100000 in
theorem qo29 {p : Program} {l : Launch} {e : Env} {s : State} {m : MethodId} {args : Array Value} {below : List Frame} {meth : Method} {c : Code} {s₁ : State} {Q : State → Prop} {D : zk_D} {base : Nat} {Hb : Heap} (B : BodyLoose p l yX12_feed (headSpec (Jvm.Cond.code yX12_feed prog_14_method_12_code 9 (some .int) :: zg_tb) qR29) prog_14_method_12_code 9 (some .int) e s m args below meth c s₁) (hml : c.maxLocals = 9) (hK : zg_K D base Hb s) : zk_ok p l e (headSpec (Jvm.Cond.code yX12_feed prog_14_method_12_code 9 (some .int) :: zg_tb) qR29).room s m args below meth c Q qK D base Hb 9 prog_14_method_12_code qP29 qC29.2.2.2.2 := by
  have nil : ∀ {α : Type} {f : α → Prop}, ∀ q ∈ ([] : List α), f q := fun q h => absurd h List.not_mem_nil
  exact ⟨nil, nil, nil, nil, fun h => absurd rfl h, nil, nil⟩
set_option maxHeartbeats 4000000 in
set_option maxRecDepth 100000 in
theorem qm29 {l : Launch} {D : zk_D} {base : Nat} {Hb : Heap} : zk_Met l qK D base Hb (zg_K D base Hb) yX12_feed (Jvm.Cond.code yX12_feed prog_14_method_12_code 9 (some .int) :: zg_tb) qR29 qC29 :=
  zk_met (ws' := zg_tb) (P := qP29) (AT := zg_AT) (by decide +kernel) rfl rfl rfl qk29 (fun s hK => zg_wd hK) (fun p e s m args below meth c s₁ Q B hml hK => qo29 B hml hK) (fun p e s m args below meth c s₁ v G0 H0 B hml hK ha hp0 hF0 q hq G H locs ls vs v' hp he hl hF hL => by
    have hq := List.mem_singleton.mp hq
    subst hq
    have S : CallFix p m c prog_14_method_12_code 9 s args (Jvm.Cond.code yX12_feed prog_14_method_12_code 9 (some .int) :: zg_tb) RX12 := ⟨B.exec, B.bytes, hml, findClass_of_methodNamed B.named, atoms_spec (ws := (Jvm.Cond.code yX12_feed prog_14_method_12_code 9 (some .int) :: zg_tb)) B.pre⟩
    exact zq_fd_x (x := qX29.2.1) B.exec B.bytes (zg_wd hK) (qo29 B hml hK) rfl rfl B.returns B.notSynchronized (fun t h => h) (by decide +kernel) (zg_gp4 S (hK.2.1 12 _ rfl) (fun w h => (List.mem_cons_of_mem _ (zc12 w h))) rfl zt12_8 (List.mem_cons_of_mem _ zw5_167)).1 (zg_gp (ft := 0) S (hK.2.1 12 _ rfl) (fun w h => (List.mem_cons_of_mem _ (zc12 w h))) rfl zt12_9 (List.mem_cons_of_mem _ zw5_168) rfl).1 (zg_gp (ft := 0) S (hK.2.1 12 _ rfl) (fun w h => (List.mem_cons_of_mem _ (zc12 w h))) rfl zt12_9 (List.mem_cons_of_mem _ zw5_168) rfl).2 (fun a1 a2 a3 a4 a5 => ⟨zf_bo a1 a2 a3 a4 a5, fun k => zk_and_le _ 255 (by decide), fun {H2 locs2 ls2 pc k rest} hpc hcat hl2 hsz kk => by
      rcases hpc with rfl | rfl
      · exact zh_callS (As := [.int a1, .int a2, .int a3, .int a4, .int a5, .int k]) (rest := rest) (fun w h => List.mem_cons_of_mem _ h) zg_tb_all S hK zg_Km ⟨rfl, rfl⟩ (zh_byteOf (D := D) (Hb := Hb) a1 a2 a3 a4 a5 k) zw6_168 zy_yX12_byteOf_S rfl hsz hcat ⟨rfl, rfl⟩ (Nat.zero_le _) (Nat.zero_le _) (by decide +kernel : decode prog_14_method_12_code 24 = .ok (.invokestatic 177, 3)) hl2 (fun o H2 locs3 ho hl3 => by
          obtain ⟨rfl, rfl⟩ := ho
          exact kk locs3 hl3)
      · exact zh_callS (As := [.int a1, .int a2, .int a3, .int a4, .int a5, .int k]) (rest := rest) (fun w h => List.mem_cons_of_mem _ h) zg_tb_all S hK zg_Km ⟨rfl, rfl⟩ (zh_byteOf (D := D) (Hb := Hb) a1 a2 a3 a4 a5 k) zw6_168 zy_yX12_byteOf_S rfl hsz hcat ⟨rfl, rfl⟩ (Nat.zero_le _) (Nat.zero_le _) (by decide +kernel : decode prog_14_method_12_code 78 = .ok (.invokestatic 177, 3)) hl2 (fun o H2 locs3 ho hl3 => by
          obtain ⟨rfl, rfl⟩ := ho
          exact kk locs3 hl3)⟩) rfl rfl (by decide +kernel) (by decide +kernel) (by decide +kernel) (by decide +kernel) (by decide +kernel) (by decide +kernel) qh58_29 qh119_29 hp he hl hF hL)
set_option maxRecDepth 100000 in
def qP370 : zk_P := ([], [], [], [], [], [], [])
set_option maxRecDepth 100000 in
def qX370 : zk_Hd := (0, zk_x0 qC370, [(0, none, none)], 0, 0)
set_option maxRecDepth 100000 in
theorem qk370 : zk_chk qK qP370 prog_23_method_123_code 3 qC370 (some (.array .int)) [] [qX370] 5 1 = true := by decide +kernel
set_option maxRecDepth 100000 in
theorem qh13_370 : zk_chf qK qP370 prog_23_method_123_code 3 qC370 (some (.array .int)) [] [] (13, zq_cpY qK 124 qX370.2.1, [], 1, (320 : Int).toNat) 5 1 = true := by decide +kernel
set_option maxRecDepth 100000 in
theorem qh32_370 : zk_chf qK qP370 prog_23_method_123_code 3 qC370 (some (.array .int)) [] [] (32, zq_cpY qK 124 qX370.2.1, [], 1, (320 : Int).toNat) 5 1 = true := by decide +kernel
set_option maxRecDepth 100000 in
theorem qo370 {p : Program} {l : Launch} {e : Env} {s : State} {m : MethodId} {args : Array Value} {below : List Frame} {meth : Method} {c : Code} {s₁ : State} {Q : State → Prop} {D : zk_D} {base : Nat} {Hb : Heap} (B : BodyLoose p l yJ7_copyOf_59c91 (headSpec (Jvm.Cond.code yJ7_copyOf_59c91 prog_23_method_123_code 3 (some (.array .int)) :: zg_tb) qR370) prog_23_method_123_code 3 (some (.array .int)) e s m args below meth c s₁) (hml : c.maxLocals = 3) (hK : zg_K D base Hb s) : zk_ok p l e (headSpec (Jvm.Cond.code yJ7_copyOf_59c91 prog_23_method_123_code 3 (some (.array .int)) :: zg_tb) qR370).room s m args below meth c Q qK D base Hb 3 prog_23_method_123_code qP370 qC370.2.2.2.2 := by
  have nil : ∀ {α : Type} {f : α → Prop}, ∀ q ∈ ([] : List α), f q := fun q h => absurd h List.not_mem_nil
  exact ⟨nil, nil, nil, nil, fun h => absurd rfl h, nil, nil⟩
set_option maxRecDepth 100000 in
theorem qm370 {l : Launch} {D : zk_D} {base : Nat} {Hb : Heap} : zk_Met l qK D base Hb (zg_K D base Hb) yJ7_copyOf_59c91 (Jvm.Cond.code yJ7_copyOf_59c91 prog_23_method_123_code 3 (some (.array .int)) :: zg_tb) qR370 qC370 :=
  zk_met (ws' := zg_tb) (P := qP370) (AT := zg_AT) (by decide +kernel) rfl rfl rfl qk370 (fun s hK => zg_wd hK) (fun p e s m args below meth c s₁ Q B hml hK => qo370 B hml hK) (fun p e s m args below meth c s₁ v G0 H0 B hml hK ha hp0 hF0 q hq G H locs ls vs v' hp he hl hF hL => by
    have hq := List.mem_singleton.mp hq
    subst hq
    have S : CallFix p m c prog_23_method_123_code 3 s args (Jvm.Cond.code yJ7_copyOf_59c91 prog_23_method_123_code 3 (some (.array .int)) :: zg_tb) RJ7 := ⟨B.exec, B.bytes, hml, findClass_of_methodNamed B.named, atoms_spec (ws := (Jvm.Cond.code yJ7_copyOf_59c91 prog_23_method_123_code 3 (some (.array .int)) :: zg_tb)) B.pre⟩
    have hnm : s.vm.findClass "[I" = some (D.2.2.1 0) := by
      have h := hK.2.2.2.1 (0, _) (List.mem_of_getElem? (i := 0) rfl)
      rw [show "[" ++ Jvm.ClassFile.FieldType.int.toString = "[I" from by decide +kernel] at h
      exact h
    exact zq_cp_x (x := qX370.2.1) (kS := 20) (kD := 124) (b := 0) (tD := 0) (iC := 316) (iT := 317) (iM := 304) (iA := 150) (d := 0) (hi := 320) (own := RJ7) (ad := "[I") (ty := .int) (at1 := .int) B.exec B.bytes hml rfl (zg_wd hK) (qo370 B hml hK) rfl rfl B.returns B.notSynchronized (fun t h => h) S.2.2.2.1 (Nat.le_of_ble_eq_true rfl) (Nat.le_of_ble_eq_true rfl) rfl rfl (S.2.2.2.2 _ (List.mem_cons_of_mem _ zw3_88)) (S.2.2.2.2 _ (List.mem_cons_of_mem _ zw3_89)) (S.2.2.2.2 _ (List.mem_cons_of_mem _ zw3_90)) (S.2.2.2.2 _ (List.mem_cons_of_mem _ zw3_91)) (S.2.2.2.2 _ (List.mem_cons_of_mem _ zw3_92)) (va_Nw.use rfl (hK.1.1.2 _ List.mem_cons_self)) (S.2.2.2.2 _ (List.mem_cons_of_mem _ zw3_94)) (S.2.2.2.2 _ (List.mem_cons_of_mem _ zw3_95)) (S.2.2.2.2 _ (List.mem_cons_of_mem _ zw2_211)) (S.2.2.2.2 _ (List.mem_cons_of_mem _ zw1_15)) (S.2.2.2.2 _ (List.mem_cons_of_mem _ zw2_212)) (S.2.2.2.2 _ (List.mem_cons_of_mem _ zw3_96)) (S.2.2.2.2 _ (List.mem_cons_of_mem _ zw3_98)) (S.2.2.2.2 _ (List.mem_cons_of_mem _ zw3_97)) (S.2.2.2.2 _ (List.mem_cons_of_mem _ zw1_20)) (hK.2.2.1 0 _ rfl) hnm rfl (fun w h => by
      obtain ⟨z, rfl⟩ : ∃ z : Int32, w = .int z := h
      rfl) (⟨0, rfl⟩ : ∃ z : Int32, zk_dv 0 = .int z) (zg_nak (atype := .int) S (hK.2.2.2.1 (0, _) (List.mem_of_getElem? (i := 0) rfl)) (List.mem_cons_of_mem _ zw1_70) (by decide +kernel) rfl rfl) (by decide +kernel) (by decide +kernel) (by decide +kernel) (by decide +kernel) (by decide +kernel) (by decide +kernel) (by decide +kernel) (by decide +kernel) (by decide +kernel) (by decide +kernel) (by decide +kernel) (by decide +kernel) (by decide +kernel) (by decide +kernel) (by decide +kernel) (by decide +kernel) (by decide +kernel) (by decide +kernel) (by decide +kernel) (by decide) (by decide +kernel) (by decide +kernel) (by decide +kernel) ⟨(zk_kd qK 20).2.2.1.headD (3, 0, 0), (by decide +kernel), fun G a w h => by
      obtain ⟨z, e, -, -⟩ := zk_gi h.1 (by decide +kernel)
      exact ⟨z, e⟩⟩ (by decide) (by decide +kernel) (by decide +kernel) (by decide +kernel) (by decide +kernel) (by decide +kernel) (by decide +kernel) (fun t ht G a w h => by
      have e : t = zk_I := Option.some.inj (ht.symm.trans (by decide +kernel))
      subst e
      obtain ⟨z, rfl⟩ : ∃ z : Int32, w = .int z := h
      exact ⟨zk_tv_I z, fun q => by cases q⟩) (by decide) rfl (by decide +kernel) (by decide +kernel) (by decide +kernel) (by decide +kernel) qh13_370 qh32_370 hp he hl hF hL)
set_option maxRecDepth 100000 in
theorem zh_pci {l : Launch} {D : zk_D} {base : Nat} {Hb H : Heap} (i n : Int32) (w : Value) (hw : w = .null ∨ ∃ a, w = .ref a) (h0 : 0 ≤ i.toInt) (h1 : i.toInt < n.toInt) : zh_Met l base (zg_K D base Hb) yJ3_checkIndex_8e157 (Jvm.Cond.code yJ3_checkIndex_8e157 prog_24_method_11_code 3 (some .int) :: zg_tb) { frames := 1, cells := 0, slots := 0, locals := 20 } [.int i, .int n, w] H (fun ov H' => ov = some (.int i) ∧ H' = H) := by
  refine Met.ofW (cc := prog_24_method_11_code) (maxL := 3) (ret := (some .int)) (by decide +kernel) rfl ?_
  intro p e s m args below meth c s₁ B hml hv
  obtain ⟨rfl, hH, hK⟩ := hv
  subst hH
  have hx := B.exec
  have hb := B.bytes
  have hr := B.returns
  have hlocks := B.notSynchronized
  rcases hw with rfl | ⟨a, rfl⟩
  · have hl := lv_entry ([.int i, .int n, .null]) (n := 3) (Nat.le_of_ble_eq_true rfl)
    rw [lg_entry_eq]
    generalize (lg_sl ([.int i, .int n, .null]) ++ List.replicate (3 - (lg_sl ([.int i, .int n, .null])).length) Slot.unset).toArray = ls at hl ⊢
    have hl : lv_has ls 3 [(0, .int i), (1, .int n), (2, .null)] := hl
    refine lv_iload_n hx hb (by decide +kernel : decode prog_24_method_11_code 0 = .ok (.iload_n 0, 1)) rfl (lv_at hl 0 rfl) ?_
    refine lv_if_lt (tgt := 9) hx hb (by decide +kernel : decode prog_24_method_11_code 1 = .ok (.ifCond .lt 8, 3)) (by decide) (fun hc => absurd (Int32.lt_iff_toInt_lt.mp hc) (Int.not_lt.mpr h0)) (fun _ => ?_)
    refine lv_iload_n hx hb (by decide +kernel : decode prog_24_method_11_code 4 = .ok (.iload_n 0, 1)) rfl (lv_at hl 0 rfl) (lv_iload_n hx hb (by decide +kernel : decode prog_24_method_11_code 5 = .ok (.iload_n 1, 1)) rfl (lv_at hl 1 rfl) ?_)
    refine lv_icmp_lt (tgt := 16) hx hb (by decide +kernel : decode prog_24_method_11_code 6 = .ok (.if_icmp .lt 10, 3)) (by decide) (fun _ => ?_) (fun hc => absurd (Int32.lt_iff_toInt_lt.mpr h1) hc)
    refine lv_iload_n hx hb (by decide +kernel : decode prog_24_method_11_code 16 = .ok (.iload_n 0, 1)) rfl (lv_at hl 0 rfl) ?_
    exact W.iret hx hb hr (fun t ht _ => ⟨_, rfl, rfl, ht⟩) (fun q hq => absurd hq List.not_mem_nil) (by decide +kernel : decode prog_24_method_11_code 17 = .ok (.ireturn, 1))
  · have hl := lv_entry ([.int i, .int n, .ref a]) (n := 3) (Nat.le_of_ble_eq_true rfl)
    rw [lg_entry_eq]
    generalize (lg_sl ([.int i, .int n, .ref a]) ++ List.replicate (3 - (lg_sl ([.int i, .int n, .ref a])).length) Slot.unset).toArray = ls at hl ⊢
    have hl : lv_has ls 3 [(0, .int i), (1, .int n), (2, .ref a)] := hl
    refine lv_iload_n hx hb (by decide +kernel : decode prog_24_method_11_code 0 = .ok (.iload_n 0, 1)) rfl (lv_at hl 0 rfl) ?_
    refine lv_if_lt (tgt := 9) hx hb (by decide +kernel : decode prog_24_method_11_code 1 = .ok (.ifCond .lt 8, 3)) (by decide) (fun hc => absurd (Int32.lt_iff_toInt_lt.mp hc) (Int.not_lt.mpr h0)) (fun _ => ?_)
    refine lv_iload_n hx hb (by decide +kernel : decode prog_24_method_11_code 4 = .ok (.iload_n 0, 1)) rfl (lv_at hl 0 rfl) (lv_iload_n hx hb (by decide +kernel : decode prog_24_method_11_code 5 = .ok (.iload_n 1, 1)) rfl (lv_at hl 1 rfl) ?_)
    refine lv_icmp_lt (tgt := 16) hx hb (by decide +kernel : decode prog_24_method_11_code 6 = .ok (.if_icmp .lt 10, 3)) (by decide) (fun _ => ?_) (fun hc => absurd (Int32.lt_iff_toInt_lt.mpr h1) hc)
    refine lv_iload_n hx hb (by decide +kernel : decode prog_24_method_11_code 16 = .ok (.iload_n 0, 1)) rfl (lv_at hl 0 rfl) ?_
    exact W.iret hx hb hr (fun t ht _ => ⟨_, rfl, rfl, ht⟩) (fun q hq => absurd hq List.not_mem_nil) (by decide +kernel : decode prog_24_method_11_code 17 = .ok (.ireturn, 1))
set_option maxRecDepth 100000 in
def qP452 : zk_P := ([], [], [], [], [], [], [])
set_option maxRecDepth 100000 in
def qX452 : zk_Hd := (0, zk_x0 qC452, [(0, none, none)], 0, 0)
set_option maxRecDepth 100000 in
theorem qk452 : zk_chk qK qP452 prog_19_method_155_code 2 qC452 none [] [qX452] 5 1 = true := by decide +kernel
set_option maxRecDepth 100000 in
theorem qh452 : zk_chf qK qP452 prog_19_method_155_code 2 qC452 none [] [] (9, qX452.2.1, [], 0, 0) 5 1 = true := by decide +kernel
set_option maxRecDepth 100000 in
theorem qo452 {p : Program} {l : Launch} {e : Env} {s : State} {m : MethodId} {args : Array Value} {below : List Frame} {meth : Method} {c : Code} {s₁ : State} {Q : State → Prop} {D : zk_D} {base : Nat} {Hb : Heap} (B : BodyLoose p l yJ0_checkIndex_df160 (headSpec (Jvm.Cond.code yJ0_checkIndex_df160 prog_19_method_155_code 2 none :: zg_tb) qR452) prog_19_method_155_code 2 none e s m args below meth c s₁) (hml : c.maxLocals = 2) (hK : zg_K D base Hb s) : zk_ok p l e (headSpec (Jvm.Cond.code yJ0_checkIndex_df160 prog_19_method_155_code 2 none :: zg_tb) qR452).room s m args below meth c Q qK D base Hb 2 prog_19_method_155_code qP452 qC452.2.2.2.2 := by
  have nil : ∀ {α : Type} {f : α → Prop}, ∀ q ∈ ([] : List α), f q := fun q h => absurd h List.not_mem_nil
  exact ⟨nil, nil, nil, nil, fun h => absurd rfl h, nil, nil⟩
set_option maxRecDepth 100000 in
theorem qm452 {l : Launch} {D : zk_D} {base : Nat} {Hb : Heap} : zk_Met l qK D base Hb (zg_K D base Hb) yJ0_checkIndex_df160 (Jvm.Cond.code yJ0_checkIndex_df160 prog_19_method_155_code 2 none :: zg_tb) qR452 qC452 :=
  zk_met (ws' := zg_tb) (P := qP452) (AT := zg_AT) (by decide +kernel) rfl rfl rfl qk452 (fun s hK => zg_wd hK) (fun p e s m args below meth c s₁ Q B hml hK => qo452 B hml hK) (fun p e s m args below meth c s₁ v G0 H0 B hml hK ha hp0 hF0 q hq G H locs ls vs v' hp he hl hF hL => by
    have hq := List.mem_singleton.mp hq
    subst hq
    have hx := B.exec
    have hb := B.bytes
    have S : CallFix p m c prog_19_method_155_code 2 s args (Jvm.Cond.code yJ0_checkIndex_df160 prog_19_method_155_code 2 none :: zg_tb) RJ0 := ⟨B.exec, B.bytes, hml, findClass_of_methodNamed B.named, atoms_spec (ws := (Jvm.Cond.code yJ0_checkIndex_df160 prog_19_method_155_code 2 none :: zg_tb)) B.pre⟩
    obtain ⟨e1, -⟩ := zk_LS_stk hL
    obtain ⟨hloc, -⟩ := zk_LS_loc hL
    obtain ⟨iv, ei, i1, -⟩ := zk_gi (zk_F_ty hF 0) rfl
    obtain ⟨nv, en, -, -⟩ := zk_gi (zk_F_ty hF 1) rfl
    have i0 : 0 ≤ iv.toInt := i1
    have hlt := zk_F_le hF (k := 3) (y := 0) (z := 1) (c := -1) (by decide +kernel)
    rw [ei, en] at hlt
    have hlt : iv.toInt < nv.toInt := zq_ar8 hlt
    have hvs : vs = [] := by rw [e1]; rfl
    subst hvs
    have hls : lv_has ls 2 [(0, .int iv), (1, .int nv)] := by
      have h2 : lv_has ls 2 [(0, v' 0), (1, v' 1)] := hloc
      rw [ei, en] at h2
      exact h2
    obtain ⟨w, hw, cf, kf, fi, fd, a, cell, k1, k2, k3, k4, k5, k6, k7, k8⟩ := hK.2.2.2.2.2.2.2.2.2.2.2
    refine lv_iload_n hx hb (by decide +kernel : decode prog_19_method_155_code 0 = .ok (.iload_n 0, 1)) rfl (lv_at hls 0 rfl) (lv_iload_n hx hb (by decide +kernel : decode prog_19_method_155_code 1 = .ok (.iload_n 1, 1)) rfl (lv_at hls 1 rfl) ?_)
    refine W.gets hx hb S.2.2.2.1 (S.2.2.2.2 _ (List.mem_cons_of_mem _ zw2_234)) k1 k2 k3 k4 (by rw [hp.2.1 a (Nat.not_le.mp k8)]; exact k5) (fun e => by rw [e] at k6; cases k6) k7 rfl (by decide +kernel : decode prog_19_method_155_code 2 = .ok (.getstatic 1053, 3)) ?_
    refine zh_callS (As := [.int iv, .int nv, w]) (rest := []) (fun w h => List.mem_cons_of_mem _ h) zg_tb_all S hK zg_Km ⟨rfl, rfl⟩ (zh_pci iv nv w hw i0 hlt) zw4_71 zy_yJ3_checkIndex_8e157_S rfl hls.1 rfl ⟨rfl, rfl⟩ (Nat.zero_le _) (Nat.zero_le _) (by decide +kernel : decode prog_19_method_155_code 5 = .ok (.invokestatic 1059, 3)) hl (fun o H2 locs2 ho hl2 => ?_)
    obtain ⟨rfl, rfl⟩ := ho
    refine lv_pop hx hb (by decide +kernel : decode prog_19_method_155_code 8 = .ok (.pop, 1)) rfl ?_
    exact zk_from (q0 := (9, qX452.2.1, [], 0, 0)) (hd := []) (xs := []) hx hb (zg_wd hK) (qo452 B hml hK) rfl rfl B.returns B.notSynchronized (fun t h => h) qh452 (fun q hq => absurd hq List.not_mem_nil) hp he hl2 hF hL)
set_option maxRecDepth 100000 in
def qP457 : zk_P := ([], [], [], [], [], [], [])
set_option maxRecDepth 100000 in
def qX457 : zk_Hd := (0, zk_x0 qC457, [(0, none, none)], 0, 0)
set_option maxRecDepth 100000 in
theorem qk457 : zk_chk qK qP457 prog_23_method_124_code 3 qC457 (some (.array .long)) [] [qX457] 5 1 = true := by decide +kernel
set_option maxRecDepth 100000 in
theorem qh13_457 : zk_chf qK qP457 prog_23_method_124_code 3 qC457 (some (.array .long)) [] [] (13, zq_cpY qK 111 qX457.2.1, [], 1, (160 : Int).toNat) 5 1 = true := by decide +kernel
set_option maxRecDepth 100000 in
theorem qh32_457 : zk_chf qK qP457 prog_23_method_124_code 3 qC457 (some (.array .long)) [] [] (32, zq_cpY qK 111 qX457.2.1, [], 1, (160 : Int).toNat) 5 1 = true := by decide +kernel
set_option maxRecDepth 100000 in
theorem qo457 {p : Program} {l : Launch} {e : Env} {s : State} {m : MethodId} {args : Array Value} {below : List Frame} {meth : Method} {c : Code} {s₁ : State} {Q : State → Prop} {D : zk_D} {base : Nat} {Hb : Heap} (B : BodyLoose p l yJ7_copyOf_c38d5 (headSpec (Jvm.Cond.code yJ7_copyOf_c38d5 prog_23_method_124_code 3 (some (.array .long)) :: zg_tb) qR457) prog_23_method_124_code 3 (some (.array .long)) e s m args below meth c s₁) (hml : c.maxLocals = 3) (hK : zg_K D base Hb s) : zk_ok p l e (headSpec (Jvm.Cond.code yJ7_copyOf_c38d5 prog_23_method_124_code 3 (some (.array .long)) :: zg_tb) qR457).room s m args below meth c Q qK D base Hb 3 prog_23_method_124_code qP457 qC457.2.2.2.2 := by
  have nil : ∀ {α : Type} {f : α → Prop}, ∀ q ∈ ([] : List α), f q := fun q h => absurd h List.not_mem_nil
  exact ⟨nil, nil, nil, nil, fun h => absurd rfl h, nil, nil⟩
set_option maxRecDepth 100000 in
theorem qm457 {l : Launch} {D : zk_D} {base : Nat} {Hb : Heap} : zk_Met l qK D base Hb (zg_K D base Hb) yJ7_copyOf_c38d5 (Jvm.Cond.code yJ7_copyOf_c38d5 prog_23_method_124_code 3 (some (.array .long)) :: zg_tb) qR457 qC457 :=
  zk_met (ws' := zg_tb) (P := qP457) (AT := zg_AT) (by decide +kernel) rfl rfl rfl qk457 (fun s hK => zg_wd hK) (fun p e s m args below meth c s₁ Q B hml hK => qo457 B hml hK) (fun p e s m args below meth c s₁ v G0 H0 B hml hK ha hp0 hF0 q hq G H locs ls vs v' hp he hl hF hL => by
    have hq := List.mem_singleton.mp hq
    subst hq
    have S : CallFix p m c prog_23_method_124_code 3 s args (Jvm.Cond.code yJ7_copyOf_c38d5 prog_23_method_124_code 3 (some (.array .long)) :: zg_tb) RJ7 := ⟨B.exec, B.bytes, hml, findClass_of_methodNamed B.named, atoms_spec (ws := (Jvm.Cond.code yJ7_copyOf_c38d5 prog_23_method_124_code 3 (some (.array .long)) :: zg_tb)) B.pre⟩
    have hnm : s.vm.findClass "[J" = some (D.2.2.1 1) := by
      have h := hK.2.2.2.1 (1, _) (List.mem_of_getElem? (i := 1) rfl)
      rw [show "[" ++ Jvm.ClassFile.FieldType.long.toString = "[J" from by decide +kernel] at h
      exact h
    exact zq_cp_x (x := qX457.2.1) (kS := 17) (kD := 111) (b := 1) (tD := 1) (iC := 319) (iT := 320) (iM := 304) (iA := 150) (d := 1) (hi := 160) (own := RJ7) (ad := "[J") (ty := .long) (at1 := .long) B.exec B.bytes hml rfl (zg_wd hK) (qo457 B hml hK) rfl rfl B.returns B.notSynchronized (fun t h => h) S.2.2.2.1 (Nat.le_of_ble_eq_true rfl) (Nat.le_of_ble_eq_true rfl) rfl rfl (S.2.2.2.2 _ (List.mem_cons_of_mem _ zw4_84)) (S.2.2.2.2 _ (List.mem_cons_of_mem _ zw4_85)) (S.2.2.2.2 _ (List.mem_cons_of_mem _ zw3_90)) (S.2.2.2.2 _ (List.mem_cons_of_mem _ zw3_91)) (S.2.2.2.2 _ (List.mem_cons_of_mem _ zw4_86)) (va_Nw.use rfl (hK.1.1.2 _ (List.mem_cons_of_mem _ List.mem_cons_self))) (S.2.2.2.2 _ (List.mem_cons_of_mem _ zw4_88)) (S.2.2.2.2 _ (List.mem_cons_of_mem _ zw3_95)) (S.2.2.2.2 _ (List.mem_cons_of_mem _ zw2_211)) (S.2.2.2.2 _ (List.mem_cons_of_mem _ zw1_15)) (S.2.2.2.2 _ (List.mem_cons_of_mem _ zw2_212)) (S.2.2.2.2 _ (List.mem_cons_of_mem _ zw3_96)) (S.2.2.2.2 _ (List.mem_cons_of_mem _ zw3_98)) (S.2.2.2.2 _ (List.mem_cons_of_mem _ zw3_97)) (S.2.2.2.2 _ (List.mem_cons_of_mem _ zw1_20)) (hK.2.2.1 1 _ rfl) hnm rfl (fun w h => by
      obtain ⟨z, rfl⟩ : ∃ z : Int64, w = .long z := h
      rfl) (⟨0, rfl⟩ : ∃ z : Int64, zk_dv 1 = .long z) (zg_nak (atype := .long) S (hK.2.2.2.1 (1, _) (List.mem_of_getElem? (i := 1) rfl)) (List.mem_cons_of_mem _ zw1_109) (by decide +kernel) rfl rfl) (by decide +kernel) (by decide +kernel) (by decide +kernel) (by decide +kernel) (by decide +kernel) (by decide +kernel) (by decide +kernel) (by decide +kernel) (by decide +kernel) (by decide +kernel) (by decide +kernel) (by decide +kernel) (by decide +kernel) (by decide +kernel) (by decide +kernel) (by decide +kernel) (by decide +kernel) (by decide +kernel) (by decide +kernel) (by decide) (by decide +kernel) (by decide +kernel) (by decide +kernel) ⟨(zk_kd qK 17).2.2.1.headD (3, 0, 0), (by decide +kernel), fun G a w h => by
      obtain ⟨z, e, -, -⟩ := zk_gl h.1 (by decide +kernel)
      exact ⟨z, e⟩⟩ (by decide) (by decide +kernel) (by decide +kernel) (by decide +kernel) (by decide +kernel) (by decide +kernel) (by decide +kernel) (fun t ht G a w h => by
      have e : t = ((1, -9223372036854775808, 9223372036854775807) : zk_T) := Option.some.inj (ht.symm.trans (by decide +kernel))
      subst e
      obtain ⟨z, rfl⟩ : ∃ z : Int64, w = .long z := h
      exact ⟨⟨z, rfl, (zk_rngL z).1, (zk_rngL z).2⟩, fun q => by cases q⟩) (by decide) rfl (by decide +kernel) (by decide +kernel) (by decide +kernel) (by decide +kernel) qh13_457 qh32_457 hp he hl hF hL)
set_option maxRecDepth 100000 in
def qP459 : zk_P := ([], [], [], [], [], [], [])
set_option maxRecDepth 100000 in
def qX459 : zk_Hd := (0, zk_x0 qC459, [(0, none, none)], 0, 0)
set_option maxRecDepth 100000 in
theorem qk459 : zk_chk qK qP459 prog_18_method_52_code 6 qC459 (some .long) [] [qX459] 5 1 = true := by decide +kernel
set_option maxRecDepth 100000 in
theorem qh24_459 : zk_chf qK qP459 prog_18_method_52_code 6 qC459 (some .long) [] [] (24, zk_pu qX459.2.1 [] (1, 0, 250) [] [], [], 0, 0) 5 1 = true := by decide +kernel
set_option maxRecDepth 100000 in
theorem qh27_459 : zk_chf qK qP459 prog_18_method_52_code 6 qC459 (some .long) [] [] (27, zk_pu qX459.2.1 [] (1, 0, 250) [] [], [], 0, 0) 5 1 = true := by decide +kernel
set_option maxRecDepth 100000 in
theorem qd_fm_0 : decode prog_18_method_52_code 0 = .ok (.lload_n 0, 1) := by decide +kernel
set_option maxRecDepth 100000 in
theorem qd_fm_1 : decode prog_18_method_52_code 1 = .ok (.lload_n 2, 1) := by decide +kernel
set_option maxRecDepth 100000 in
theorem qd_fm_2 : decode prog_18_method_52_code 2 = .ok (.lrem, 1) := by decide +kernel
set_option maxRecDepth 100000 in
theorem qd_fm_3 : decode prog_18_method_52_code 3 = .ok (.lstore 4, 2) := by decide +kernel
set_option maxRecDepth 100000 in
theorem qd_fm_5 : decode prog_18_method_52_code 5 = .ok (.lload_n 0, 1) := by decide +kernel
set_option maxRecDepth 100000 in
theorem qd_fm_6 : decode prog_18_method_52_code 6 = .ok (.lload_n 2, 1) := by decide +kernel
set_option maxRecDepth 100000 in
theorem qd_fm_7 : decode prog_18_method_52_code 7 = .ok (.lxor, 1) := by decide +kernel
set_option maxRecDepth 100000 in
theorem qd_fm_8 : decode prog_18_method_52_code 8 = .ok (.lconst 0, 1) := by decide +kernel
set_option maxRecDepth 100000 in
theorem qd_fm_9 : decode prog_18_method_52_code 9 = .ok (.lcmp, 1) := by decide +kernel
set_option maxRecDepth 100000 in
theorem qd_fm_10 : decode prog_18_method_52_code 10 = .ok (.ifCond .ge 15, 3) := by decide +kernel
set_option maxRecDepth 100000 in
theorem qd_fm_13 : decode prog_18_method_52_code 13 = .ok (.lload 4, 2) := by decide +kernel
set_option maxRecDepth 100000 in
theorem qd_fm_15 : decode prog_18_method_52_code 15 = .ok (.lconst 0, 1) := by decide +kernel
set_option maxRecDepth 100000 in
theorem qd_fm_16 : decode prog_18_method_52_code 16 = .ok (.lcmp, 1) := by decide +kernel
set_option maxRecDepth 100000 in
theorem qd_fm_17 : decode prog_18_method_52_code 17 = .ok (.ifCond .eq 8, 3) := by decide +kernel
set_option maxRecDepth 100000 in
theorem qd_fm_20 : decode prog_18_method_52_code 20 = .ok (.lload 4, 2) := by decide +kernel
set_option maxRecDepth 100000 in
theorem qd_fm_22 : decode prog_18_method_52_code 22 = .ok (.lload_n 2, 1) := by decide +kernel
set_option maxRecDepth 100000 in
theorem qd_fm_23 : decode prog_18_method_52_code 23 = .ok (.ladd, 1) := by decide +kernel
set_option maxRecDepth 100000 in
theorem qd_fm_25 : decode prog_18_method_52_code 25 = .ok (.lload 4, 2) := by decide +kernel
set_option maxRecDepth 100000 in
theorem qo459 {p : Program} {l : Launch} {e : Env} {s : State} {m : MethodId} {args : Array Value} {below : List Frame} {meth : Method} {c : Code} {s₁ : State} {Q : State → Prop} {D : zk_D} {base : Nat} {Hb : Heap} (B : BodyLoose p l yJ9_floorMod_f86c9 (headSpec (Jvm.Cond.code yJ9_floorMod_f86c9 prog_18_method_52_code 6 (some .long) :: zg_tb) qR459) prog_18_method_52_code 6 (some .long) e s m args below meth c s₁) (hml : c.maxLocals = 6) (hK : zg_K D base Hb s) : zk_ok p l e (headSpec (Jvm.Cond.code yJ9_floorMod_f86c9 prog_18_method_52_code 6 (some .long) :: zg_tb) qR459).room s m args below meth c Q qK D base Hb 6 prog_18_method_52_code qP459 qC459.2.2.2.2 := by
  have nil : ∀ {α : Type} {f : α → Prop}, ∀ q ∈ ([] : List α), f q := fun q h => absurd h List.not_mem_nil
  exact ⟨nil, nil, nil, nil, fun h => absurd rfl h, nil, nil⟩
set_option maxRecDepth 100000 in
theorem qm459 {l : Launch} {D : zk_D} {base : Nat} {Hb : Heap} : zk_Met l qK D base Hb (zg_K D base Hb) yJ9_floorMod_f86c9 (Jvm.Cond.code yJ9_floorMod_f86c9 prog_18_method_52_code 6 (some .long) :: zg_tb) qR459 qC459 :=
  zk_metF (ws' := zg_tb) (P := qP459) (AT := zg_AT) (by decide +kernel) rfl rfl rfl qk459 (fun s hK => zg_wd hK) (fun p e s m args below meth c s₁ Q B hml hK => qo459 B hml hK) (fun p e s m args below meth c s₁ v G0 H0 B hml hK ha hp0 hF0 q hq G H locs ls vs v' hp he hl hF hL => by
    have hq := List.mem_singleton.mp hq
    subst hq
    exact zq_fm_x (x := qX459.2.1) B.exec B.bytes (zg_wd hK) (qo459 B hml hK) rfl rfl B.returns B.notSynchronized (fun t h => h) qd_fm_0 qd_fm_1 qd_fm_2 qd_fm_3 qd_fm_5 qd_fm_6 qd_fm_7 qd_fm_8 qd_fm_9 qd_fm_10 qd_fm_13 qd_fm_15 qd_fm_16 qd_fm_17 qd_fm_20 qd_fm_22 qd_fm_23 qd_fm_25 rfl rfl rfl (by decide +kernel) (by decide +kernel) qh24_459 qh27_459 hp he hl hF hL)
set_option maxRecDepth 100000 in
theorem qd_pick_0 : decode prog_9_method_6_code 0 = .ok (.aload_n 0, 1) := by decide +kernel
set_option maxRecDepth 100000 in
theorem qd_pick_1 : decode prog_9_method_6_code 1 = .ok (.getfield 46, 3) := by decide +kernel
set_option maxRecDepth 100000 in
theorem qd_pick_4 : decode prog_9_method_6_code 4 = .ok (.istore_n 3, 1) := by decide +kernel
set_option maxRecDepth 100000 in
theorem qd_pick_5 : decode prog_9_method_6_code 5 = .ok (.iload_n 3, 1) := by decide +kernel
set_option maxRecDepth 100000 in
theorem qd_pick_6 : decode prog_9_method_6_code 6 = .ok (.ifCond .le 27, 3) := by decide +kernel
set_option maxRecDepth 100000 in
theorem qd_pick_9 : decode prog_9_method_6_code 9 = .ok (.aload_n 0, 1) := by decide +kernel
set_option maxRecDepth 100000 in
theorem qd_pick_10 : decode prog_9_method_6_code 10 = .ok (.getfield 9, 3) := by decide +kernel
set_option maxRecDepth 100000 in
theorem qd_pick_13 : decode prog_9_method_6_code 13 = .ok (.iload_n 3, 1) := by decide +kernel
set_option maxRecDepth 100000 in
theorem qd_pick_14 : decode prog_9_method_6_code 14 = .ok (.iconst 1, 1) := by decide +kernel
set_option maxRecDepth 100000 in
theorem qd_pick_15 : decode prog_9_method_6_code 15 = .ok (.isub, 1) := by decide +kernel
set_option maxRecDepth 100000 in
theorem qd_pick_16 : decode prog_9_method_6_code 16 = .ok (.iaload, 1) := by decide +kernel
set_option maxRecDepth 100000 in
theorem qd_pick_20 : decode prog_9_method_6_code 20 = .ok (.iload_n 1, 1) := by decide +kernel
set_option maxRecDepth 100000 in
theorem qd_pick_24 : decode prog_9_method_6_code 24 = .ok (.if_icmp .ge 9, 3) := by decide +kernel
set_option maxRecDepth 100000 in
theorem qd_pick_27 : decode prog_9_method_6_code 27 = .ok (.iinc 3 (-1), 3) := by decide +kernel
set_option maxRecDepth 100000 in
theorem qd_pick_30 : decode prog_9_method_6_code 30 = .ok (.goto (-25), 3) := by decide +kernel
set_option maxRecDepth 100000 in
theorem qd_pick_33 : decode prog_9_method_6_code 33 = .ok (.iload_n 3, 1) := by decide +kernel
set_option maxRecDepth 100000 in
theorem qd_pick_34 : decode prog_9_method_6_code 34 = .ok (.iconst 5, 1) := by decide +kernel
set_option maxRecDepth 100000 in
theorem qd_pick_35 : decode prog_9_method_6_code 35 = .ok (.if_icmp .lt 4, 3) := by decide +kernel
set_option maxRecDepth 100000 in
theorem qd_pick_39 : decode prog_9_method_6_code 39 = .ok (.aload_n 0, 1) := by decide +kernel
set_option maxRecDepth 100000 in
theorem qd_pick_40 : decode prog_9_method_6_code 40 = .ok (.aload_n 0, 1) := by decide +kernel
set_option maxRecDepth 100000 in
theorem qd_pick_41 : decode prog_9_method_6_code 41 = .ok (.getfield 46, 3) := by decide +kernel
set_option maxRecDepth 100000 in
theorem qd_pick_44 : decode prog_9_method_6_code 44 = .ok (.iconst 1, 1) := by decide +kernel
set_option maxRecDepth 100000 in
theorem qd_pick_45 : decode prog_9_method_6_code 45 = .ok (.iadd, 1) := by decide +kernel
set_option maxRecDepth 100000 in
theorem qd_pick_46 : decode prog_9_method_6_code 46 = .ok (.iconst 5, 1) := by decide +kernel
set_option maxRecDepth 100000 in
theorem qd_pick_50 : decode prog_9_method_6_code 50 = .ok (.putfield 46, 3) := by decide +kernel
set_option maxRecDepth 100000 in
theorem qd_pick_53 : decode prog_9_method_6_code 53 = .ok (.aload_n 0, 1) := by decide +kernel
set_option maxRecDepth 100000 in
theorem qd_pick_54 : decode prog_9_method_6_code 54 = .ok (.getfield 46, 3) := by decide +kernel
set_option maxRecDepth 100000 in
theorem qd_pick_57 : decode prog_9_method_6_code 57 = .ok (.iconst 1, 1) := by decide +kernel
set_option maxRecDepth 100000 in
theorem qd_pick_58 : decode prog_9_method_6_code 58 = .ok (.isub, 1) := by decide +kernel
set_option maxRecDepth 100000 in
theorem qd_pick_59 : decode prog_9_method_6_code 59 = .ok (.istore 4, 2) := by decide +kernel
set_option maxRecDepth 100000 in
theorem qd_pick_61 : decode prog_9_method_6_code 61 = .ok (.iload 4, 2) := by decide +kernel
set_option maxRecDepth 100000 in
theorem qd_pick_63 : decode prog_9_method_6_code 63 = .ok (.iload_n 3, 1) := by decide +kernel
set_option maxRecDepth 100000 in
theorem qd_pick_64 : decode prog_9_method_6_code 64 = .ok (.if_icmp .le 41, 3) := by decide +kernel
set_option maxRecDepth 100000 in
theorem qd_pick_67 : decode prog_9_method_6_code 67 = .ok (.aload_n 0, 1) := by decide +kernel
set_option maxRecDepth 100000 in
theorem qd_pick_68 : decode prog_9_method_6_code 68 = .ok (.getfield 9, 3) := by decide +kernel
set_option maxRecDepth 100000 in
theorem qd_pick_71 : decode prog_9_method_6_code 71 = .ok (.iload 4, 2) := by decide +kernel
set_option maxRecDepth 100000 in
theorem qd_pick_73 : decode prog_9_method_6_code 73 = .ok (.aload_n 0, 1) := by decide +kernel
set_option maxRecDepth 100000 in
theorem qd_pick_74 : decode prog_9_method_6_code 74 = .ok (.getfield 9, 3) := by decide +kernel
set_option maxRecDepth 100000 in
theorem qd_pick_77 : decode prog_9_method_6_code 77 = .ok (.iload 4, 2) := by decide +kernel
set_option maxRecDepth 100000 in
theorem qd_pick_79 : decode prog_9_method_6_code 79 = .ok (.iconst 1, 1) := by decide +kernel
set_option maxRecDepth 100000 in
theorem qd_pick_80 : decode prog_9_method_6_code 80 = .ok (.isub, 1) := by decide +kernel
set_option maxRecDepth 100000 in
theorem qd_pick_81 : decode prog_9_method_6_code 81 = .ok (.iaload, 1) := by decide +kernel
set_option maxRecDepth 100000 in
theorem qd_pick_82 : decode prog_9_method_6_code 82 = .ok (.iastore, 1) := by decide +kernel
set_option maxRecDepth 100000 in
theorem qd_pick_83 : decode prog_9_method_6_code 83 = .ok (.aload_n 0, 1) := by decide +kernel
set_option maxRecDepth 100000 in
theorem qd_pick_84 : decode prog_9_method_6_code 84 = .ok (.getfield 13, 3) := by decide +kernel
set_option maxRecDepth 100000 in
theorem qd_pick_87 : decode prog_9_method_6_code 87 = .ok (.iload 4, 2) := by decide +kernel
set_option maxRecDepth 100000 in
theorem qd_pick_89 : decode prog_9_method_6_code 89 = .ok (.aload_n 0, 1) := by decide +kernel
set_option maxRecDepth 100000 in
theorem qd_pick_90 : decode prog_9_method_6_code 90 = .ok (.getfield 13, 3) := by decide +kernel
set_option maxRecDepth 100000 in
theorem qd_pick_93 : decode prog_9_method_6_code 93 = .ok (.iload 4, 2) := by decide +kernel
set_option maxRecDepth 100000 in
theorem qd_pick_95 : decode prog_9_method_6_code 95 = .ok (.iconst 1, 1) := by decide +kernel
set_option maxRecDepth 100000 in
theorem qd_pick_96 : decode prog_9_method_6_code 96 = .ok (.isub, 1) := by decide +kernel
set_option maxRecDepth 100000 in
theorem qd_pick_97 : decode prog_9_method_6_code 97 = .ok (.iaload, 1) := by decide +kernel
set_option maxRecDepth 100000 in
theorem qd_pick_98 : decode prog_9_method_6_code 98 = .ok (.iastore, 1) := by decide +kernel
set_option maxRecDepth 100000 in
theorem qd_pick_99 : decode prog_9_method_6_code 99 = .ok (.iinc 4 (-1), 3) := by decide +kernel
set_option maxRecDepth 100000 in
theorem qd_pick_102 : decode prog_9_method_6_code 102 = .ok (.goto (-41), 3) := by decide +kernel
set_option maxRecDepth 100000 in
theorem qd_pick_105 : decode prog_9_method_6_code 105 = .ok (.aload_n 0, 1) := by decide +kernel
set_option maxRecDepth 100000 in
theorem qd_pick_106 : decode prog_9_method_6_code 106 = .ok (.getfield 9, 3) := by decide +kernel
set_option maxRecDepth 100000 in
theorem qd_pick_109 : decode prog_9_method_6_code 109 = .ok (.iload_n 3, 1) := by decide +kernel
set_option maxRecDepth 100000 in
theorem qd_pick_110 : decode prog_9_method_6_code 110 = .ok (.iload_n 1, 1) := by decide +kernel
set_option maxRecDepth 100000 in
theorem qd_pick_111 : decode prog_9_method_6_code 111 = .ok (.iastore, 1) := by decide +kernel
set_option maxRecDepth 100000 in
theorem qd_pick_112 : decode prog_9_method_6_code 112 = .ok (.aload_n 0, 1) := by decide +kernel
set_option maxRecDepth 100000 in
theorem qd_pick_113 : decode prog_9_method_6_code 113 = .ok (.getfield 13, 3) := by decide +kernel
set_option maxRecDepth 100000 in
theorem qd_pick_116 : decode prog_9_method_6_code 116 = .ok (.iload_n 3, 1) := by decide +kernel
set_option maxRecDepth 100000 in
theorem qd_pick_117 : decode prog_9_method_6_code 117 = .ok (.iload_n 2, 1) := by decide +kernel
set_option maxRecDepth 100000 in
theorem qd_pick_118 : decode prog_9_method_6_code 118 = .ok (.iastore, 1) := by decide +kernel
set_option maxRecDepth 100000 in
theorem zq_cat1 {rest : List Value} (h : rest.length ≤ 1) (hc : ∀ q ∈ rest, q.category = 1) : (rest.map fun v => v.category).sum + 13 ≤ 20 := by
  match rest, h, hc with
  | [], _, _ => decide
  | [q], _, hc => rw [List.map_cons, List.map_nil, hc q List.mem_cons_self]; decide
  | _ :: _ :: _, h, _ => exact absurd h (by simp)
set_option maxRecDepth 100000 in
def qP499 : zk_P := ([(46, 7, 2, 0), (9, 7, 0, 4), (13, 7, 1, 4)], [], [], [], [], [], [])
set_option maxRecDepth 100000 in
def qX499 : zk_Hd := (0, zk_x0 qC499, [(0, none, none)], 0, 0)
set_option maxRecDepth 100000 in
theorem qk499 : zk_chk qK qP499 prog_9_method_6_code 5 qC499 none [] [qX499] 5 1 = true := by decide +kernel
set_option maxRecDepth 100000 in
theorem qh38_499 : zk_chf qK qP499 prog_9_method_6_code 5 qC499 none [] [] (38, zq_pkY qK qn_SC qn_pickWorth qn_pickAt qX499.2.1, [], 0, 0) 5 1 = true := by decide +kernel
set_option maxRecDepth 100000 in
theorem qh119_499 : zk_chf qK qP499 prog_9_method_6_code 5 qC499 none [] [] (119, zq_pkY qK qn_SC qn_pickWorth qn_pickAt qX499.2.1, [], 0, 0) 5 1 = true := by decide +kernel
set_option maxHeartbeats 4000000 in
set_option maxRecDepth 100000 in
theorem qo499 {p : Program} {l : Launch} {e : Env} {s : State} {m : MethodId} {args : Array Value} {below : List Frame} {meth : Method} {c : Code} {s₁ : State} {Q : State → Prop} {D : zk_D} {base : Nat} {Hb : Heap} (B : BodyLoose p l yX7_pick (headSpec (Jvm.Cond.code yX7_pick prog_9_method_6_code 5 none :: zg_tb) qR499) prog_9_method_6_code 5 none e s m args below meth c s₁) (hml : c.maxLocals = 5) (hK : zg_K D base Hb s) : zk_ok p l e (headSpec (Jvm.Cond.code yX7_pick prog_9_method_6_code 5 none :: zg_tb) qR499).room s m args below meth c Q qK D base Hb 5 prog_9_method_6_code qP499 qC499.2.2.2.2 := by
  have S : CallFix p m c prog_9_method_6_code 5 s args (Jvm.Cond.code yX7_pick prog_9_method_6_code 5 none :: zg_tb) RX7 := ⟨B.exec, B.bytes, hml, findClass_of_methodNamed B.named, atoms_spec (ws := (Jvm.Cond.code yX7_pick prog_9_method_6_code 5 none :: zg_tb)) B.pre⟩
  exact ⟨List.forall_mem_cons.mpr ⟨zg_gp S (hK.2.1 7 _ rfl) (fun w h => (List.mem_cons_of_mem _ (zc7 w h))) rfl zt7_2 (List.mem_cons_of_mem _ zw2_35) rfl, List.forall_mem_cons.mpr ⟨zg_gp4 S (hK.2.1 7 _ rfl) (fun w h => (List.mem_cons_of_mem _ (zc7 w h))) rfl zt7_0 (List.mem_cons_of_mem _ zw2_32), List.forall_mem_cons.mpr ⟨zg_gp4 S (hK.2.1 7 _ rfl) (fun w h => (List.mem_cons_of_mem _ (zc7 w h))) rfl zt7_1 (List.mem_cons_of_mem _ zw2_33), fun _ h => absurd h List.not_mem_nil⟩⟩⟩,
    fun _ h => absurd h List.not_mem_nil,
    fun _ h => absurd h List.not_mem_nil,
    fun _ h => absurd h List.not_mem_nil,
    fun h => absurd rfl h,
    fun _ h => absurd h List.not_mem_nil,
    fun _ h => absurd h List.not_mem_nil⟩
set_option maxHeartbeats 4000000 in
set_option maxRecDepth 100000 in
theorem qx499 {p : Program} {l : Launch} {e : Env} {s : State} {m : MethodId} {args : Array Value} {below : List Frame} {meth : Method} {c : Code} {s₁ : State} {D : zk_D} {base : Nat} {Hb : Heap} {v : Nat → Value} {G0 : Nat → Nat} {H0 : Heap} (B : BodyLoose p l yX7_pick (headSpec (Jvm.Cond.code yX7_pick prog_9_method_6_code 5 none :: zg_tb) qR499) prog_9_method_6_code 5 none e s m args below meth c s₁) (hml : c.maxLocals = 5) (hK : zg_K D base Hb s) {G : Nat → Nat} {H : Heap} {locs : List Loc} {ls : Array Slot} {vs : List Value} {v' : Nat → Value} (hp : zk_hp qK D base Hb G H) (he : zk_ev qK D qC499.2.2.1 G0 H0 G H) (hl : ∀ z ∈ locs, base ≤ z.base) (hF : zk_F qK D G H v' qX499.2.1) (hL : zk_LS qC499.1.1 v 5 ls vs v' qX499.2.1) : W p l e (headSpec (Jvm.Cond.code yX7_pick prog_9_method_6_code 5 none :: zg_tb) qR499).room s m args below meth c H locs 0 0 (MQ below (zk_Qf qK D base Hb qC499 v G0 H0) args s qC499.2.2.2.1 qC499.2.2.2.2 (fun q => base ≤ q)) (F0 m 0 ls vs) := by
  have hx := B.exec
  have hb := B.bytes
  have S : CallFix p m c prog_9_method_6_code 5 s args (Jvm.Cond.code yX7_pick prog_9_method_6_code 5 none :: zg_tb) RX7 := ⟨B.exec, B.bytes, hml, findClass_of_methodNamed B.named, atoms_spec (ws := (Jvm.Cond.code yX7_pick prog_9_method_6_code 5 none :: zg_tb)) B.pre⟩
  obtain ⟨e1, -⟩ := zk_LS_stk hL
  obtain ⟨hloc, -⟩ := zk_LS_loc hL
  obtain ⟨a, ea, hga, hg0⟩ := zk_gr (zk_F_ty hF 0) rfl rfl
  obtain ⟨wv, ew, -, -⟩ := zk_gi (zk_F_ty hF 1) rfl
  obtain ⟨tv, et, t0, t1⟩ := zk_gi (zk_F_ty hF 2) rfl
  obtain ⟨zv, ez, -, -⟩ := zk_gi (zk_F_ty hF 3) rfl
  have hga : G a = qn_SC := hga
  have t0 : 0 ≤ tv.toInt := t0
  have t1 : tv.toInt ≤ 159 := t1
  have hz := zk_F_le hF (k := 3) (y := 3) (z := 2) (c := 0) (by decide +kernel)
  rw [ez, et] at hz
  have hz : zv.toInt ≤ tv.toInt := zq_pk13 hz
  obtain ⟨-, -, a2, cell2, r1, r2, r3, r4, r5⟩ := zk_F_fl hF (0, 1003, 3) (by decide +kernel)
  have r1 : v' 0 = .ref a2 := r1
  rw [ea] at r1; cases r1
  have hgh : zk_gh qK D G H a 1003 (v' 3) := by
    rcases r5 with ⟨z, -⟩ | ⟨-, z⟩
    · have z : 1003 < (zk_kd qK (G a)).2.2.1.length := z
      rw [hga] at z
      exact absurd z (by decide +kernel)
    · exact z
  rw [ez] at hgh
  have hvs : vs = [] := by rw [e1]; rfl
  subst hvs
  have hls : lv_has ls 5 [(0, .ref a), (1, .int wv), (2, .int tv)] := by
    have h2 : lv_has ls 5 [(0, v' 0), (1, v' 1), (2, v' 2)] := hloc
    rw [ea, ew, et] at h2
    exact h2
  have hok := qo499 (Q := (MQ below (zk_Qf qK D base Hb qC499 v G0 H0) args s qC499.2.2.2.1 qC499.2.2.2.2 (fun q => base ≤ q))) B hml hK
  have hw := zg_wd hK
  have g0 := hok.1 (9, 7, 0, 4) (by decide +kernel)
  have g1 := hok.1 (13, 7, 1, 4) (by decide +kernel)
  have g2 := hok.1 (46, 7, 2, 0) (by decide +kernel)
  refine zq_pk_core (hiP := 0) (kP := qn_SC) (kW := qn_pickWorth) (kA := qn_pickAt) (ci := 7) (tA := (zk_kd qK qn_pickAt).2.2.1.headD (3, 0, 0)) hx hb hw.1 hw.2.1 (hw.2.2.1 0 _ hw.2.2.2.1) g2.1 g2.2 g0.1 g1.1 zq_qW (by decide +kernel) ⟨(by decide +kernel), (by decide +kernel)⟩ zq_qA (by decide +kernel) ⟨(by decide +kernel), (by decide +kernel)⟩ (by decide +kernel) (by decide +kernel) (by decide) (by decide) (by decide +kernel) (by decide +kernel) (by decide +kernel) (by decide +kernel) (by decide +kernel) qd_pick_0 qd_pick_1 qd_pick_4 qd_pick_5 qd_pick_6 qd_pick_9 qd_pick_10 qd_pick_13 qd_pick_14 qd_pick_15 qd_pick_16 qd_pick_20 qd_pick_24 qd_pick_27 qd_pick_30 qd_pick_33 qd_pick_34 qd_pick_35 qd_pick_39 qd_pick_40 qd_pick_41 qd_pick_44 qd_pick_45 qd_pick_46 qd_pick_50 qd_pick_53 qd_pick_54 qd_pick_57 qd_pick_58 qd_pick_59 qd_pick_61 qd_pick_63 qd_pick_64 qd_pick_67 qd_pick_68 qd_pick_71 qd_pick_73 qd_pick_74 qd_pick_77 qd_pick_79 qd_pick_80 qd_pick_81 qd_pick_82 qd_pick_83 qd_pick_84 qd_pick_87 qd_pick_89 qd_pick_90 qd_pick_93 qd_pick_95 qd_pick_96 qd_pick_97 qd_pick_98 qd_pick_99 qd_pick_102 qd_pick_105 qd_pick_106 qd_pick_109 qd_pick_110 qd_pick_111 qd_pick_112 qd_pick_113 qd_pick_116 qd_pick_117 qd_pick_118 rfl ?_ ?_ hp hl hga (zq_at3 hK.1.2.2 hgh) (by decide +kernel) t0 t1 hz (hK.1.2.1 qn_SC 0 2 (by decide +kernel) (by decide +kernel) (by decide +kernel) (by decide)) (hK.1.2.1 qn_SC 1 2 (by decide +kernel) (by decide +kernel) (by decide +kernel) (by decide)) hls (fun pc H2 locs2 ls2 hpc hp2 ev2 hz2 hg2 hc2 hl2 hls2 => ?_)
  · intro H locs pc ls x rest hpc hsz hlen hcat kk
    rcases hpc with rfl | rfl
    · exact va_mabs hx hb (by rw [hml]; exact hsz.symm) S.2.2.2.1 (S.2.2.2.2 _ (List.mem_cons_of_mem _ zw4_218)) (S.2.2.2.2 _ (List.mem_cons_of_mem _ zw4_219)) (S.2.2.2.2 _ (List.mem_cons_of_mem _ zw1_15)) (S.2.2.2.2 _ (List.mem_cons_of_mem _ zw4_220)) (by decide) (zq_cat1 hlen hcat) (Nat.zero_le _) (Nat.zero_le _) (by decide +kernel : decode prog_9_method_6_code 17 = .ok (.invokestatic 57, 3)) (kk _)
    · exact va_mabs hx hb (by rw [hml]; exact hsz.symm) S.2.2.2.1 (S.2.2.2.2 _ (List.mem_cons_of_mem _ zw4_218)) (S.2.2.2.2 _ (List.mem_cons_of_mem _ zw4_219)) (S.2.2.2.2 _ (List.mem_cons_of_mem _ zw1_15)) (S.2.2.2.2 _ (List.mem_cons_of_mem _ zw4_220)) (by decide) (zq_cat1 hlen hcat) (Nat.zero_le _) (Nat.zero_le _) (by decide +kernel : decode prog_9_method_6_code 21 = .ok (.invokestatic 57, 3)) (kk _)
  · intro H locs ls x y a hsz kk
    exact va_mmin hx hb (by rw [hml]; exact hsz.symm) S.2.2.2.1 (S.2.2.2.2 _ (List.mem_cons_of_mem _ zw4_221)) (S.2.2.2.2 _ (List.mem_cons_of_mem _ zw2_211)) (S.2.2.2.2 _ (List.mem_cons_of_mem _ zw1_15)) (S.2.2.2.2 _ (List.mem_cons_of_mem _ zw2_212)) (by decide) (zq_cat1 (Nat.le_refl _) (fun q hq => by rw [List.mem_singleton.mp hq]; rfl)) (Nat.zero_le _) (Nat.zero_le _) (by decide +kernel : decode prog_9_method_6_code 47 = .ok (.invokestatic 63, 3)) kk
  · obtain ⟨cell3, hc3⟩ := hc2
    rcases hpc with rfl | rfl
    · exact zq_pk_fin (kM := qn_M) (kS := qn_saying) (kC := qn_codes) (kT := qn_textSize) hx hb hw hok rfl rfl B.returns B.notSynchronized (fun t h => h) hK.1.2.2 (by decide +kernel) (by decide +kernel) (by decide) rfl (by decide +kernel) qh38_499 he hF hL ea ew et hga t0 t1 hp2 ev2 hz2 hg2 hc3 hl2 hls2
    · exact zq_pk_fin (kM := qn_M) (kS := qn_saying) (kC := qn_codes) (kT := qn_textSize) hx hb hw hok rfl rfl B.returns B.notSynchronized (fun t h => h) hK.1.2.2 (by decide +kernel) (by decide +kernel) (by decide) rfl (by decide +kernel) qh119_499 he hF hL ea ew et hga t0 t1 hp2 ev2 hz2 hg2 hc3 hl2 hls2
set_option maxRecDepth 100000 in
theorem qm499 {l : Launch} {D : zk_D} {base : Nat} {Hb : Heap} : zk_Met l qK D base Hb (zg_K D base Hb) yX7_pick (Jvm.Cond.code yX7_pick prog_9_method_6_code 5 none :: zg_tb) qR499 qC499 :=
  zk_met (ws' := zg_tb) (P := qP499) (AT := zg_AT) (by decide +kernel) rfl rfl rfl qk499 (fun s hK => zg_wd hK) (fun p e s m args below meth c s₁ Q B hml hK => qo499 B hml hK) (fun p e s m args below meth c s₁ v G0 H0 B hml hK ha hp0 hF0 q hq G H locs ls vs v' hp he hl hF hL => by
    have hq := List.mem_singleton.mp hq
    subst hq
    exact qx499 B hml hK hp he hl hF hL)
end
