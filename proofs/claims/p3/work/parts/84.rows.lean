/-! ROWS, 2: the methods by hand -/
theorem zr_hh01 (h k : Int32) : 0 ≤ (zf_hh h k).toInt ∧ (zf_hh h k).toInt ≤ 1 := by
  unfold zf_hh
  split <;> decide
theorem zr_in (h : Int32) {k : Int32} (k0 : 0 ≤ k.toInt) (k1 : k.toInt ≤ 12) : zf_in h 0 (k - 1) = zf_hh h k := by
  have e : (k - 1).toInt = k.toInt - 1 := by
    rw [Int32.toInt_sub, show (1 : Int32).toInt = 1 from rfl]
    exact Int.bmod_eq_of_le (by omega) (by omega)
  unfold zf_in zf_hh
  simp only [Int32.le_iff_toInt_le, e, show (0 : Int32).toInt = 0 from rfl]
  by_cases c : 0 ≤ h.toInt ∧ h.toInt < k.toInt
  · rw [if_pos c, if_pos (by omega)]
  · rw [if_neg c, if_neg (by omega)]
theorem zr_e_ne {ca : Cell} {i j : Nat} {v : Value} (h : i ≠ j) : zr_e (ca.setSlot i v) j = zr_e ca j := by unfold zr_e; rw [slot_ne _ _ h]
set_option maxHeartbeats 4000000 in
set_option maxRecDepth 100000 in
theorem zh_in {l : Launch} {D : zk_D} {base : Nat} {Hb H : Heap} (a0 a1 a2 : Int32) : zh_Met l base (zg_K D base Hb) yX12_in (Jvm.Cond.code yX12_in prog_14_method_1_code 3 (some .boolean) :: zg_tb) { frames := 1, cells := 0, slots := 0, locals := 20 } [.int a0, .int a1, .int a2] H (fun ov H' => ov = some (.int (zf_in a0 a1 a2)) ∧ H' = H) := by
  refine Met.ofW (cc := prog_14_method_1_code) (maxL := 3) (ret := (some .boolean)) (by decide +kernel) rfl ?_
  intro p e s m args below meth c s₁ B hml hv
  obtain ⟨rfl, hH, hK⟩ := hv
  subst hH
  have hx := B.exec
  have hb := B.bytes
  have hr := B.returns
  have hlocks := B.notSynchronized
  have hts := atoms_spec (ws := (Jvm.Cond.code yX12_in prog_14_method_1_code 3 (some .boolean) :: zg_tb)) B.pre
  have hown : s.vm.findClass RX12 = some m.cls := findClass_of_methodNamed B.named
  have S : CallFix p m c prog_14_method_1_code 3 s _ (Jvm.Cond.code yX12_in prog_14_method_1_code 3 (some .boolean) :: zg_tb) RX12 := ⟨hx, hb, hml, hown, hts⟩
  have hl := lv_entry ([.int a0, .int a1, .int a2]) (n := 3) (Nat.le_of_ble_eq_true rfl)
  rw [lg_entry_eq]
  generalize (lg_sl ([.int a0, .int a1, .int a2]) ++ List.replicate (3 - (lg_sl ([.int a0, .int a1, .int a2])).length) Slot.unset).toArray = ls at hl ⊢
  have hl : lv_has ls 3 [(0, .int a0), (1, .int a1), (2, .int a2)] := hl
  refine lv_iload_n hx hb (by decide +kernel : decode prog_14_method_1_code 0 = .ok (.iload_n 0, 1)) rfl (lv_at hl 0 rfl) ?_
  refine lv_iload_n hx hb (by decide +kernel : decode prog_14_method_1_code 1 = .ok (.iload_n 1, 1)) rfl (lv_at hl 1 rfl) ?_
  refine lv_icmp_lt (tgt := 14) hx hb (by decide +kernel : decode prog_14_method_1_code 2 = .ok (.if_icmp .lt 12, 3)) (by decide) (fun c_1 => ?_) (fun c_1 => ?_)
  · refine lv_iconst (v := 0) hx hb (by decide +kernel : decode prog_14_method_1_code 14 = .ok (.iconst 0, 1)) (by decide) ?_
    have e : zf_in a0 a1 a2 = 0 := by
      unfold zf_in
      first | (rw [if_pos]; simp only [Int32.lt_iff_toInt_lt, Int32.le_iff_toInt_le] at *; omega) | (rw [if_neg]; intro hh; simp only [Int32.lt_iff_toInt_lt, Int32.le_iff_toInt_le] at *; omega)
    rw [e]
    exact W.zret hx hb hr rfl (fun t ht _ => ⟨_, rfl, rfl, ht⟩) (fun q hq => absurd hq List.not_mem_nil) (by decide +kernel : decode prog_14_method_1_code 15 = .ok (.ireturn, 1))
  · refine lv_iload_n hx hb (by decide +kernel : decode prog_14_method_1_code 5 = .ok (.iload_n 0, 1)) rfl (lv_at hl 0 rfl) ?_
    refine lv_iload_n hx hb (by decide +kernel : decode prog_14_method_1_code 6 = .ok (.iload_n 2, 1)) rfl (lv_at hl 2 rfl) ?_
    refine lv_icmp_gt (tgt := 14) hx hb (by decide +kernel : decode prog_14_method_1_code 7 = .ok (.if_icmp .gt 7, 3)) (by decide) (fun c_2 => ?_) (fun c_2 => ?_)
    · refine lv_iconst (v := 0) hx hb (by decide +kernel : decode prog_14_method_1_code 14 = .ok (.iconst 0, 1)) (by decide) ?_
      have e : zf_in a0 a1 a2 = 0 := by
        unfold zf_in
        first | (rw [if_pos]; simp only [Int32.lt_iff_toInt_lt, Int32.le_iff_toInt_le] at *; omega) | (rw [if_neg]; intro hh; simp only [Int32.lt_iff_toInt_lt, Int32.le_iff_toInt_le] at *; omega)
      rw [e]
      exact W.zret hx hb hr rfl (fun t ht _ => ⟨_, rfl, rfl, ht⟩) (fun q hq => absurd hq List.not_mem_nil) (by decide +kernel : decode prog_14_method_1_code 15 = .ok (.ireturn, 1))
    · refine lv_iconst (v := 1) hx hb (by decide +kernel : decode prog_14_method_1_code 10 = .ok (.iconst 1, 1)) (by decide) ?_
      refine lv_goto (tgt := 15) hx hb (by decide +kernel : decode prog_14_method_1_code 11 = .ok (.goto 4, 3)) (by decide) ?_
      have e : zf_in a0 a1 a2 = 1 := by
        unfold zf_in
        first | (rw [if_pos]; simp only [Int32.lt_iff_toInt_lt, Int32.le_iff_toInt_le] at *; omega) | (rw [if_neg]; intro hh; simp only [Int32.lt_iff_toInt_lt, Int32.le_iff_toInt_le] at *; omega)
      rw [e]
      exact W.zret hx hb hr rfl (fun t ht _ => ⟨_, rfl, rfl, ht⟩) (fun q hq => absurd hq List.not_mem_nil) (by decide +kernel : decode prog_14_method_1_code 15 = .ok (.ireturn, 1))
set_option maxHeartbeats 4000000 in
set_option maxRecDepth 100000 in
theorem zr_has {l : Launch} {D : zk_D} {base : Nat} {Hb H : Heap} {G : Nat → Nat} {n r : Nat} {k : Int32} {ca : Cell} (hN : zr_N D G H n k r ca) (h : Int32) : zh_Met l base (zg_K D base Hb) yX4_hasHouse (Jvm.Cond.code yX4_hasHouse prog_6_method_2_code 2 (some .boolean) :: zg_tb) { frames := 1, cells := 0, slots := 0, locals := 20 } [.ref n, .int h] H (fun ov H' => ov = some (.int (zf_hh h k)) ∧ H' = H) := by
  refine Met.ofW (cc := prog_6_method_2_code) (maxL := 2) (ret := (some .boolean)) (by decide +kernel) rfl ?_
  intro p e s m args below meth c s₁ B hml hv
  obtain ⟨rfl, hH, hK⟩ := hv
  subst hH
  have hx := B.exec
  have hb := B.bytes
  have hr := B.returns
  have hlocks := B.notSynchronized
  have hts := atoms_spec (ws := (Jvm.Cond.code yX4_hasHouse prog_6_method_2_code 2 (some .boolean) :: zg_tb)) B.pre
  have hown : s.vm.findClass RX4 = some m.cls := findClass_of_methodNamed B.named
  have S : CallFix p m c prog_6_method_2_code 2 s _ (Jvm.Cond.code yX4_hasHouse prog_6_method_2_code 2 (some .boolean) :: zg_tb) RX4 := ⟨hx, hb, hml, hown, hts⟩
  have hl := lv_entry ([.ref n, .int h]) (n := 2) (Nat.le_of_ble_eq_true rfl)
  rw [lg_entry_eq]
  generalize (lg_sl ([.ref n, .int h]) ++ List.replicate (2 - (lg_sl ([.ref n, .int h])).length) Slot.unset).toArray = ls at hl ⊢
  have hl : lv_has ls 2 [(0, .ref n), (1, .int h)] := hl
  obtain ⟨hn0, cn, ⟨n1, n2, n3⟩, n4, n5, ⟨n6, n7, n8⟩, n9, n10⟩ := id hN
  refine lv_iload_n hx hb (by decide +kernel : decode prog_6_method_2_code 0 = .ok (.iload_n 1, 1)) rfl (lv_at hl 1 rfl) ?_
  refine lv_if_lt (tgt := 16) hx hb (by decide +kernel : decode prog_6_method_2_code 1 = .ok (.ifCond .lt 15, 3)) (by decide) (fun c_1 => ?_) (fun c_1 => ?_)
  · refine lv_iconst (v := 0) hx hb (by decide +kernel : decode prog_6_method_2_code 16 = .ok (.iconst 0, 1)) (by decide) ?_
    have e : zf_hh h k = 0 := by
      unfold zf_hh
      simp only [Int32.lt_iff_toInt_lt, Int32.le_iff_toInt_le, show (0 : Int32).toInt = 0 from rfl] at *
      first | (rw [if_pos]; omega) | (rw [if_neg]; omega)
    rw [e]
    exact W.zret hx hb hr rfl (fun t ht _ => ⟨_, rfl, rfl, ht⟩) (fun q hq => absurd hq List.not_mem_nil) (by decide +kernel : decode prog_6_method_2_code 17 = .ok (.ireturn, 1))
  · refine lv_iload_n hx hb (by decide +kernel : decode prog_6_method_2_code 4 = .ok (.iload_n 1, 1)) rfl (lv_at hl 1 rfl) ?_
    refine lv_aload_n hx hb (by decide +kernel : decode prog_6_method_2_code 5 = .ok (.aload_n 0, 1)) rfl (lv_at hl 0 rfl) ?_
    refine (zg_gp (ft := 0) S (hK.2.1 4 _ rfl) (fun w h => (List.mem_cons_of_mem _ (zc4 w h))) rfl zt4_6 (List.mem_cons_of_mem _ zw1_48) rfl).1 n1 n2 n3 n4 (by decide +kernel : decode prog_6_method_2_code 6 = .ok (.getfield 31, 3)) ?_
    refine lv_icmp_ge (tgt := 16) hx hb (by decide +kernel : decode prog_6_method_2_code 9 = .ok (.if_icmp .ge 7, 3)) (by decide) (fun c_2 => ?_) (fun c_2 => ?_)
    · refine lv_iconst (v := 0) hx hb (by decide +kernel : decode prog_6_method_2_code 16 = .ok (.iconst 0, 1)) (by decide) ?_
      have e : zf_hh h k = 0 := by
        unfold zf_hh
        simp only [Int32.lt_iff_toInt_lt, Int32.le_iff_toInt_le, show (0 : Int32).toInt = 0 from rfl] at *
        first | (rw [if_pos]; omega) | (rw [if_neg]; omega)
      rw [e]
      exact W.zret hx hb hr rfl (fun t ht _ => ⟨_, rfl, rfl, ht⟩) (fun q hq => absurd hq List.not_mem_nil) (by decide +kernel : decode prog_6_method_2_code 17 = .ok (.ireturn, 1))
    · refine lv_iconst (v := 1) hx hb (by decide +kernel : decode prog_6_method_2_code 12 = .ok (.iconst 1, 1)) (by decide) ?_
      refine lv_goto (tgt := 17) hx hb (by decide +kernel : decode prog_6_method_2_code 13 = .ok (.goto 4, 3)) (by decide) ?_
      have e : zf_hh h k = 1 := by
        unfold zf_hh
        simp only [Int32.lt_iff_toInt_lt, Int32.le_iff_toInt_le, show (0 : Int32).toInt = 0 from rfl] at *
        first | (rw [if_pos]; omega) | (rw [if_neg]; omega)
      rw [e]
      exact W.zret hx hb hr rfl (fun t ht _ => ⟨_, rfl, rfl, ht⟩) (fun q hq => absurd hq List.not_mem_nil) (by decide +kernel : decode prog_6_method_2_code 17 = .ok (.ireturn, 1))
set_option maxHeartbeats 4000000 in
set_option maxRecDepth 100000 in
theorem zr_isH {l : Launch} {D : zk_D} {base : Nat} {Hb H : Heap} {G : Nat → Nat} {n r : Nat} {k : Int32} {ca : Cell} (hM : zr_M D G H n k r ca) (h : Int32) : zh_Met l base (zg_K D base Hb) yX12_isHouse (Jvm.Cond.code yX12_isHouse prog_14_method_4_code 2 (some .boolean) :: zg_tb) { frames := 2, cells := 0, slots := 0, locals := 42 } [.ref n, .int h] H (fun ov H' => ov = some (.int (zf_hh h k)) ∧ H' = H) := by
  refine Met.ofW (cc := prog_14_method_4_code) (maxL := 2) (ret := (some .boolean)) (by decide +kernel) rfl ?_
  intro p e s m args below meth c s₁ B hml hv
  obtain ⟨rfl, hH, hK⟩ := hv
  subst hH
  have hx := B.exec
  have hb := B.bytes
  have hr := B.returns
  have hlocks := B.notSynchronized
  have hts := atoms_spec (ws := (Jvm.Cond.code yX12_isHouse prog_14_method_4_code 2 (some .boolean) :: zg_tb)) B.pre
  have hown : s.vm.findClass RX12 = some m.cls := findClass_of_methodNamed B.named
  have S : CallFix p m c prog_14_method_4_code 2 s _ (Jvm.Cond.code yX12_isHouse prog_14_method_4_code 2 (some .boolean) :: zg_tb) RX12 := ⟨hx, hb, hml, hown, hts⟩
  have hl := lv_entry ([.ref n, .int h]) (n := 2) (Nat.le_of_ble_eq_true rfl)
  rw [lg_entry_eq]
  generalize (lg_sl ([.ref n, .int h]) ++ List.replicate (2 - (lg_sl ([.ref n, .int h])).length) Slot.unset).toArray = ls at hl ⊢
  have hl : lv_has ls 2 [(0, .ref n), (1, .int h)] := hl
  obtain ⟨hn0, cn, ⟨n1, n2, n3⟩, n4, n5, ⟨n6, n7, n8⟩, n9, n10⟩ := id hM
  have hlc : ∀ q ∈ ([] : List Loc), base ≤ q.base := fun q hq => absurd hq List.not_mem_nil
  refine lv_iload_n hx hb (by decide +kernel : decode prog_14_method_4_code 0 = .ok (.iload_n 1, 1)) rfl (lv_at hl 1 rfl) ?_
  refine lv_iconst (v := 0) hx hb (by decide +kernel : decode prog_14_method_4_code 1 = .ok (.iconst 0, 1)) (by decide) ?_
  refine lv_aload_n hx hb (by decide +kernel : decode prog_14_method_4_code 2 = .ok (.aload_n 0, 1)) rfl (lv_at hl 0 rfl) ?_
  refine (zg_gp (ft := 0) S (hK.2.1 12 _ rfl) (fun w h => (List.mem_cons_of_mem _ (zc12 w h))) rfl zt12_6 (List.mem_cons_of_mem _ zw5_165) rfl).1 n1 n2 n3 n4 (by decide +kernel : decode prog_14_method_4_code 3 = .ok (.getfield 164, 3)) ?_
  refine lv_iconst (v := 1) hx hb (by decide +kernel : decode prog_14_method_4_code 6 = .ok (.iconst 1, 1)) (by decide) ?_
  refine lv_isub hx hb (by decide +kernel : decode prog_14_method_4_code 7 = .ok (.isub, 1)) ?_
  refine zh_callS (fun w h => List.mem_cons_of_mem _ h) zg_tb_all S hK zg_Km ⟨rfl, rfl⟩ (zh_in (D := D) (Hb := Hb) h 0 (k - 1)) zw6_145 zy_yX12_in_S rfl hl.1 rfl ⟨rfl, rfl⟩ (Nat.le_of_ble_eq_true rfl) (Nat.le_of_ble_eq_true rfl) (by decide +kernel : decode prog_14_method_4_code 8 = .ok (.invokestatic 160, 3)) hlc (fun ov H' locs hh hlc => ?_)
  obtain ⟨rfl, rfl⟩ := hh
  rw [zr_in h n9 n10]
  exact W.zret hx hb hr (zk_nb (zr_hh01 h k).1 (zr_hh01 h k).2) (fun t ht _ => ⟨_, rfl, rfl, ht⟩) hlc (by decide +kernel : decode prog_14_method_4_code 11 = .ok (.ireturn, 1))
set_option maxHeartbeats 4000000 in
set_option maxRecDepth 100000 in
theorem zr_upU {l : Launch} {D : zk_D} {base : Nat} {Hb H : Heap} {G : Nat → Nat} {n r : Nat} {k : Int32} {ca : Cell} {o : Nat} (hp : zk_hp qK D base Hb G H) (hU : zr_U D H o n) (hN : zr_N D G H n k r ca) (h w : Int32) (hw : w = 0 ∨ w = 1) : zh_Met l base (zg_K D base Hb) yX11_up (Jvm.Cond.code yX11_up prog_1_method_3_code 3 (some .boolean) :: zg_tb) { frames := 2, cells := 0, slots := 0, locals := 41 } [.ref o, .int h, .int w] H (fun ov H' => (ov = some (.int 0) ∧ ¬ zr_cU h w k ca ∧ H' = H) ∨ (ov = some (.int 1) ∧ zr_cU h w k ca ∧ zk_hp qK D base Hb G H' ∧ zk_ev qK D [(6, 0)] G H G H' ∧ H'.size = H.size ∧ H'[r]? = some (zr_aU h w ca) ∧ ∀ q : Nat, q ≠ r → H'[q]? = H[q]?)) := by
  refine Met.ofW (cc := prog_1_method_3_code) (maxL := 3) (ret := (some .boolean)) (by decide +kernel) rfl ?_
  intro p e s m args below meth c s₁ B hml hv
  obtain ⟨rfl, hH, hK⟩ := hv
  subst hH
  have hx := B.exec
  have hb := B.bytes
  have hr := B.returns
  have hlocks := B.notSynchronized
  have hts := atoms_spec (ws := (Jvm.Cond.code yX11_up prog_1_method_3_code 3 (some .boolean) :: zg_tb)) B.pre
  have hown : s.vm.findClass RX11 = some m.cls := findClass_of_methodNamed B.named
  have S : CallFix p m c prog_1_method_3_code 3 s _ (Jvm.Cond.code yX11_up prog_1_method_3_code 3 (some .boolean) :: zg_tb) RX11 := ⟨hx, hb, hml, hown, hts⟩
  have hl := lv_entry ([.ref o, .int h, .int w]) (n := 3) (Nat.le_of_ble_eq_true rfl)
  rw [lg_entry_eq]
  generalize (lg_sl ([.ref o, .int h, .int w]) ++ List.replicate (3 - (lg_sl ([.ref o, .int h, .int w])).length) Slot.unset).toArray = ls at hl ⊢
  have hl : lv_has ls 3 [(0, .ref o), (1, .int h), (2, .int w)] := hl
  obtain ⟨hn0, cn, ⟨n1, n2, n3⟩, n4, n5, ⟨n6, n7, n8⟩, n9, n10⟩ := id hN
  have hlc : ∀ q ∈ ([] : List Loc), base ≤ q.base := fun q hq => absurd hq List.not_mem_nil
  obtain ⟨cu, ⟨u1, u2, u3⟩, u4⟩ := id hU
  refine lv_aload_n hx hb (by decide +kernel : decode prog_1_method_3_code 0 = .ok (.aload_n 0, 1)) rfl (lv_at hl 0 rfl) ?_
  refine (zg_gp4 S (hK.2.1 11 _ rfl) (fun w h => (List.mem_cons_of_mem _ (zc11 w h))) rfl zt11_0 (List.mem_cons_of_mem _ zw2_53)).1 u1 u2 u3 u4 (by decide +kernel : decode prog_1_method_3_code 1 = .ok (.getfield 10, 3)) ?_
  refine lv_iload_n hx hb (by decide +kernel : decode prog_1_method_3_code 4 = .ok (.iload_n 1, 1)) rfl (lv_at hl 1 rfl) ?_
  refine zh_callV (fun w h => List.mem_cons_of_mem _ h) zg_tb_all S hK zg_Km ⟨rfl, rfl⟩ (zr_has (D := D) (Hb := Hb) hN h) zw2_117 zy_yX4_hasHouse_V ⟨cn, n1, n3, by rw [n2]; exact (hK.2.1 4 _ rfl).2.1⟩ rfl hl.1 rfl ⟨rfl, rfl⟩ (Nat.zero_le _) (Nat.zero_le _) (by decide +kernel : decode prog_1_method_3_code 5 = .ok (.invokevirtual 96, 3)) hlc (fun ov H' locs hh hlc => ?_)
  obtain ⟨rfl, rfl⟩ := hh
  refine lv_if_eq (tgt := 24) hx hb (by decide +kernel : decode prog_1_method_3_code 8 = .ok (.ifCond .eq 16, 3)) (by decide) (fun c_1 => ?_) (fun c_1 => ?_)
  · refine lv_iconst (v := 0) hx hb (by decide +kernel : decode prog_1_method_3_code 24 = .ok (.iconst 0, 1)) (by decide) ?_
    exact W.zret hx hb hr rfl (fun t ht _ => ⟨_, rfl, Or.inl ⟨rfl, fun hc => by first | exact zr_hhn c_1 hc.1 | exact hc.2 c_2, ht⟩⟩) hlc (by decide +kernel : decode prog_1_method_3_code 25 = .ok (.ireturn, 1))
  · refine lv_aload_n hx hb (by decide +kernel : decode prog_1_method_3_code 11 = .ok (.aload_n 0, 1)) rfl (lv_at hl 0 rfl) ?_
    refine (zg_gp4 S (hK.2.1 11 _ rfl) (fun w h => (List.mem_cons_of_mem _ (zc11 w h))) rfl zt11_0 (List.mem_cons_of_mem _ zw2_53)).1 u1 u2 u3 u4 (by decide +kernel : decode prog_1_method_3_code 12 = .ok (.getfield 10, 3)) ?_
    refine (zg_gp4 S (hK.2.1 4 _ rfl) (fun w h => (List.mem_cons_of_mem _ (zc4 w h))) rfl zt4_0 (List.mem_cons_of_mem _ zw1_38)).1 n1 n2 n3 n5 (by decide +kernel : decode prog_1_method_3_code 15 = .ok (.getfield 100, 3)) ?_
    refine lv_iload_n hx hb (by decide +kernel : decode prog_1_method_3_code 18 = .ok (.iload_n 1, 1)) rfl (lv_at hl 1 rfl) ?_
    refine zr_zld hx hb (hK.2.2.1 2 _ rfl) hp zr_rA n6 n7 (zr_lt (zr_hhp c_1) n10).1 (by rw [n8]; exact (zr_lt (zr_hhp c_1) n10).2.1) (by decide +kernel : decode prog_1_method_3_code 19 = .ok (.baload, 1)) ?_
    refine lv_iload_n hx hb (by decide +kernel : decode prog_1_method_3_code 20 = .ok (.iload_n 2, 1)) rfl (lv_at hl 2 rfl) ?_
    refine lv_icmp_ne (tgt := 26) hx hb (by decide +kernel : decode prog_1_method_3_code 21 = .ok (.if_icmp .ne 5, 3)) (by decide) (fun c_2 => ?_) (fun c_2 => ?_)
    · refine lv_aload_n hx hb (by decide +kernel : decode prog_1_method_3_code 26 = .ok (.aload_n 0, 1)) rfl (lv_at hl 0 rfl) ?_
      refine (zg_gp4 S (hK.2.1 11 _ rfl) (fun w h => (List.mem_cons_of_mem _ (zc11 w h))) rfl zt11_0 (List.mem_cons_of_mem _ zw2_53)).1 u1 u2 u3 u4 (by decide +kernel : decode prog_1_method_3_code 27 = .ok (.getfield 10, 3)) ?_
      refine (zg_gp4 S (hK.2.1 4 _ rfl) (fun w h => (List.mem_cons_of_mem _ (zc4 w h))) rfl zt4_0 (List.mem_cons_of_mem _ zw1_38)).1 n1 n2 n3 n5 (by decide +kernel : decode prog_1_method_3_code 30 = .ok (.getfield 100, 3)) ?_
      refine lv_iload_n hx hb (by decide +kernel : decode prog_1_method_3_code 33 = .ok (.iload_n 1, 1)) rfl (lv_at hl 1 rfl) ?_
      refine lv_iload_n hx hb (by decide +kernel : decode prog_1_method_3_code 34 = .ok (.iload_n 2, 1)) rfl (lv_at hl 2 rfl) ?_
      refine zq_zst hx hb (hK.2.2.1 2 _ rfl) hp hlc zr_rA n6 n7 (zr_lt (zr_hhp c_1) n10).1 (by rw [n8]; exact (zr_lt (zr_hhp c_1) n10).2.1) (zr_01 hw).1 (zr_01 hw).2 (by decide +kernel : decode prog_1_method_3_code 35 = .ok (.bastore, 1)) (fun H1 locs1 hp1 he1 hz1 ew1 eo1 hl1 => ?_)
      refine lv_iconst (v := 1) hx hb (by decide +kernel : decode prog_1_method_3_code 36 = .ok (.iconst 1, 1)) (by decide) ?_
      exact W.zret hx hb hr rfl (fun t ht _ => ⟨_, rfl, Or.inr ⟨rfl, ⟨zr_hhp c_1, c_2⟩, by rw [ht]; exact hp1, by rw [ht]; exact he1, by rw [ht]; exact hz1, by rw [ht]; exact ew1, fun q hq => by rw [ht]; exact eo1 q hq⟩⟩) hl1 (by decide +kernel : decode prog_1_method_3_code 37 = .ok (.ireturn, 1))
    · refine lv_iconst (v := 0) hx hb (by decide +kernel : decode prog_1_method_3_code 24 = .ok (.iconst 0, 1)) (by decide) ?_
      exact W.zret hx hb hr rfl (fun t ht _ => ⟨_, rfl, Or.inl ⟨rfl, fun hc => by first | exact zr_hhn c_1 hc.1 | exact hc.2 c_2, ht⟩⟩) hlc (by decide +kernel : decode prog_1_method_3_code 25 = .ok (.ireturn, 1))
set_option maxHeartbeats 4000000 in
set_option maxRecDepth 100000 in
theorem zr_upM {l : Launch} {D : zk_D} {base : Nat} {Hb H : Heap} {G : Nat → Nat} {n r : Nat} {k : Int32} {ca : Cell} (hp : zk_hp qK D base Hb G H) (hM : zr_M D G H n k r ca) (h w : Int32) : zh_Met l base (zg_K D base Hb) yX12_up (Jvm.Cond.code yX12_up prog_14_method_7_code 3 (some .boolean) :: zg_tb) { frames := 3, cells := 0, slots := 0, locals := 63 } [.ref n, .int h, .int w] H (fun ov H' => (ov = some (.int 0) ∧ ¬ zr_cM h w k ca ∧ H' = H) ∨ (ov = some (.int 1) ∧ zr_cM h w k ca ∧ zk_hp qK D base Hb G H' ∧ zk_ev qK D [(59, 0)] G H G H' ∧ H'.size = H.size ∧ H'[r]? = some (zr_aM h w ca) ∧ ∀ q : Nat, q ≠ r → H'[q]? = H[q]?)) := by
  refine Met.ofW (cc := prog_14_method_7_code) (maxL := 3) (ret := (some .boolean)) (by decide +kernel) rfl ?_
  intro p e s m args below meth c s₁ B hml hv
  obtain ⟨rfl, hH, hK⟩ := hv
  subst hH
  have hx := B.exec
  have hb := B.bytes
  have hr := B.returns
  have hlocks := B.notSynchronized
  have hts := atoms_spec (ws := (Jvm.Cond.code yX12_up prog_14_method_7_code 3 (some .boolean) :: zg_tb)) B.pre
  have hown : s.vm.findClass RX12 = some m.cls := findClass_of_methodNamed B.named
  have S : CallFix p m c prog_14_method_7_code 3 s _ (Jvm.Cond.code yX12_up prog_14_method_7_code 3 (some .boolean) :: zg_tb) RX12 := ⟨hx, hb, hml, hown, hts⟩
  have hl := lv_entry ([.ref n, .int h, .int w]) (n := 3) (Nat.le_of_ble_eq_true rfl)
  rw [lg_entry_eq]
  generalize (lg_sl ([.ref n, .int h, .int w]) ++ List.replicate (3 - (lg_sl ([.ref n, .int h, .int w])).length) Slot.unset).toArray = ls at hl ⊢
  have hl : lv_has ls 3 [(0, .ref n), (1, .int h), (2, .int w)] := hl
  obtain ⟨hn0, cn, ⟨n1, n2, n3⟩, n4, n5, ⟨n6, n7, n8⟩, n9, n10⟩ := id hM
  have hlc : ∀ q ∈ ([] : List Loc), base ≤ q.base := fun q hq => absurd hq List.not_mem_nil
  refine lv_aload_n hx hb (by decide +kernel : decode prog_14_method_7_code 0 = .ok (.aload_n 0, 1)) rfl (lv_at hl 0 rfl) ?_
  refine lv_iload_n hx hb (by decide +kernel : decode prog_14_method_7_code 1 = .ok (.iload_n 1, 1)) rfl (lv_at hl 1 rfl) ?_
  refine zh_callV (fun w h => List.mem_cons_of_mem _ h) zg_tb_all S hK zg_Km ⟨rfl, rfl⟩ (zr_isH (D := D) (Hb := Hb) hM h) zw6_141 zy_yX12_isHouse_V ⟨cn, n1, n3, by rw [n2]; exact (hK.2.1 12 _ rfl).2.1⟩ rfl hl.1 rfl ⟨rfl, rfl⟩ (Nat.zero_le _) (Nat.zero_le _) (by decide +kernel : decode prog_14_method_7_code 2 = .ok (.invokevirtual 170, 3)) hlc (fun ov H' locs hh hlc => ?_)
  obtain ⟨rfl, rfl⟩ := hh
  refine lv_if_eq (tgt := 18) hx hb (by decide +kernel : decode prog_14_method_7_code 5 = .ok (.ifCond .eq 13, 3)) (by decide) (fun c_1 => ?_) (fun c_1 => ?_)
  · refine lv_iconst (v := 0) hx hb (by decide +kernel : decode prog_14_method_7_code 18 = .ok (.iconst 0, 1)) (by decide) ?_
    exact W.zret hx hb hr rfl (fun t ht _ => ⟨_, rfl, Or.inl ⟨rfl, fun hc => by first | exact zr_hhn c_1 hc.1 | exact c_2 hc.2, ht⟩⟩) hlc (by decide +kernel : decode prog_14_method_7_code 19 = .ok (.ireturn, 1))
  · refine lv_aload_n hx hb (by decide +kernel : decode prog_14_method_7_code 8 = .ok (.aload_n 0, 1)) rfl (lv_at hl 0 rfl) ?_
    refine (zg_gp4 S (hK.2.1 12 _ rfl) (fun w h => (List.mem_cons_of_mem _ (zc12 w h))) rfl zt12_1 (List.mem_cons_of_mem _ zw5_160)).1 n1 n2 n3 n5 (by decide +kernel : decode prog_14_method_7_code 9 = .ok (.getfield 9, 3)) ?_
    refine lv_iload_n hx hb (by decide +kernel : decode prog_14_method_7_code 12 = .ok (.iload_n 1, 1)) rfl (lv_at hl 1 rfl) ?_
    refine zr_zld hx hb (hK.2.2.1 2 _ rfl) hp zr_rB n6 n7 (zr_lt (zr_hhp c_1) n10).1 (by rw [n8]; exact (zr_lt (zr_hhp c_1) n10).2.1) (by decide +kernel : decode prog_14_method_7_code 13 = .ok (.baload, 1)) ?_
    refine lv_iload_n hx hb (by decide +kernel : decode prog_14_method_7_code 14 = .ok (.iload_n 2, 1)) rfl (lv_at hl 2 rfl) ?_
    refine lv_icmp_eq (tgt := 20) hx hb (by decide +kernel : decode prog_14_method_7_code 15 = .ok (.if_icmp .eq 5, 3)) (by decide) (fun c_2 => ?_) (fun c_2 => ?_)
    · refine lv_aload_n hx hb (by decide +kernel : decode prog_14_method_7_code 20 = .ok (.aload_n 0, 1)) rfl (lv_at hl 0 rfl) ?_
      refine (zg_gp4 S (hK.2.1 12 _ rfl) (fun w h => (List.mem_cons_of_mem _ (zc12 w h))) rfl zt12_1 (List.mem_cons_of_mem _ zw5_160)).1 n1 n2 n3 n5 (by decide +kernel : decode prog_14_method_7_code 21 = .ok (.getfield 9, 3)) ?_
      refine lv_iload_n hx hb (by decide +kernel : decode prog_14_method_7_code 24 = .ok (.iload_n 1, 1)) rfl (lv_at hl 1 rfl) ?_
      refine lv_iload_n hx hb (by decide +kernel : decode prog_14_method_7_code 25 = .ok (.iload_n 2, 1)) rfl (lv_at hl 2 rfl) ?_
      refine lv_if_ne (tgt := 33) hx hb (by decide +kernel : decode prog_14_method_7_code 26 = .ok (.ifCond .ne 7, 3)) (by decide) (fun c_3 => ?_) (fun c_3 => ?_)
      · refine lv_iconst (v := 0) hx hb (by decide +kernel : decode prog_14_method_7_code 33 = .ok (.iconst 0, 1)) (by decide) ?_
        have ea : zr_aM h w ca = ca.setSlot h.toNatClampNeg (.int 0) := by
          unfold zr_aM
          first | rw [if_neg c_3] | rw [if_pos c_3]
        refine zq_zst hx hb (hK.2.2.1 2 _ rfl) hp hlc zr_rB n6 n7 (zr_lt (zr_hhp c_1) n10).1 (by rw [n8]; exact (zr_lt (zr_hhp c_1) n10).2.1) (by decide) (by decide) (by decide +kernel : decode prog_14_method_7_code 34 = .ok (.bastore, 1)) (fun H1 locs1 hp1 he1 hz1 ew1 eo1 hl1 => ?_)
        refine lv_iconst (v := 1) hx hb (by decide +kernel : decode prog_14_method_7_code 35 = .ok (.iconst 1, 1)) (by decide) ?_
        exact W.zret hx hb hr rfl (fun t ht _ => ⟨_, rfl, Or.inr ⟨rfl, ⟨zr_hhp c_1, c_2⟩, by rw [ht]; exact hp1, by rw [ht]; exact he1, by rw [ht]; exact hz1, by rw [ht, ea]; exact ew1, fun q hq => by rw [ht]; exact eo1 q hq⟩⟩) hl1 (by decide +kernel : decode prog_14_method_7_code 36 = .ok (.ireturn, 1))
      · refine lv_iconst (v := 1) hx hb (by decide +kernel : decode prog_14_method_7_code 29 = .ok (.iconst 1, 1)) (by decide) ?_
        refine lv_goto (tgt := 34) hx hb (by decide +kernel : decode prog_14_method_7_code 30 = .ok (.goto 4, 3)) (by decide) ?_
        have ea : zr_aM h w ca = ca.setSlot h.toNatClampNeg (.int 1) := by
          unfold zr_aM
          first | rw [if_neg c_3] | rw [if_pos c_3]
        refine zq_zst hx hb (hK.2.2.1 2 _ rfl) hp hlc zr_rB n6 n7 (zr_lt (zr_hhp c_1) n10).1 (by rw [n8]; exact (zr_lt (zr_hhp c_1) n10).2.1) (by decide) (by decide) (by decide +kernel : decode prog_14_method_7_code 34 = .ok (.bastore, 1)) (fun H1 locs1 hp1 he1 hz1 ew1 eo1 hl1 => ?_)
        refine lv_iconst (v := 1) hx hb (by decide +kernel : decode prog_14_method_7_code 35 = .ok (.iconst 1, 1)) (by decide) ?_
        exact W.zret hx hb hr rfl (fun t ht _ => ⟨_, rfl, Or.inr ⟨rfl, ⟨zr_hhp c_1, c_2⟩, by rw [ht]; exact hp1, by rw [ht]; exact he1, by rw [ht]; exact hz1, by rw [ht, ea]; exact ew1, fun q hq => by rw [ht]; exact eo1 q hq⟩⟩) hl1 (by decide +kernel : decode prog_14_method_7_code 36 = .ok (.ireturn, 1))
    · refine lv_iconst (v := 0) hx hb (by decide +kernel : decode prog_14_method_7_code 18 = .ok (.iconst 0, 1)) (by decide) ?_
      exact W.zret hx hb hr rfl (fun t ht _ => ⟨_, rfl, Or.inl ⟨rfl, fun hc => by first | exact zr_hhn c_1 hc.1 | exact c_2 hc.2, ht⟩⟩) hlc (by decide +kernel : decode prog_14_method_7_code 19 = .ok (.ireturn, 1))
