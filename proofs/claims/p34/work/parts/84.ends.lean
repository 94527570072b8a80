/-! BY HAND: ends -/
set_option maxHeartbeats 4000000 in
set_option maxRecDepth 100000 in
theorem zh_in {l : Launch} {D : zk_D} {base : Nat} {Hb H : Heap} (a0 a1 a2 : Int32) : zh_Met l base (zg_K D base Hb) yX12_in (Jvm.Cond.code yX12_in prog_14_method_1_code 3 (some .boolean) :: zg_tb) { frames := 1, cells := 0, slots := 0, locals := 20 } [.int a0, .int a1, .int a2] H (fun ov H' => ov = some (.int (zf_in a0 a1 a2)) ∧ H' = H) := by
  refine Met.ofW (cc := prog_14_method_1_code) (maxL := 3) (ret := (some .boolean)) (by decide +kernel) rfl ?_
  intro p e s m args below meth c s₁ B hml hv
  obtain ⟨rfl, hH, hK⟩ := hv
  subst hH
  have hx := B.exec
  have hb := B.bytes
  have hr := B.returns
  have hlocks := B.notSynchronized
  have hts := atoms_spec (ws := (Jvm.Cond.code yX12_in prog_14_method_1_code 3 (some .boolean) :: zg_tb)) B.pre
  have hown : s.vm.findClass RX12 = some m.cls := findClass_of_methodNamed B.named
  have S : CallFix p m c prog_14_method_1_code 3 s _ (Jvm.Cond.code yX12_in prog_14_method_1_code 3 (some .boolean) :: zg_tb) RX12 := ⟨hx, hb, hml, hown, hts⟩
  have hl := lv_entry ([.int a0, .int a1, .int a2]) (n := 3) (Nat.le_of_ble_eq_true rfl)
  rw [lg_entry_eq]
  generalize (lg_sl ([.int a0, .int a1, .int a2]) ++ List.replicate (3 - (lg_sl ([.int a0, .int a1, .int a2])).length) Slot.unset).toArray = ls at hl ⊢
  have hl : lv_has ls 3 [(0, .int a0), (1, .int a1), (2, .int a2)] := hl
  refine lv_iload_n hx hb (by decide +kernel : decode prog_14_method_1_code 0 = .ok (.iload_n 0, 1)) rfl (lv_at hl 0 rfl) ?_
  refine lv_iload_n hx hb (by decide +kernel : decode prog_14_method_1_code 1 = .ok (.iload_n 1, 1)) rfl (lv_at hl 1 rfl) ?_
  refine lv_icmp_lt (tgt := 14) hx hb (by decide +kernel : decode prog_14_method_1_code 2 = .ok (.if_icmp .lt 12, 3)) (by decide) (fun c_1 => ?_) (fun c_1 => ?_)
  · refine lv_iconst (v := 0) hx hb (by decide +kernel : decode prog_14_method_1_code 14 = .ok (.iconst 0, 1)) (by decide) ?_
    have e : zf_in a0 a1 a2 = 0 := by
      unfold zf_in
      first | (rw [if_pos]; simp only [Int32.lt_iff_toInt_lt, Int32.le_iff_toInt_le] at *; omega) | (rw [if_neg]; intro hh; simp only [Int32.lt_iff_toInt_lt, Int32.le_iff_toInt_le] at *; omega)
    rw [e]
    exact W.zret hx hb hr rfl (fun t ht _ => ⟨_, rfl, rfl, ht⟩) (fun q hq => absurd hq List.not_mem_nil) (by decide +kernel : decode prog_14_method_1_code 15 = .ok (.ireturn, 1))
  · refine lv_iload_n hx hb (by decide +kernel : decode prog_14_method_1_code 5 = .ok (.iload_n 0, 1)) rfl (lv_at hl 0 rfl) ?_
    refine lv_iload_n hx hb (by decide +kernel : decode prog_14_method_1_code 6 = .ok (.iload_n 2, 1)) rfl (lv_at hl 2 rfl) ?_
    refine lv_icmp_gt (tgt := 14) hx hb (by decide +kernel : decode prog_14_method_1_code 7 = .ok (.if_icmp .gt 7, 3)) (by decide) (fun c_2 => ?_) (fun c_2 => ?_)
    · refine lv_iconst (v := 0) hx hb (by decide +kernel : decode prog_14_method_1_code 14 = .ok (.iconst 0, 1)) (by decide) ?_
      have e : zf_in a0 a1 a2 = 0 := by
        unfold zf_in
        first | (rw [if_pos]; simp only [Int32.lt_iff_toInt_lt, Int32.le_iff_toInt_le] at *; omega) | (rw [if_neg]; intro hh; simp only [Int32.lt_iff_toInt_lt, Int32.le_iff_toInt_le] at *; omega)
      rw [e]
      exact W.zret hx hb hr rfl (fun t ht _ => ⟨_, rfl, rfl, ht⟩) (fun q hq => absurd hq List.not_mem_nil) (by decide +kernel : decode prog_14_method_1_code 15 = .ok (.ireturn, 1))
    · refine lv_iconst (v := 1) hx hb (by decide +kernel : decode prog_14_method_1_code 10 = .ok (.iconst 1, 1)) (by decide) ?_
      refine lv_goto (tgt := 15) hx hb (by decide +kernel : decode prog_14_method_1_code 11 = .ok (.goto 4, 3)) (by decide) ?_
      have e : zf_in a0 a1 a2 = 1 := by
        unfold zf_in
        first | (rw [if_pos]; simp only [Int32.lt_iff_toInt_lt, Int32.le_iff_toInt_le] at *; omega) | (rw [if_neg]; intro hh; simp only [Int32.lt_iff_toInt_lt, Int32.le_iff_toInt_le] at *; omega)
      rw [e]
      exact W.zret hx hb hr rfl (fun t ht _ => ⟨_, rfl, rfl, ht⟩) (fun q hq => absurd hq List.not_mem_nil) (by decide +kernel : decode prog_14_method_1_code 15 = .ok (.ireturn, 1))
set_option maxHeartbeats 4000000 in
set_option maxRecDepth 100000 in
theorem zh_ends {l : Launch} {D : zk_D} {base : Nat} {Hb H : Heap} (o : Nat) (a1 a2 a3 a4 : Int32) : zh_Met l base (zg_K D base Hb) yX11_ends (Jvm.Cond.code yX11_ends prog_1_method_34_code 8 (some .int) :: zg_tb) { frames := 1, cells := 0, slots := 0, locals := 20 } [.ref o, .int a1, .int a2, .int a3, .int a4] H (fun ov H' => ov = some (.int (zf_ends a1 a2 a3 a4)) ∧ H' = H) := by
  refine Met.ofW (cc := prog_1_method_34_code) (maxL := 8) (ret := (some .int)) (by decide +kernel) rfl ?_
  intro p e s m args below meth c s₁ B hml hv
  obtain ⟨rfl, hH, hK⟩ := hv
  subst hH
  have hx := B.exec
  have hb := B.bytes
  have hr := B.returns
  have hlocks := B.notSynchronized
  have hts := atoms_spec (ws := (Jvm.Cond.code yX11_ends prog_1_method_34_code 8 (some .int) :: zg_tb)) B.pre
  have hown : s.vm.findClass RX11 = some m.cls := findClass_of_methodNamed B.named
  have S : CallFix p m c prog_1_method_34_code 8 s _ (Jvm.Cond.code yX11_ends prog_1_method_34_code 8 (some .int) :: zg_tb) RX11 := ⟨hx, hb, hml, hown, hts⟩
  have hl := lv_entry ([.ref o, .int a1, .int a2, .int a3, .int a4]) (n := 8) (Nat.le_of_ble_eq_true rfl)
  rw [lg_entry_eq]
  generalize (lg_sl ([.ref o, .int a1, .int a2, .int a3, .int a4]) ++ List.replicate (8 - (lg_sl ([.ref o, .int a1, .int a2, .int a3, .int a4])).length) Slot.unset).toArray = ls at hl ⊢
  have hl : lv_has ls 8 [(0, .ref o), (1, .int a1), (2, .int a2), (3, .int a3), (4, .int a4)] := hl
  have loop : ∀ (j i : Nat) (ls : Array Slot), i + j = 21 → lv_has ls 8 [(7, .int (nI i)), (5, .long (a3.toInt64 * a4.toInt64)), (0, .ref o), (1, .int a1), (2, .int a2), (3, .int a3), (4, .int a4)] → W p l e (headSpec (Jvm.Cond.code yX11_ends prog_1_method_34_code 8 (some .int) :: zg_tb) { frames := 1, cells := 0, slots := 0, locals := 20 }).room s m (([Value.ref o, Value.int a1, Value.int a2, Value.int a3, Value.int a4] : List Value).toArray) below meth c s.heap [] 0 0 (MQ below (fun _ _ o t => ∃ ov, o = .returned ov ∧ (ov = some (.int (zf_el (a1.toInt64 * a2.toInt64) (a3.toInt64 * a4.toInt64) j i)) ∧ t.heap = s.heap)) (([Value.ref o, Value.int a1, Value.int a2, Value.int a3, Value.int a4] : List Value).toArray) s 0 0 (fun q => base ≤ q)) (F0 m 61 ls []) := by
    intro j
    induction j with
    | zero =>
      intro i ls hij hl
      have hi : i = 21 := by omega
      subst hi
      refine lv_iload hx hb (by decide +kernel : decode prog_1_method_34_code 61 = .ok (.iload 7, 2)) (lv_at hl 0 rfl) ?_
      refine lv_bipush (v := 20) hx hb (by decide +kernel : decode prog_1_method_34_code 63 = .ok (.bipush 20, 2)) (by decide) ?_
      refine lv_icmp_gt (tgt := 91) hx hb (by decide +kernel : decode prog_1_method_34_code 65 = .ok (.if_icmp .gt 26, 3)) (by decide) (fun c_1 => ?_) (fun c_1 => ?_)
      · refine lv_iconst (v := (-1)) hx hb (by decide +kernel : decode prog_1_method_34_code 91 = .ok (.iconst (-1), 1)) (by decide) ?_
        exact W.iret hx hb hr (fun t ht _ => ⟨_, rfl, rfl, ht⟩) (fun q hq => absurd hq List.not_mem_nil) (by decide +kernel : decode prog_1_method_34_code 92 = .ok (.ireturn, 1))
      · exact absurd (by decide : (20 : Int32) < nI 21) c_1
    | succ j ih =>
      intro i ls hij hl
      refine lv_iload hx hb (by decide +kernel : decode prog_1_method_34_code 61 = .ok (.iload 7, 2)) (lv_at hl 0 rfl) ?_
      refine lv_bipush (v := 20) hx hb (by decide +kernel : decode prog_1_method_34_code 63 = .ok (.bipush 20, 2)) (by decide) ?_
      refine lv_icmp_gt (tgt := 91) hx hb (by decide +kernel : decode prog_1_method_34_code 65 = .ok (.if_icmp .gt 26, 3)) (by decide) (fun c_1 => ?_) (fun c_1 => ?_)
      · exact absurd c_1 (by simp only [Int32.lt_iff_toInt_lt, nI_toInt (show i < 2 ^ 31 by omega)]; rw [show (20 : Int32).toInt = 20 from rfl]; omega)
      · refine lv_iload_n hx hb (by decide +kernel : decode prog_1_method_34_code 68 = .ok (.iload_n 1, 1)) rfl (lv_at hl 3 rfl) ?_
        refine lv_i2l (v := (a1).toInt64) hx hb (by decide +kernel : decode prog_1_method_34_code 69 = .ok (.i2l, 1)) rfl ?_
        refine lv_iload_n hx hb (by decide +kernel : decode prog_1_method_34_code 70 = .ok (.iload_n 2, 1)) rfl (lv_at hl 4 rfl) ?_
        refine lv_i2l (v := (a2).toInt64) hx hb (by decide +kernel : decode prog_1_method_34_code 71 = .ok (.i2l, 1)) rfl ?_
        refine lv_lmul hx hb (by decide +kernel : decode prog_1_method_34_code 72 = .ok (.lmul, 1)) ?_
        refine lv_iload hx hb (by decide +kernel : decode prog_1_method_34_code 73 = .ok (.iload 7, 2)) (lv_at hl 0 rfl) ?_
        refine lv_lshl (v := (((a1).toInt64 * (a2).toInt64) <<< (((nI i)).toInt64 &&& 63))) hx hb (by decide +kernel : decode prog_1_method_34_code 75 = .ok (.lshl, 1)) rfl ?_
        refine lv_lload hx hb (by decide +kernel : decode prog_1_method_34_code 76 = .ok (.lload 5, 2)) (lv_at hl 1 rfl) ?_
        refine W.lcmp hx hb (by decide +kernel : decode prog_1_method_34_code 78 = .ok (.lcmp, 1)) ?_
        refine lv_if_le (tgt := 85) hx hb (by decide +kernel : decode prog_1_method_34_code 79 = .ok (.ifCond .le 6, 3)) (by decide) (fun c_2 => ?_) (fun c_2 => ?_)
        · refine lv_iinc (v := ((nI i) + 1)) (lv' := [(7, .int ((nI i) + 1)), (5, .long (a3.toInt64 * a4.toInt64)), (0, .ref o), (1, .int a1), (2, .int a2), (3, .int a3), (4, .int a4)]) hx hb (by decide +kernel : decode prog_1_method_34_code 85 = .ok (.iinc 7 1, 3)) hl (k := 0) rfl rfl (by decide) rfl (fun ls hl => ?_)
          refine lv_goto (tgt := 61) hx hb (by decide +kernel : decode prog_1_method_34_code 88 = .ok (.goto (-27), 3)) (by decide) ?_
          have hle := (lg_cmp_le _ _).mp c_2
          have e0 : zf_el (a1.toInt64 * a2.toInt64) (a3.toInt64 * a4.toInt64) (j + 1) i = zf_el (a1.toInt64 * a2.toInt64) (a3.toInt64 * a4.toInt64) j (i + 1) := by rw [zf_el_s, if_neg (Int64.not_lt.mpr hle)]
          rw [e0]
          have ek : nI i + 1 = nI (i + 1) := nI_1 i
          rw [ek] at hl
          exact ih (i + 1) ls (by omega) (lv_sub hl [0, 1, 2, 3, 4, 5, 6] rfl)
        · refine lv_iload hx hb (by decide +kernel : decode prog_1_method_34_code 82 = .ok (.iload 7, 2)) (lv_at hl 0 rfl) ?_
          have hgt := Int64.not_le.mp (fun h => c_2 ((lg_cmp_le _ _).mpr h))
          have e0 : zf_el (a1.toInt64 * a2.toInt64) (a3.toInt64 * a4.toInt64) (j + 1) i = nI i := by rw [zf_el_s, if_pos hgt]
          rw [e0]
          exact W.iret hx hb hr (fun t ht _ => ⟨_, rfl, rfl, ht⟩) (fun q hq => absurd hq List.not_mem_nil) (by decide +kernel : decode prog_1_method_34_code 84 = .ok (.ireturn, 1))
  refine lv_iload_n hx hb (by decide +kernel : decode prog_1_method_34_code 0 = .ok (.iload_n 1, 1)) rfl (lv_at hl 1 rfl) ?_
  refine lv_if_lt (tgt := 22) hx hb (by decide +kernel : decode prog_1_method_34_code 1 = .ok (.ifCond .lt 21, 3)) (by decide) (fun c_1 => ?_) (fun c_1 => ?_)
  · refine lv_iconst (v := (-1)) hx hb (by decide +kernel : decode prog_1_method_34_code 22 = .ok (.iconst (-1), 1)) (by decide) ?_
    have e0 : zf_ends a1 a2 a3 a4 = -1 := by
      unfold zf_ends
      rw [if_neg]; intro hh; simp only [Int32.lt_iff_toInt_lt, Int32.le_iff_toInt_le] at *; omega
    rw [e0]
    exact W.iret hx hb hr (fun t ht _ => ⟨_, rfl, rfl, ht⟩) (fun q hq => absurd hq List.not_mem_nil) (by decide +kernel : decode prog_1_method_34_code 23 = .ok (.ireturn, 1))
  · refine lv_iload_n hx hb (by decide +kernel : decode prog_1_method_34_code 4 = .ok (.iload_n 1, 1)) rfl (lv_at hl 1 rfl) ?_
    refine lv_ldcw (v := 1000000) hx hb hown (hts _ (List.mem_cons_of_mem _ zw5_113)) (by decide +kernel : decode prog_1_method_34_code 5 = .ok (.ldc_w 373, 3)) ?_
    refine lv_icmp_gt (tgt := 22) hx hb (by decide +kernel : decode prog_1_method_34_code 8 = .ok (.if_icmp .gt 14, 3)) (by decide) (fun c_2 => ?_) (fun c_2 => ?_)
    · refine lv_iconst (v := (-1)) hx hb (by decide +kernel : decode prog_1_method_34_code 22 = .ok (.iconst (-1), 1)) (by decide) ?_
      have e0 : zf_ends a1 a2 a3 a4 = -1 := by
        unfold zf_ends
        rw [if_neg]; intro hh; simp only [Int32.lt_iff_toInt_lt, Int32.le_iff_toInt_le] at *; omega
      rw [e0]
      exact W.iret hx hb hr (fun t ht _ => ⟨_, rfl, rfl, ht⟩) (fun q hq => absurd hq List.not_mem_nil) (by decide +kernel : decode prog_1_method_34_code 23 = .ok (.ireturn, 1))
    · refine lv_iload_n hx hb (by decide +kernel : decode prog_1_method_34_code 11 = .ok (.iload_n 3, 1)) rfl (lv_at hl 3 rfl) ?_
      refine lv_if_lt (tgt := 22) hx hb (by decide +kernel : decode prog_1_method_34_code 12 = .ok (.ifCond .lt 10, 3)) (by decide) (fun c_3 => ?_) (fun c_3 => ?_)
      · refine lv_iconst (v := (-1)) hx hb (by decide +kernel : decode prog_1_method_34_code 22 = .ok (.iconst (-1), 1)) (by decide) ?_
        have e0 : zf_ends a1 a2 a3 a4 = -1 := by
          unfold zf_ends
          rw [if_neg]; intro hh; simp only [Int32.lt_iff_toInt_lt, Int32.le_iff_toInt_le] at *; omega
        rw [e0]
        exact W.iret hx hb hr (fun t ht _ => ⟨_, rfl, rfl, ht⟩) (fun q hq => absurd hq List.not_mem_nil) (by decide +kernel : decode prog_1_method_34_code 23 = .ok (.ireturn, 1))
      · refine lv_iload_n hx hb (by decide +kernel : decode prog_1_method_34_code 15 = .ok (.iload_n 3, 1)) rfl (lv_at hl 3 rfl) ?_
        refine lv_ldcw (v := 1000000) hx hb hown (hts _ (List.mem_cons_of_mem _ zw5_113)) (by decide +kernel : decode prog_1_method_34_code 16 = .ok (.ldc_w 373, 3)) ?_
        refine lv_icmp_le (tgt := 24) hx hb (by decide +kernel : decode prog_1_method_34_code 19 = .ok (.if_icmp .le 5, 3)) (by decide) (fun c_4 => ?_) (fun c_4 => ?_)
        · refine lv_iload_n hx hb (by decide +kernel : decode prog_1_method_34_code 24 = .ok (.iload_n 2, 1)) rfl (lv_at hl 2 rfl) ?_
          refine lv_if_lt (tgt := 48) hx hb (by decide +kernel : decode prog_1_method_34_code 25 = .ok (.ifCond .lt 23, 3)) (by decide) (fun c_5 => ?_) (fun c_5 => ?_)
          · refine lv_iconst (v := (-1)) hx hb (by decide +kernel : decode prog_1_method_34_code 48 = .ok (.iconst (-1), 1)) (by decide) ?_
            have e0 : zf_ends a1 a2 a3 a4 = -1 := by
              unfold zf_ends
              rw [if_neg]; intro hh; simp only [Int32.lt_iff_toInt_lt, Int32.le_iff_toInt_le] at *; omega
            rw [e0]
            exact W.iret hx hb hr (fun t ht _ => ⟨_, rfl, rfl, ht⟩) (fun q hq => absurd hq List.not_mem_nil) (by decide +kernel : decode prog_1_method_34_code 49 = .ok (.ireturn, 1))
          · refine lv_iload_n hx hb (by decide +kernel : decode prog_1_method_34_code 28 = .ok (.iload_n 2, 1)) rfl (lv_at hl 2 rfl) ?_
            refine lv_sipush (v := 1000) hx hb (by decide +kernel : decode prog_1_method_34_code 29 = .ok (.sipush 1000, 3)) (by decide) ?_
            refine lv_icmp_gt (tgt := 48) hx hb (by decide +kernel : decode prog_1_method_34_code 32 = .ok (.if_icmp .gt 16, 3)) (by decide) (fun c_6 => ?_) (fun c_6 => ?_)
            · refine lv_iconst (v := (-1)) hx hb (by decide +kernel : decode prog_1_method_34_code 48 = .ok (.iconst (-1), 1)) (by decide) ?_
              have e0 : zf_ends a1 a2 a3 a4 = -1 := by
                unfold zf_ends
                rw [if_neg]; intro hh; simp only [Int32.lt_iff_toInt_lt, Int32.le_iff_toInt_le] at *; omega
              rw [e0]
              exact W.iret hx hb hr (fun t ht _ => ⟨_, rfl, rfl, ht⟩) (fun q hq => absurd hq List.not_mem_nil) (by decide +kernel : decode prog_1_method_34_code 49 = .ok (.ireturn, 1))
            · refine lv_iload hx hb (by decide +kernel : decode prog_1_method_34_code 35 = .ok (.iload 4, 2)) (lv_at hl 4 rfl) ?_
              refine lv_if_lt (tgt := 48) hx hb (by decide +kernel : decode prog_1_method_34_code 37 = .ok (.ifCond .lt 11, 3)) (by decide) (fun c_7 => ?_) (fun c_7 => ?_)
              · refine lv_iconst (v := (-1)) hx hb (by decide +kernel : decode prog_1_method_34_code 48 = .ok (.iconst (-1), 1)) (by decide) ?_
                have e0 : zf_ends a1 a2 a3 a4 = -1 := by
                  unfold zf_ends
                  rw [if_neg]; intro hh; simp only [Int32.lt_iff_toInt_lt, Int32.le_iff_toInt_le] at *; omega
                rw [e0]
                exact W.iret hx hb hr (fun t ht _ => ⟨_, rfl, rfl, ht⟩) (fun q hq => absurd hq List.not_mem_nil) (by decide +kernel : decode prog_1_method_34_code 49 = .ok (.ireturn, 1))
              · refine lv_iload hx hb (by decide +kernel : decode prog_1_method_34_code 40 = .ok (.iload 4, 2)) (lv_at hl 4 rfl) ?_
                refine lv_sipush (v := 1000) hx hb (by decide +kernel : decode prog_1_method_34_code 42 = .ok (.sipush 1000, 3)) (by decide) ?_
                refine lv_icmp_le (tgt := 50) hx hb (by decide +kernel : decode prog_1_method_34_code 45 = .ok (.if_icmp .le 5, 3)) (by decide) (fun c_8 => ?_) (fun c_8 => ?_)
                · refine lv_iload_n hx hb (by decide +kernel : decode prog_1_method_34_code 50 = .ok (.iload_n 3, 1)) rfl (lv_at hl 3 rfl) ?_
                  refine lv_i2l (v := (a3).toInt64) hx hb (by decide +kernel : decode prog_1_method_34_code 51 = .ok (.i2l, 1)) rfl ?_
                  refine lv_iload hx hb (by decide +kernel : decode prog_1_method_34_code 52 = .ok (.iload 4, 2)) (lv_at hl 4 rfl) ?_
                  refine lv_i2l (v := (a4).toInt64) hx hb (by decide +kernel : decode prog_1_method_34_code 54 = .ok (.i2l, 1)) rfl ?_
                  refine lv_lmul hx hb (by decide +kernel : decode prog_1_method_34_code 55 = .ok (.lmul, 1)) ?_
                  refine lv_lstore (lv' := [(5, .long ((a3).toInt64 * (a4).toInt64)), (0, .ref o), (1, .int a1), (2, .int a2), (3, .int a3), (4, .int a4)]) hx hb (by decide +kernel : decode prog_1_method_34_code 56 = .ok (.lstore 5, 2)) hl (by decide) rfl (fun ls hl => ?_)
                  refine lv_iconst (v := 0) hx hb (by decide +kernel : decode prog_1_method_34_code 58 = .ok (.iconst 0, 1)) (by decide) ?_
                  refine lv_istore (lv' := [(7, .int 0), (5, .long ((a3).toInt64 * (a4).toInt64)), (0, .ref o), (1, .int a1), (2, .int a2), (3, .int a3), (4, .int a4)]) hx hb (by decide +kernel : decode prog_1_method_34_code 59 = .ok (.istore 7, 2)) hl (by decide) rfl (fun ls hl => ?_)
                  have e0 : zf_ends a1 a2 a3 a4 = zf_el (a1.toInt64 * a2.toInt64) (a3.toInt64 * a4.toInt64) 21 0 := by
                    unfold zf_ends
                    rw [if_pos]; simp only [Int32.lt_iff_toInt_lt, Int32.le_iff_toInt_le] at *; omega
                  rw [e0]
                  exact loop 21 0 ls rfl (lv_sub hl [0, 1, 2, 3, 4, 5, 6] rfl)
                · refine lv_iconst (v := (-1)) hx hb (by decide +kernel : decode prog_1_method_34_code 48 = .ok (.iconst (-1), 1)) (by decide) ?_
                  have e0 : zf_ends a1 a2 a3 a4 = -1 := by
                    unfold zf_ends
                    rw [if_neg]; intro hh; simp only [Int32.lt_iff_toInt_lt, Int32.le_iff_toInt_le] at *; omega
                  rw [e0]
                  exact W.iret hx hb hr (fun t ht _ => ⟨_, rfl, rfl, ht⟩) (fun q hq => absurd hq List.not_mem_nil) (by decide +kernel : decode prog_1_method_34_code 49 = .ok (.ireturn, 1))
        · refine lv_iconst (v := (-1)) hx hb (by decide +kernel : decode prog_1_method_34_code 22 = .ok (.iconst (-1), 1)) (by decide) ?_
          have e0 : zf_ends a1 a2 a3 a4 = -1 := by
            unfold zf_ends
            rw [if_neg]; intro hh; simp only [Int32.lt_iff_toInt_lt, Int32.le_iff_toInt_le] at *; omega
          rw [e0]
          exact W.iret hx hb hr (fun t ht _ => ⟨_, rfl, rfl, ht⟩) (fun q hq => absurd hq List.not_mem_nil) (by decide +kernel : decode prog_1_method_34_code 23 = .ok (.ireturn, 1))
set_option maxHeartbeats 4000000 in
set_option maxRecDepth 100000 in
theorem zh_endsM {l : Launch} {D : zk_D} {base : Nat} {Hb H : Heap} (o : Nat) (a1 a2 a3 a4 : Int32) : zh_Met l base (zg_K D base Hb) yX12_ends (Jvm.Cond.code yX12_ends prog_14_method_95_code 6 (some .int) :: zg_tb) { frames := 2, cells := 0, slots := 0, locals := 42 } [.ref o, .int a1, .int a2, .int a3, .int a4] H (fun ov H' => ov = some (.int (zf_ends a1 a2 a3 a4)) ∧ H' = H) := by
  refine Met.ofW (cc := prog_14_method_95_code) (maxL := 6) (ret := (some .int)) (by decide +kernel) rfl ?_
  intro p e s m args below meth c s₁ B hml hv
  obtain ⟨rfl, hH, hK⟩ := hv
  subst hH
  have hx := B.exec
  have hb := B.bytes
  have hr := B.returns
  have hlocks := B.notSynchronized
  have hts := atoms_spec (ws := (Jvm.Cond.code yX12_ends prog_14_method_95_code 6 (some .int) :: zg_tb)) B.pre
  have hown : s.vm.findClass RX12 = some m.cls := findClass_of_methodNamed B.named
  have S : CallFix p m c prog_14_method_95_code 6 s _ (Jvm.Cond.code yX12_ends prog_14_method_95_code 6 (some .int) :: zg_tb) RX12 := ⟨hx, hb, hml, hown, hts⟩
  have hl := lv_entry ([.ref o, .int a1, .int a2, .int a3, .int a4]) (n := 6) (Nat.le_of_ble_eq_true rfl)
  rw [lg_entry_eq]
  generalize (lg_sl ([.ref o, .int a1, .int a2, .int a3, .int a4]) ++ List.replicate (6 - (lg_sl ([.ref o, .int a1, .int a2, .int a3, .int a4])).length) Slot.unset).toArray = ls at hl ⊢
  have hl : lv_has ls 6 [(0, .ref o), (1, .int a1), (2, .int a2), (3, .int a3), (4, .int a4)] := hl
  have loop : ∀ (j i : Nat) (ls : Array Slot) (locs : List Loc), (∀ q ∈ locs, base ≤ q.base) → i + j = 21 → lv_has ls 6 [(5, .int (nI i)), (0, .ref o), (1, .int a1), (2, .int a2), (3, .int a3), (4, .int a4)] → W p l e (headSpec (Jvm.Cond.code yX12_ends prog_14_method_95_code 6 (some .int) :: zg_tb) { frames := 2, cells := 0, slots := 0, locals := 42 }).room s m (([Value.ref o, Value.int a1, Value.int a2, Value.int a3, Value.int a4] : List Value).toArray) below meth c s.heap locs 0 0 (MQ below (fun _ _ o t => ∃ ov, o = .returned ov ∧ (ov = some (.int (zf_el (a1.toInt64 * a2.toInt64) (a3.toInt64 * a4.toInt64) j i)) ∧ t.heap = s.heap)) (([Value.ref o, Value.int a1, Value.int a2, Value.int a3, Value.int a4] : List Value).toArray) s 0 0 (fun q => base ≤ q)) (F0 m 50 ls []) := by
    intro j
    induction j with
    | zero =>
      intro i ls locs hlc hij hl
      have hi : i = 21 := by omega
      subst hi
      refine lv_iload hx hb (by decide +kernel : decode prog_14_method_95_code 50 = .ok (.iload 5, 2)) (lv_at hl 0 rfl) ?_
      refine lv_bipush (v := 20) hx hb (by decide +kernel : decode prog_14_method_95_code 52 = .ok (.bipush 20, 2)) (by decide) ?_
      refine lv_icmp_gt (tgt := 86) hx hb (by decide +kernel : decode prog_14_method_95_code 54 = .ok (.if_icmp .gt 32, 3)) (by decide) (fun c_1 => ?_) (fun c_1 => ?_)
      · refine lv_iconst (v := (-1)) hx hb (by decide +kernel : decode prog_14_method_95_code 86 = .ok (.iconst (-1), 1)) (by decide) ?_
        exact W.iret hx hb hr (fun t ht _ => ⟨_, rfl, rfl, ht⟩) hlc (by decide +kernel : decode prog_14_method_95_code 87 = .ok (.ireturn, 1))
      · exact absurd (by decide : (20 : Int32) < nI 21) c_1
    | succ j ih =>
      intro i ls locs hlc hij hl
      have esh : (a1.toInt64 * a2.toInt64) * ((1 : Int64) <<< ((nI i).toInt64 &&& 63)) = (a1.toInt64 * a2.toInt64) <<< ((nI i).toInt64 &&& 63) := zf_shl _ _
      refine lv_iload hx hb (by decide +kernel : decode prog_14_method_95_code 50 = .ok (.iload 5, 2)) (lv_at hl 0 rfl) ?_
      refine lv_bipush (v := 20) hx hb (by decide +kernel : decode prog_14_method_95_code 52 = .ok (.bipush 20, 2)) (by decide) ?_
      refine lv_icmp_gt (tgt := 86) hx hb (by decide +kernel : decode prog_14_method_95_code 54 = .ok (.if_icmp .gt 32, 3)) (by decide) (fun c_1 => ?_) (fun c_1 => ?_)
      · exact absurd c_1 (by simp only [Int32.lt_iff_toInt_lt, nI_toInt (show i < 2 ^ 31 by omega)]; rw [show (20 : Int32).toInt = 20 from rfl]; omega)
      · refine lv_iload_n hx hb (by decide +kernel : decode prog_14_method_95_code 57 = .ok (.iload_n 1, 1)) rfl (lv_at hl 2 rfl) ?_
        refine lv_i2l (v := (a1).toInt64) hx hb (by decide +kernel : decode prog_14_method_95_code 58 = .ok (.i2l, 1)) rfl ?_
        refine lv_iload_n hx hb (by decide +kernel : decode prog_14_method_95_code 59 = .ok (.iload_n 2, 1)) rfl (lv_at hl 3 rfl) ?_
        refine lv_i2l (v := (a2).toInt64) hx hb (by decide +kernel : decode prog_14_method_95_code 60 = .ok (.i2l, 1)) rfl ?_
        refine lv_lmul hx hb (by decide +kernel : decode prog_14_method_95_code 61 = .ok (.lmul, 1)) ?_
        refine lv_lconst (v := 1) hx hb (by decide +kernel : decode prog_14_method_95_code 62 = .ok (.lconst 1, 1)) (by decide) ?_
        refine lv_iload hx hb (by decide +kernel : decode prog_14_method_95_code 63 = .ok (.iload 5, 2)) (lv_at hl 0 rfl) ?_
        refine lv_lshl (v := (1 <<< (((nI i)).toInt64 &&& 63))) hx hb (by decide +kernel : decode prog_14_method_95_code 65 = .ok (.lshl, 1)) rfl ?_
        refine lv_lmul hx hb (by decide +kernel : decode prog_14_method_95_code 66 = .ok (.lmul, 1)) ?_
        refine lv_iload_n hx hb (by decide +kernel : decode prog_14_method_95_code 67 = .ok (.iload_n 3, 1)) rfl (lv_at hl 4 rfl) ?_
        refine lv_i2l (v := (a3).toInt64) hx hb (by decide +kernel : decode prog_14_method_95_code 68 = .ok (.i2l, 1)) rfl ?_
        refine lv_iload hx hb (by decide +kernel : decode prog_14_method_95_code 69 = .ok (.iload 4, 2)) (lv_at hl 5 rfl) ?_
        refine lv_i2l (v := (a4).toInt64) hx hb (by decide +kernel : decode prog_14_method_95_code 71 = .ok (.i2l, 1)) rfl ?_
        refine lv_lmul hx hb (by decide +kernel : decode prog_14_method_95_code 72 = .ok (.lmul, 1)) ?_
        refine W.lcmp hx hb (by decide +kernel : decode prog_14_method_95_code 73 = .ok (.lcmp, 1)) ?_
        refine lv_if_le (tgt := 80) hx hb (by decide +kernel : decode prog_14_method_95_code 74 = .ok (.ifCond .le 6, 3)) (by decide) (fun c_2 => ?_) (fun c_2 => ?_)
        · refine lv_iinc (v := ((nI i) + 1)) (lv' := [(5, .int ((nI i) + 1)), (0, .ref o), (1, .int a1), (2, .int a2), (3, .int a3), (4, .int a4)]) hx hb (by decide +kernel : decode prog_14_method_95_code 80 = .ok (.iinc 5 1, 3)) hl (k := 0) rfl rfl (by decide) rfl (fun ls hl => ?_)
          refine lv_goto (tgt := 50) hx hb (by decide +kernel : decode prog_14_method_95_code 83 = .ok (.goto (-33), 3)) (by decide) ?_
          have hle := (lg_cmp_le _ _).mp c_2
          have hle : (a1.toInt64 * a2.toInt64) <<< ((nI i).toInt64 &&& 63) ≤ a3.toInt64 * a4.toInt64 := by rw [← esh]; exact hle
          have e0 : zf_el (a1.toInt64 * a2.toInt64) (a3.toInt64 * a4.toInt64) (j + 1) i = zf_el (a1.toInt64 * a2.toInt64) (a3.toInt64 * a4.toInt64) j (i + 1) := by rw [zf_el_s, if_neg (Int64.not_lt.mpr hle)]
          rw [e0]
          have ek : nI i + 1 = nI (i + 1) := nI_1 i
          rw [ek] at hl
          exact ih (i + 1) ls locs hlc (by omega) (lv_sub hl [0, 1, 2, 3, 4, 5] rfl)
        · refine lv_iload hx hb (by decide +kernel : decode prog_14_method_95_code 77 = .ok (.iload 5, 2)) (lv_at hl 0 rfl) ?_
          have hgt := Int64.not_le.mp (fun h => c_2 ((lg_cmp_le _ _).mpr h))
          have hgt : a3.toInt64 * a4.toInt64 < (a1.toInt64 * a2.toInt64) <<< ((nI i).toInt64 &&& 63) := by rw [← esh]; exact hgt
          have e0 : zf_el (a1.toInt64 * a2.toInt64) (a3.toInt64 * a4.toInt64) (j + 1) i = nI i := by rw [zf_el_s, if_pos hgt]
          rw [e0]
          exact W.iret hx hb hr (fun t ht _ => ⟨_, rfl, rfl, ht⟩) hlc (by decide +kernel : decode prog_14_method_95_code 79 = .ok (.ireturn, 1))
  have hlc : ∀ q ∈ ([] : List Loc), base ≤ q.base := fun q hq => absurd hq List.not_mem_nil
  refine lv_iload_n hx hb (by decide +kernel : decode prog_14_method_95_code 0 = .ok (.iload_n 1, 1)) rfl (lv_at hl 1 rfl) ?_
  refine lv_iconst (v := 0) hx hb (by decide +kernel : decode prog_14_method_95_code 1 = .ok (.iconst 0, 1)) (by decide) ?_
  refine lv_ldcw (v := 1000000) hx hb hown (hts _ (List.mem_cons_of_mem _ zw8_27)) (by decide +kernel : decode prog_14_method_95_code 2 = .ok (.ldc_w 458, 3)) ?_
  refine zh_callS (fun w h => List.mem_cons_of_mem _ h) zg_tb_all S hK zg_Km ⟨rfl, rfl⟩ (zh_in (D := D) (Hb := Hb) a1 0 1000000) zw6_145 zy_yX12_in_S rfl hl.1 rfl ⟨rfl, rfl⟩ (Nat.le_of_ble_eq_true rfl) (Nat.le_of_ble_eq_true rfl) (by decide +kernel : decode prog_14_method_95_code 5 = .ok (.invokestatic 160, 3)) hlc (fun ov H' locs hh hlc => ?_)
  obtain ⟨rfl, rfl⟩ := hh
  refine lv_if_eq (tgt := 45) hx hb (by decide +kernel : decode prog_14_method_95_code 8 = .ok (.ifCond .eq 37, 3)) (by decide) (fun c_1 => ?_) (fun c_1 => ?_)
  · refine lv_iconst (v := (-1)) hx hb (by decide +kernel : decode prog_14_method_95_code 45 = .ok (.iconst (-1), 1)) (by decide) ?_
    have e0 : zf_ends a1 a2 a3 a4 = -1 := by
      unfold zf_ends
      simp only [zf_in_0] at *
      rw [if_neg]; intro hh; simp only [Int32.lt_iff_toInt_lt, Int32.le_iff_toInt_le] at *; omega
    rw [e0]
    exact W.iret hx hb hr (fun t ht _ => ⟨_, rfl, rfl, ht⟩) hlc (by decide +kernel : decode prog_14_method_95_code 46 = .ok (.ireturn, 1))
  · refine lv_iload_n hx hb (by decide +kernel : decode prog_14_method_95_code 11 = .ok (.iload_n 3, 1)) rfl (lv_at hl 3 rfl) ?_
    refine lv_iconst (v := 0) hx hb (by decide +kernel : decode prog_14_method_95_code 12 = .ok (.iconst 0, 1)) (by decide) ?_
    refine lv_ldcw (v := 1000000) hx hb hown (hts _ (List.mem_cons_of_mem _ zw8_27)) (by decide +kernel : decode prog_14_method_95_code 13 = .ok (.ldc_w 458, 3)) ?_
    refine zh_callS (fun w h => List.mem_cons_of_mem _ h) zg_tb_all S hK zg_Km ⟨rfl, rfl⟩ (zh_in (D := D) (Hb := Hb) a3 0 1000000) zw6_145 zy_yX12_in_S rfl hl.1 rfl ⟨rfl, rfl⟩ (Nat.le_of_ble_eq_true rfl) (Nat.le_of_ble_eq_true rfl) (by decide +kernel : decode prog_14_method_95_code 16 = .ok (.invokestatic 160, 3)) hlc (fun ov H' locs hh hlc => ?_)
    obtain ⟨rfl, rfl⟩ := hh
    refine lv_if_eq (tgt := 45) hx hb (by decide +kernel : decode prog_14_method_95_code 19 = .ok (.ifCond .eq 26, 3)) (by decide) (fun c_2 => ?_) (fun c_2 => ?_)
    · refine lv_iconst (v := (-1)) hx hb (by decide +kernel : decode prog_14_method_95_code 45 = .ok (.iconst (-1), 1)) (by decide) ?_
      have e0 : zf_ends a1 a2 a3 a4 = -1 := by
        unfold zf_ends
        simp only [zf_in_0] at *
        rw [if_neg]; intro hh; simp only [Int32.lt_iff_toInt_lt, Int32.le_iff_toInt_le] at *; omega
      rw [e0]
      exact W.iret hx hb hr (fun t ht _ => ⟨_, rfl, rfl, ht⟩) hlc (by decide +kernel : decode prog_14_method_95_code 46 = .ok (.ireturn, 1))
    · refine lv_iload_n hx hb (by decide +kernel : decode prog_14_method_95_code 22 = .ok (.iload_n 2, 1)) rfl (lv_at hl 2 rfl) ?_
      refine lv_iconst (v := 0) hx hb (by decide +kernel : decode prog_14_method_95_code 23 = .ok (.iconst 0, 1)) (by decide) ?_
      refine lv_sipush (v := 1000) hx hb (by decide +kernel : decode prog_14_method_95_code 24 = .ok (.sipush 1000, 3)) (by decide) ?_
      refine zh_callS (fun w h => List.mem_cons_of_mem _ h) zg_tb_all S hK zg_Km ⟨rfl, rfl⟩ (zh_in (D := D) (Hb := Hb) a2 0 1000) zw6_145 zy_yX12_in_S rfl hl.1 rfl ⟨rfl, rfl⟩ (Nat.le_of_ble_eq_true rfl) (Nat.le_of_ble_eq_true rfl) (by decide +kernel : decode prog_14_method_95_code 27 = .ok (.invokestatic 160, 3)) hlc (fun ov H' locs hh hlc => ?_)
      obtain ⟨rfl, rfl⟩ := hh
      refine lv_if_eq (tgt := 45) hx hb (by decide +kernel : decode prog_14_method_95_code 30 = .ok (.ifCond .eq 15, 3)) (by decide) (fun c_3 => ?_) (fun c_3 => ?_)
      · refine lv_iconst (v := (-1)) hx hb (by decide +kernel : decode prog_14_method_95_code 45 = .ok (.iconst (-1), 1)) (by decide) ?_
        have e0 : zf_ends a1 a2 a3 a4 = -1 := by
          unfold zf_ends
          simp only [zf_in_0] at *
          rw [if_neg]; intro hh; simp only [Int32.lt_iff_toInt_lt, Int32.le_iff_toInt_le] at *; omega
        rw [e0]
        exact W.iret hx hb hr (fun t ht _ => ⟨_, rfl, rfl, ht⟩) hlc (by decide +kernel : decode prog_14_method_95_code 46 = .ok (.ireturn, 1))
      · refine lv_iload hx hb (by decide +kernel : decode prog_14_method_95_code 33 = .ok (.iload 4, 2)) (lv_at hl 4 rfl) ?_
        refine lv_iconst (v := 0) hx hb (by decide +kernel : decode prog_14_method_95_code 35 = .ok (.iconst 0, 1)) (by decide) ?_
        refine lv_sipush (v := 1000) hx hb (by decide +kernel : decode prog_14_method_95_code 36 = .ok (.sipush 1000, 3)) (by decide) ?_
        refine zh_callS (fun w h => List.mem_cons_of_mem _ h) zg_tb_all S hK zg_Km ⟨rfl, rfl⟩ (zh_in (D := D) (Hb := Hb) a4 0 1000) zw6_145 zy_yX12_in_S rfl hl.1 rfl ⟨rfl, rfl⟩ (Nat.le_of_ble_eq_true rfl) (Nat.le_of_ble_eq_true rfl) (by decide +kernel : decode prog_14_method_95_code 39 = .ok (.invokestatic 160, 3)) hlc (fun ov H' locs hh hlc => ?_)
        obtain ⟨rfl, rfl⟩ := hh
        refine lv_if_ne (tgt := 47) hx hb (by decide +kernel : decode prog_14_method_95_code 42 = .ok (.ifCond .ne 5, 3)) (by decide) (fun c_4 => ?_) (fun c_4 => ?_)
        · refine lv_iconst (v := 0) hx hb (by decide +kernel : decode prog_14_method_95_code 47 = .ok (.iconst 0, 1)) (by decide) ?_
          refine lv_istore (lv' := [(5, .int 0), (0, .ref o), (1, .int a1), (2, .int a2), (3, .int a3), (4, .int a4)]) hx hb (by decide +kernel : decode prog_14_method_95_code 48 = .ok (.istore 5, 2)) hl (by decide) rfl (fun ls hl => ?_)
          have e0 : zf_ends a1 a2 a3 a4 = zf_el (a1.toInt64 * a2.toInt64) (a3.toInt64 * a4.toInt64) 21 0 := by
            unfold zf_ends
            simp only [zf_in_0] at *
            rw [if_pos]; simp only [Int32.lt_iff_toInt_lt, Int32.le_iff_toInt_le] at *; omega
          rw [e0]
          exact loop 21 0 ls locs hlc rfl (lv_sub hl [0, 1, 2, 3, 4, 5] rfl)
        · refine lv_iconst (v := (-1)) hx hb (by decide +kernel : decode prog_14_method_95_code 45 = .ok (.iconst (-1), 1)) (by decide) ?_
          have e0 : zf_ends a1 a2 a3 a4 = -1 := by
            unfold zf_ends
            simp only [zf_in_0] at *
            rw [if_neg]; intro hh; simp only [Int32.lt_iff_toInt_lt, Int32.le_iff_toInt_le] at *; omega
          rw [e0]
          exact W.iret hx hb hr (fun t ht _ => ⟨_, rfl, rfl, ht⟩) hlc (by decide +kernel : decode prog_14_method_95_code 46 = .ok (.ireturn, 1))
