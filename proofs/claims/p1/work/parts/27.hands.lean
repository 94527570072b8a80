/-! BY HAND, 5: hands -/
def yX11_hands : MethodName := ⟨RX11, "hands", "(I)I"⟩
def yX12_hands : MethodName := ⟨RX12, "hands", "(I)I"⟩
theorem zw5_118 : Jvm.Cond.methodLink RX11 374 yJ7_fill_53178 ∈ zg_tb := zg_m5 (i := 118) (by decide +kernel) rfl
def zf_hd (a : Int32) : Int32 := if (0 : Int32) ≤ a ∧ a ≤ 0 then 0 else -1
theorem zf_in_n (a lo hi : Int32) : narrow .boolean (.int (zf_in a lo hi)) = .int (zf_in a lo hi) := by
  unfold zf_in
  split <;> rfl
set_option maxHeartbeats 4000000 in
set_option maxRecDepth 100000 in
theorem zh_fill {l : Launch} {D : zk_D} {base : Nat} {Hb H : Heap} (q n : Nat) (v : Int32) (hn : n < 2 ^ 31) (hq : base ≤ q) (hA : ∃ cq : Cell, H[q]? = some cq ∧ cq.cls = D.2.2.1 0 ∧ cq.vm = .none ∧ cq.slots.size = n) : zh_Met l base (zg_K D base Hb) yJ7_fill_53178 (Jvm.Cond.code yJ7_fill_53178 prog_23_method_103_code 4 none :: zg_tb) { frames := 1, cells := 0, slots := 0, locals := 20 } [.ref q, .int v] H (fun ov H' => ov = none ∧ (∃ cq : Cell, H'[q]? = some cq ∧ cq.cls = D.2.2.1 0 ∧ cq.vm = .none ∧ cq.slots.size = n ∧ ∀ j : Nat, j < n → cq.slots[j]? = some (.int v)) ∧ H'.size = H.size ∧ ∀ x : Nat, x ≠ q → H'[x]? = H[x]?) := by
  refine Met.ofW (cc := prog_23_method_103_code) (maxL := 4) (ret := none) (by decide +kernel) rfl ?_
  intro p e s m args below meth c s₁ B hml hv
  obtain ⟨rfl, hH, hK⟩ := hv
  subst hH
  have hx := B.exec
  have hb := B.bytes
  have hr := B.returns
  have hlocks := B.notSynchronized
  have hts := atoms_spec (ws := (Jvm.Cond.code yJ7_fill_53178 prog_23_method_103_code 4 none :: zg_tb)) B.pre
  have hown : s.vm.findClass RJ7 = some m.cls := findClass_of_methodNamed B.named
  have S : CallFix p m c prog_23_method_103_code 4 s _ (Jvm.Cond.code yJ7_fill_53178 prog_23_method_103_code 4 none :: zg_tb) RJ7 := ⟨hx, hb, hml, hown, hts⟩
  have hl := lv_entry ([.ref q, .int v]) (n := 4) (Nat.le_of_ble_eq_true rfl)
  rw [lg_entry_eq]
  generalize (lg_sl ([.ref q, .int v]) ++ List.replicate (4 - (lg_sl ([.ref q, .int v])).length) Slot.unset).toArray = ls at hl ⊢
  have hl : lv_has ls 4 [(0, .ref q), (1, .int v)] := hl
  have loop : ∀ (j i : Nat) (H1 : Heap) (locs : List Loc) (ls : Array Slot), i + j = n → (∃ cq : Cell, H1[q]? = some cq ∧ cq.cls = D.2.2.1 0 ∧ cq.vm = .none ∧ cq.slots.size = n ∧ ∀ j : Nat, j < i → cq.slots[j]? = some (.int v)) → H1.size = s.heap.size → (∀ x : Nat, x ≠ q → H1[x]? = s.heap[x]?) → (∀ z ∈ locs, base ≤ z.base) → lv_has ls 4 [(2, .int (nI i)), (3, .int (nI n)), (0, .ref q), (1, .int v)] → W p l e (headSpec (Jvm.Cond.code yJ7_fill_53178 prog_23_method_103_code 4 none :: zg_tb) { frames := 1, cells := 0, slots := 0, locals := 20 }).room s m (([Value.ref q, Value.int v] : List Value).toArray) below meth c H1 locs 0 0 (MQ below (fun _ _ oo tt => ∃ ov, oo = .returned ov ∧ ((fun ov H' => ov = none ∧ (∃ cq : Cell, H'[q]? = some cq ∧ cq.cls = D.2.2.1 0 ∧ cq.vm = .none ∧ cq.slots.size = n ∧ ∀ j : Nat, j < n → cq.slots[j]? = some (.int v)) ∧ H'.size = s.heap.size ∧ ∀ x : Nat, x ≠ q → H'[x]? = s.heap[x]?) ov tt.heap)) (([Value.ref q, Value.int v] : List Value).toArray) s 0 0 (fun q => base ≤ q)) (F0 m 5 ls []) := by
    intro j
    induction j with
    | zero =>
      intro i H1 locs ls hi hA1 hz hsame hlc hl
      have hi : i = n := by omega
      subst hi
      refine lv_iload_n hx hb (by decide +kernel : decode prog_23_method_103_code 5 = .ok (.iload_n 2, 1)) rfl (lv_at hl 0 rfl) ?_
      refine lv_iload_n hx hb (by decide +kernel : decode prog_23_method_103_code 6 = .ok (.iload_n 3, 1)) rfl (lv_at hl 1 rfl) ?_
      refine lv_icmp_ge (tgt := 20) hx hb (by decide +kernel : decode prog_23_method_103_code 7 = .ok (.if_icmp .ge 13, 3)) (by decide) (fun c_1 => ?_) (fun c_1 => ?_)
      · exact W.vret hx hb hr (fun t1 ht1 _ => ⟨_, rfl, rfl, by rw [ht1]; exact hA1, by rw [ht1]; exact hz, by rw [ht1]; exact hsame⟩) hlc (by decide +kernel : decode prog_23_method_103_code 20 = .ok (.return_, 1))
      · exact absurd ((zt_le hn hn).mpr (Nat.le_refl _)) c_1
    | succ j ih =>
      intro i H1 locs ls hi hA1 hz hsame hlc hl
      refine lv_iload_n hx hb (by decide +kernel : decode prog_23_method_103_code 5 = .ok (.iload_n 2, 1)) rfl (lv_at hl 0 rfl) ?_
      refine lv_iload_n hx hb (by decide +kernel : decode prog_23_method_103_code 6 = .ok (.iload_n 3, 1)) rfl (lv_at hl 1 rfl) ?_
      refine lv_icmp_ge (tgt := 20) hx hb (by decide +kernel : decode prog_23_method_103_code 7 = .ok (.if_icmp .ge 13, 3)) (by decide) (fun c_1 => ?_) (fun c_1 => ?_)
      · exact absurd ((zt_le hn (by omega)).mp c_1) (by omega)
      · refine lv_aload_n hx hb (by decide +kernel : decode prog_23_method_103_code 10 = .ok (.aload_n 0, 1)) rfl (lv_at hl 2 rfl) ?_
        refine lv_iload_n hx hb (by decide +kernel : decode prog_23_method_103_code 11 = .ok (.iload_n 2, 1)) rfl (lv_at hl 0 rfl) ?_
        refine lv_iload_n hx hb (by decide +kernel : decode prog_23_method_103_code 12 = .ok (.iload_n 1, 1)) rfl (lv_at hl 3 rfl) ?_
        obtain ⟨cq, e6, e7, e8, e9, e10⟩ := id hA1
        refine W.iast hx hb e6 (zk_isa (hK.2.2.1 0 .int rfl) e7 (zk_vk_of e8)) (by rw [e8]; exact fun h => by cases h) (zt_ix (show i < n by omega) hn e9) rfl rfl (by decide +kernel : decode prog_23_method_103_code 13 = .ok (.iastore, 1)) (fun H2 q1 q2 q3 => ?_)
        have ei : (nI i).toNatClampNeg = i := by
          have := nI_toInt (show i < 2 ^ 31 by omega)
          rw [Int32.toNatClampNeg, this]; omega
        rw [ei] at q1
        generalize hlo : locs ++ [(⟨q, _⟩ : Loc)] = lo2
        have hlc2 : ∀ z ∈ lo2, base ≤ z.base := by rw [← hlo]; exact zk_locs hlc hq
        refine W.eq (g2 := F0 m 14 ls []) rfl ?_
        refine lv_iinc (v := ((nI i) + 1)) (lv' := [(2, .int ((nI i) + 1)), (3, .int (nI n)), (0, .ref q), (1, .int v)]) hx hb (by decide +kernel : decode prog_23_method_103_code 14 = .ok (.iinc 2 1, 3)) hl (k := 0) rfl rfl (by decide) rfl (fun ls hl => ?_)
        refine lv_goto (tgt := 5) hx hb (by decide +kernel : decode prog_23_method_103_code 17 = .ok (.goto (-12), 3)) (by decide) ?_
        rw [nI_1 i] at hl
        refine ih (i + 1) H2 lo2 ls (by omega) ⟨_, q1, e7, e8, by rw [zk_size_set]; exact e9, fun j hj => ?_⟩ (by rw [q2]; exact hz) (fun x hx9 => by rw [q3 x hx9]; exact hsame x hx9) hlc2 (lv_sub hl [0, 1, 2, 3] rfl)
        by_cases hji : i = j
        · subst hji; exact Cell.slots_setSlot_self _ (by omega)
        · rw [slot_ne _ _ hji]; exact e10 j (by omega)
  have hlc : ∀ q ∈ ([] : List Loc), base ≤ q.base := fun q hq => absurd hq List.not_mem_nil
  refine lv_iconst (v := 0) hx hb (by decide +kernel : decode prog_23_method_103_code 0 = .ok (.iconst 0, 1)) (by decide) ?_
  refine lv_istore_n (lv' := [(2, .int 0), (0, .ref q), (1, .int v)]) hx hb (by decide +kernel : decode prog_23_method_103_code 1 = .ok (.istore_n 2, 1)) rfl hl (by decide) rfl (fun ls hl => ?_)
  refine lv_aload_n hx hb (by decide +kernel : decode prog_23_method_103_code 2 = .ok (.aload_n 0, 1)) rfl (lv_at hl 1 rfl) ?_
  obtain ⟨cq, e6, e7, e8, e9⟩ := id hA
  refine W.alen (n := nI n) hx hb e6 (zk_isa (hK.2.2.1 0 .int rfl) e7 (zk_vk_of e8)) (by rw [e9]; rfl) rfl rfl (by decide +kernel : decode prog_23_method_103_code 3 = .ok (.arraylength, 1)) ?_
  refine W.eq (g2 := F0 m 4 ls [.int (nI n)]) rfl ?_
  refine lv_istore_n (lv' := [(3, .int (nI n)), (2, .int 0), (0, .ref q), (1, .int v)]) hx hb (by decide +kernel : decode prog_23_method_103_code 4 = .ok (.istore_n 3, 1)) rfl hl (by decide) rfl (fun ls hl => ?_)
  exact loop n 0 s.heap [] ls (Nat.zero_add n) ⟨cq, e6, e7, e8, e9, fun j hj => absurd hj (Nat.not_lt_zero j)⟩ rfl (fun _ _ => rfl) hlc (lv_sub hl [1, 0, 2, 3] rfl)
set_option maxHeartbeats 4000000 in
set_option maxRecDepth 100000 in
theorem zh_isPast {l : Launch} {D : zk_D} {base : Nat} {Hb H : Heap} (o : Nat) (a1 : Int32) (hO : ∃ cx : Cell, H[o]? = some cx ∧ cx.cls = D.1 11 ∧ zk_vk cx ∧ cx.slots[D.2.1 11 13]? = some (.int 0)) : zh_Met l base (zg_K D base Hb) yX11_isPast (Jvm.Cond.code yX11_isPast prog_1_method_39_code 2 (some .boolean) :: zg_tb) { frames := 1, cells := 0, slots := 0, locals := 20 } [.ref o, .int a1] H (fun ov H' => ov = some (.int (zf_in a1 0 0)) ∧ H' = H) := by
  refine Met.ofW (cc := prog_1_method_39_code) (maxL := 2) (ret := (some .boolean)) (by decide +kernel) rfl ?_
  intro p e s m args below meth c s₁ B hml hv
  obtain ⟨rfl, hH, hK⟩ := hv
  subst hH
  have hx := B.exec
  have hb := B.bytes
  have hr := B.returns
  have hlocks := B.notSynchronized
  have hts := atoms_spec (ws := (Jvm.Cond.code yX11_isPast prog_1_method_39_code 2 (some .boolean) :: zg_tb)) B.pre
  have hown : s.vm.findClass RX11 = some m.cls := findClass_of_methodNamed B.named
  have S : CallFix p m c prog_1_method_39_code 2 s _ (Jvm.Cond.code yX11_isPast prog_1_method_39_code 2 (some .boolean) :: zg_tb) RX11 := ⟨hx, hb, hml, hown, hts⟩
  have hl := lv_entry ([.ref o, .int a1]) (n := 2) (Nat.le_of_ble_eq_true rfl)
  rw [lg_entry_eq]
  generalize (lg_sl ([.ref o, .int a1]) ++ List.replicate (2 - (lg_sl ([.ref o, .int a1])).length) Slot.unset).toArray = ls at hl ⊢
  have hl : lv_has ls 2 [(0, .ref o), (1, .int a1)] := hl
  refine lv_iload_n hx hb (by decide +kernel : decode prog_1_method_39_code 0 = .ok (.iload_n 1, 1)) rfl (lv_at hl 1 rfl) ?_
  refine lv_if_lt (tgt := 16) hx hb (by decide +kernel : decode prog_1_method_39_code 1 = .ok (.ifCond .lt 15, 3)) (by decide) (fun c_1 => ?_) (fun c_1 => ?_)
  · refine lv_iconst (v := 0) hx hb (by decide +kernel : decode prog_1_method_39_code 16 = .ok (.iconst 0, 1)) (by decide) ?_
    have e : zf_in a1 0 0 = 0 := by
      unfold zf_in
      first | (rw [if_pos]; simp only [Int32.lt_iff_toInt_lt, Int32.le_iff_toInt_le] at *; omega) | (rw [if_neg]; intro hh; simp only [Int32.lt_iff_toInt_lt, Int32.le_iff_toInt_le] at *; omega)
    rw [e]
    exact W.zret hx hb hr rfl (fun t ht _ => ⟨_, rfl, rfl, ht⟩) (fun q hq => absurd hq List.not_mem_nil) (by decide +kernel : decode prog_1_method_39_code 17 = .ok (.ireturn, 1))
  · refine lv_iload_n hx hb (by decide +kernel : decode prog_1_method_39_code 4 = .ok (.iload_n 1, 1)) rfl (lv_at hl 1 rfl) ?_
    refine lv_aload_n hx hb (by decide +kernel : decode prog_1_method_39_code 5 = .ok (.aload_n 0, 1)) rfl (lv_at hl 0 rfl) ?_
    obtain ⟨cx, x1, x2, x3, x4⟩ := id hO
    refine (zg_gok' S (hK.2.1 11 _ rfl) (fun w h => List.mem_cons_of_mem _ (zc11 w h)) rfl zt11_13 (List.mem_cons_of_mem _ zw2_66) : zk_gok _ _ _ _ _ _ _ _ _ _ _ D _ _ 11 13) x1 x2 x3 x4 (by decide +kernel : decode prog_1_method_39_code 6 = .ok (.getfield 88, 3)) ?_
    refine lv_icmp_gt (tgt := 16) hx hb (by decide +kernel : decode prog_1_method_39_code 9 = .ok (.if_icmp .gt 7, 3)) (by decide) (fun c_2 => ?_) (fun c_2 => ?_)
    · refine lv_iconst (v := 0) hx hb (by decide +kernel : decode prog_1_method_39_code 16 = .ok (.iconst 0, 1)) (by decide) ?_
      have e : zf_in a1 0 0 = 0 := by
        unfold zf_in
        first | (rw [if_pos]; simp only [Int32.lt_iff_toInt_lt, Int32.le_iff_toInt_le] at *; omega) | (rw [if_neg]; intro hh; simp only [Int32.lt_iff_toInt_lt, Int32.le_iff_toInt_le] at *; omega)
      rw [e]
      exact W.zret hx hb hr rfl (fun t ht _ => ⟨_, rfl, rfl, ht⟩) (fun q hq => absurd hq List.not_mem_nil) (by decide +kernel : decode prog_1_method_39_code 17 = .ok (.ireturn, 1))
    · refine lv_iconst (v := 1) hx hb (by decide +kernel : decode prog_1_method_39_code 12 = .ok (.iconst 1, 1)) (by decide) ?_
      refine lv_goto (tgt := 17) hx hb (by decide +kernel : decode prog_1_method_39_code 13 = .ok (.goto 4, 3)) (by decide) ?_
      have e : zf_in a1 0 0 = 1 := by
        unfold zf_in
        first | (rw [if_pos]; simp only [Int32.lt_iff_toInt_lt, Int32.le_iff_toInt_le] at *; omega) | (rw [if_neg]; intro hh; simp only [Int32.lt_iff_toInt_lt, Int32.le_iff_toInt_le] at *; omega)
      rw [e]
      exact W.zret hx hb hr rfl (fun t ht _ => ⟨_, rfl, rfl, ht⟩) (fun q hq => absurd hq List.not_mem_nil) (by decide +kernel : decode prog_1_method_39_code 17 = .ok (.ireturn, 1))
set_option maxHeartbeats 4000000 in
set_option maxRecDepth 100000 in
theorem zh_isKnowing {l : Launch} {D : zk_D} {base : Nat} {Hb H : Heap} (o : Nat) (a1 : Int32) (hO : ∃ cx : Cell, H[o]? = some cx ∧ cx.cls = D.1 12 ∧ zk_vk cx ∧ cx.slots[D.2.1 12 0]? = some (.int 0)) : zh_Met l base (zg_K D base Hb) yX12_isKnowing (Jvm.Cond.code yX12_isKnowing prog_14_method_3_code 2 (some .boolean) :: zg_tb) { frames := 2, cells := 0, slots := 0, locals := 60 } [.ref o, .int a1] H (fun ov H' => ov = some (.int (zf_in a1 0 0)) ∧ H' = H) := by
  refine Met.ofW (cc := prog_14_method_3_code) (maxL := 2) (ret := (some .boolean)) (by decide +kernel) rfl ?_
  intro p e s m args below meth c s₁ B hml hv
  obtain ⟨rfl, hH, hK⟩ := hv
  subst hH
  have hx := B.exec
  have hb := B.bytes
  have hr := B.returns
  have hlocks := B.notSynchronized
  have hts := atoms_spec (ws := (Jvm.Cond.code yX12_isKnowing prog_14_method_3_code 2 (some .boolean) :: zg_tb)) B.pre
  have hown : s.vm.findClass RX12 = some m.cls := findClass_of_methodNamed B.named
  have S : CallFix p m c prog_14_method_3_code 2 s _ (Jvm.Cond.code yX12_isKnowing prog_14_method_3_code 2 (some .boolean) :: zg_tb) RX12 := ⟨hx, hb, hml, hown, hts⟩
  have hl := lv_entry ([.ref o, .int a1]) (n := 2) (Nat.le_of_ble_eq_true rfl)
  rw [lg_entry_eq]
  generalize (lg_sl ([.ref o, .int a1]) ++ List.replicate (2 - (lg_sl ([.ref o, .int a1])).length) Slot.unset).toArray = ls at hl ⊢
  have hl : lv_has ls 2 [(0, .ref o), (1, .int a1)] := hl
  have hlc : ∀ q ∈ ([] : List Loc), base ≤ q.base := fun q hq => absurd hq List.not_mem_nil
  refine lv_iload_n hx hb (by decide +kernel : decode prog_14_method_3_code 0 = .ok (.iload_n 1, 1)) rfl (lv_at hl 1 rfl) ?_
  refine lv_iconst (v := 0) hx hb (by decide +kernel : decode prog_14_method_3_code 1 = .ok (.iconst 0, 1)) (by decide) ?_
  refine lv_aload_n hx hb (by decide +kernel : decode prog_14_method_3_code 2 = .ok (.aload_n 0, 1)) rfl (lv_at hl 0 rfl) ?_
  obtain ⟨cx, x1, x2, x3, x4⟩ := id hO
  refine (zg_gok' S (hK.2.1 12 _ rfl) (fun w h => List.mem_cons_of_mem _ (zc12 w h)) rfl zt12_0 (List.mem_cons_of_mem _ zw5_159) : zk_gok _ _ _ _ _ _ _ _ _ _ _ D _ _ 12 0) x1 x2 x3 x4 (by decide +kernel : decode prog_14_method_3_code 3 = .ok (.getfield 156, 3)) ?_
  refine zh_callS (fun w h => List.mem_cons_of_mem _ h) zg_tb_all S hK zg_Km ⟨rfl, rfl⟩ (zh_in (D := D) (Hb := Hb) a1 0 0) zw6_145 zy_yX12_in_S rfl hl.1 rfl ⟨rfl, rfl⟩ (Nat.le_of_ble_eq_true rfl) (Nat.le_of_ble_eq_true rfl) (by decide +kernel : decode prog_14_method_3_code 6 = .ok (.invokestatic 160, 3)) hlc (fun ov H' locs hh hlc => ?_)
  obtain ⟨rfl, hHe⟩ := hh
  rw [hHe]
  exact W.zret hx hb hr (zf_in_n a1 0 0) (fun t ht _ => ⟨_, rfl, rfl, ht⟩) hlc (by decide +kernel : decode prog_14_method_3_code 9 = .ok (.ireturn, 1))
set_option maxHeartbeats 4000000 in
set_option maxRecDepth 100000 in
theorem zh_handsM {l : Launch} {D : zk_D} {base : Nat} {Hb H : Heap} (o : Nat) (a1 : Int32) (hO : ∃ cx : Cell, H[o]? = some cx ∧ cx.cls = D.1 12 ∧ zk_vk cx ∧ cx.slots[D.2.1 12 0]? = some (.int 0)) (hO1 : ∃ cx : Cell, H[o]? = some cx ∧ cx.cls = D.1 12 ∧ zk_vk cx ∧ cx.slots[D.2.1 12 6]? = some (.int 0)) (hO2 : ∃ cx : Cell, H[o]? = some cx ∧ cx.cls = D.1 12 ∧ zk_vk cx ∧ cx.slots[D.2.1 12 44]? = some (.int 0)) : zh_Met l base (zg_K D base Hb) yX12_hands (Jvm.Cond.code yX12_hands prog_14_method_97_code 7 (some .int) :: zg_tb) { frames := 3, cells := 0, slots := 0, locals := 120 } [.ref o, .int a1] H (fun ov H' => ov = some (.int (zf_hd a1)) ∧ H' = H) := by
  refine Met.ofW (cc := prog_14_method_97_code) (maxL := 7) (ret := (some .int)) (by decide +kernel) rfl ?_
  intro p e s m args below meth c s₁ B hml hv
  obtain ⟨rfl, hH, hK⟩ := hv
  subst hH
  have hx := B.exec
  have hb := B.bytes
  have hr := B.returns
  have hlocks := B.notSynchronized
  have hts := atoms_spec (ws := (Jvm.Cond.code yX12_hands prog_14_method_97_code 7 (some .int) :: zg_tb)) B.pre
  have hown : s.vm.findClass RX12 = some m.cls := findClass_of_methodNamed B.named
  have S : CallFix p m c prog_14_method_97_code 7 s _ (Jvm.Cond.code yX12_hands prog_14_method_97_code 7 (some .int) :: zg_tb) RX12 := ⟨hx, hb, hml, hown, hts⟩
  have hl := lv_entry ([.ref o, .int a1]) (n := 7) (Nat.le_of_ble_eq_true rfl)
  rw [lg_entry_eq]
  generalize (lg_sl ([.ref o, .int a1]) ++ List.replicate (7 - (lg_sl ([.ref o, .int a1])).length) Slot.unset).toArray = ls at hl ⊢
  have hl : lv_has ls 7 [(0, .ref o), (1, .int a1)] := hl
  have hlc : ∀ q ∈ ([] : List Loc), base ≤ q.base := fun q hq => absurd hq List.not_mem_nil
  refine lv_aload_n hx hb (by decide +kernel : decode prog_14_method_97_code 0 = .ok (.aload_n 0, 1)) rfl (lv_at hl 0 rfl) ?_
  refine lv_iload_n hx hb (by decide +kernel : decode prog_14_method_97_code 1 = .ok (.iload_n 1, 1)) rfl (lv_at hl 1 rfl) ?_
  obtain ⟨cy, y1, y2, y3, y4⟩ := id hO
  refine zh_callV (fun w h => List.mem_cons_of_mem _ h) zg_tb_all S hK zg_Km ⟨rfl, rfl⟩ (zh_isKnowing (D := D) (Hb := Hb) o a1 hO) zw7_57 zy_yX12_isKnowing_V ⟨cy, y1, y3, by rw [y2]; exact (hK.2.1 12 _ rfl).2.1⟩ rfl hl.1 rfl ⟨rfl, rfl⟩ (Nat.le_of_ble_eq_true rfl) (Nat.le_of_ble_eq_true rfl) (by decide +kernel : decode prog_14_method_97_code 2 = .ok (.invokevirtual 304, 3)) hlc (fun ov H' locs hh hlc => ?_)
  obtain ⟨rfl, hHe⟩ := hh
  rw [hHe]
  refine lv_if_ne (tgt := 10) hx hb (by decide +kernel : decode prog_14_method_97_code 5 = .ok (.ifCond .ne 5, 3)) (by decide) (fun c_1 => ?_) (fun c_1 => ?_)
  · refine lv_iconst (v := 0) hx hb (by decide +kernel : decode prog_14_method_97_code 10 = .ok (.iconst 0, 1)) (by decide) ?_
    refine lv_istore_n (lv' := [(2, .int 0), (0, .ref o), (1, .int a1)]) hx hb (by decide +kernel : decode prog_14_method_97_code 11 = .ok (.istore_n 2, 1)) rfl hl (by decide) rfl (fun ls hl => ?_)
    refine lv_iload_n hx hb (by decide +kernel : decode prog_14_method_97_code 12 = .ok (.iload_n 2, 1)) rfl (lv_at hl 0 rfl) ?_
    refine lv_aload_n hx hb (by decide +kernel : decode prog_14_method_97_code 13 = .ok (.aload_n 0, 1)) rfl (lv_at hl 1 rfl) ?_
    obtain ⟨cx, x1, x2, x3, x4⟩ := id hO1
    refine (zg_gok' S (hK.2.1 12 _ rfl) (fun w h => List.mem_cons_of_mem _ (zc12 w h)) rfl zt12_6 (List.mem_cons_of_mem _ zw5_165) : zk_gok _ _ _ _ _ _ _ _ _ _ _ D _ _ 12 6) x1 x2 x3 x4 (by decide +kernel : decode prog_14_method_97_code 14 = .ok (.getfield 164, 3)) ?_
    refine lv_icmp_ge (tgt := 33) hx hb (by decide +kernel : decode prog_14_method_97_code 17 = .ok (.if_icmp .ge 16, 3)) (by decide) (fun c_2 => ?_) (fun c_2 => absurd (by decide) c_2)
    refine lv_iconst (v := 0) hx hb (by decide +kernel : decode prog_14_method_97_code 33 = .ok (.iconst 0, 1)) (by decide) ?_
    refine lv_istore_n (lv' := [(2, .int 0), (0, .ref o), (1, .int a1)]) hx hb (by decide +kernel : decode prog_14_method_97_code 34 = .ok (.istore_n 2, 1)) rfl hl (by decide) rfl (fun ls hl => ?_)
    refine lv_iload_n hx hb (by decide +kernel : decode prog_14_method_97_code 35 = .ok (.iload_n 2, 1)) rfl (lv_at hl 0 rfl) ?_
    refine lv_aload_n hx hb (by decide +kernel : decode prog_14_method_97_code 36 = .ok (.aload_n 0, 1)) rfl (lv_at hl 1 rfl) ?_
    obtain ⟨cx, x1, x2, x3, x4⟩ := id hO2
    refine (zg_gok' S (hK.2.1 12 _ rfl) (fun w h => List.mem_cons_of_mem _ (zc12 w h)) rfl zt12_44 (List.mem_cons_of_mem _ zw5_203) : zk_gok _ _ _ _ _ _ _ _ _ _ _ D _ _ 12 44) x1 x2 x3 x4 (by decide +kernel : decode prog_14_method_97_code 37 = .ok (.getfield 341, 3)) ?_
    refine lv_icmp_ge (tgt := 87) hx hb (by decide +kernel : decode prog_14_method_97_code 40 = .ok (.if_icmp .ge 47, 3)) (by decide) (fun c_3 => ?_) (fun c_3 => absurd (by decide) c_3)
    refine lv_iconst (v := 0) hx hb (by decide +kernel : decode prog_14_method_97_code 87 = .ok (.iconst 0, 1)) (by decide) ?_
    refine lv_istore_n (lv' := [(2, .int 0), (0, .ref o), (1, .int a1)]) hx hb (by decide +kernel : decode prog_14_method_97_code 88 = .ok (.istore_n 2, 1)) rfl hl (by decide) rfl (fun ls hl => ?_)
    refine lv_iload_n hx hb (by decide +kernel : decode prog_14_method_97_code 89 = .ok (.iload_n 2, 1)) rfl (lv_at hl 0 rfl) ?_
    refine lv_aload_n hx hb (by decide +kernel : decode prog_14_method_97_code 90 = .ok (.aload_n 0, 1)) rfl (lv_at hl 1 rfl) ?_
    obtain ⟨cx, x1, x2, x3, x4⟩ := id hO2
    refine (zg_gok' S (hK.2.1 12 _ rfl) (fun w h => List.mem_cons_of_mem _ (zc12 w h)) rfl zt12_44 (List.mem_cons_of_mem _ zw5_203) : zk_gok _ _ _ _ _ _ _ _ _ _ _ D _ _ 12 44) x1 x2 x3 x4 (by decide +kernel : decode prog_14_method_97_code 91 = .ok (.getfield 341, 3)) ?_
    refine lv_icmp_ge (tgt := 230) hx hb (by decide +kernel : decode prog_14_method_97_code 94 = .ok (.if_icmp .ge 136, 3)) (by decide) (fun c_4 => ?_) (fun c_4 => absurd (by decide) c_4)
    refine lv_iconst (v := 0) hx hb (by decide +kernel : decode prog_14_method_97_code 230 = .ok (.iconst 0, 1)) (by decide) ?_
    refine lv_istore_n (lv' := [(2, .int 0), (0, .ref o), (1, .int a1)]) hx hb (by decide +kernel : decode prog_14_method_97_code 231 = .ok (.istore_n 2, 1)) rfl hl (by decide) rfl (fun ls hl => ?_)
    refine lv_iconst (v := 0) hx hb (by decide +kernel : decode prog_14_method_97_code 232 = .ok (.iconst 0, 1)) (by decide) ?_
    refine lv_istore_n (lv' := [(3, .int 0), (2, .int 0), (0, .ref o), (1, .int a1)]) hx hb (by decide +kernel : decode prog_14_method_97_code 233 = .ok (.istore_n 3, 1)) rfl hl (by decide) rfl (fun ls hl => ?_)
    refine lv_iload_n hx hb (by decide +kernel : decode prog_14_method_97_code 234 = .ok (.iload_n 3, 1)) rfl (lv_at hl 0 rfl) ?_
    refine lv_aload_n hx hb (by decide +kernel : decode prog_14_method_97_code 235 = .ok (.aload_n 0, 1)) rfl (lv_at hl 2 rfl) ?_
    obtain ⟨cx, x1, x2, x3, x4⟩ := id hO1
    refine (zg_gok' S (hK.2.1 12 _ rfl) (fun w h => List.mem_cons_of_mem _ (zc12 w h)) rfl zt12_6 (List.mem_cons_of_mem _ zw5_165) : zk_gok _ _ _ _ _ _ _ _ _ _ _ D _ _ 12 6) x1 x2 x3 x4 (by decide +kernel : decode prog_14_method_97_code 236 = .ok (.getfield 164, 3)) ?_
    refine lv_icmp_ge (tgt := 321) hx hb (by decide +kernel : decode prog_14_method_97_code 239 = .ok (.if_icmp .ge 82, 3)) (by decide) (fun c_5 => ?_) (fun c_5 => absurd (by decide) c_5)
    refine lv_iload_n hx hb (by decide +kernel : decode prog_14_method_97_code 321 = .ok (.iload_n 2, 1)) rfl (lv_at hl 1 rfl) ?_
    have e : zf_hd a1 = 0 := by
      unfold zf_hd
      first | (rw [if_pos]; exact Decidable.not_not.mp (fun hh => c_1 ((zf_in_0 _ _ _).mpr hh))) | (rw [if_neg]; exact (zf_in_0 _ _ _).mp c_1)
    rw [e]
    exact W.iret hx hb hr (fun t ht _ => ⟨_, rfl, rfl, ht⟩) hlc (by decide +kernel : decode prog_14_method_97_code 322 = .ok (.ireturn, 1))
  · refine lv_iconst (v := (-1)) hx hb (by decide +kernel : decode prog_14_method_97_code 8 = .ok (.iconst (-1), 1)) (by decide) ?_
    have e : zf_hd a1 = (-1) := by
      unfold zf_hd
      first | (rw [if_pos]; exact Decidable.not_not.mp (fun hh => c_1 ((zf_in_0 _ _ _).mpr hh))) | (rw [if_neg]; exact (zf_in_0 _ _ _).mp c_1)
    rw [e]
    exact W.iret hx hb hr (fun t ht _ => ⟨_, rfl, rfl, ht⟩) hlc (by decide +kernel : decode prog_14_method_97_code 9 = .ok (.ireturn, 1))
set_option maxHeartbeats 4000000 in
set_option maxRecDepth 100000 in
theorem zh_hands {l : Launch} {D : zk_D} {base : Nat} {Hb H : Heap} (o q : Nat) (a1 : Int32) (hoq : o ≠ q) (hq : base ≤ q) (hO : (∃ cx : Cell, H[o]? = some cx ∧ cx.cls = D.1 11 ∧ zk_vk cx ∧ cx.slots[D.2.1 11 13]? = some (.int 0) ∧ cx.slots[D.2.1 11 12]? = some (.ref q) ∧ cx.slots[D.2.1 11 15]? = some (.int 0))) (hA : ∃ cq : Cell, H[q]? = some cq ∧ cq.cls = D.2.2.1 0 ∧ cq.vm = .none ∧ cq.slots.size = 12) : zh_Met l base (zg_K D base Hb) yX11_hands (Jvm.Cond.code yX11_hands prog_1_method_35_code 5 (some .int) :: zg_tb) { frames := 3, cells := 0, slots := 0, locals := 120 } [.ref o, .int a1] H (fun ov H' => ov = some (.int (zf_hd a1)) ∧ H'.size = H.size ∧ ∀ x : Nat, x ≠ q → H'[x]? = H[x]?) := by
  refine Met.ofW (cc := prog_1_method_35_code) (maxL := 5) (ret := (some .int)) (by decide +kernel) rfl ?_
  intro p e s m args below meth c s₁ B hml hv
  obtain ⟨rfl, hH, hK⟩ := hv
  subst hH
  have hx := B.exec
  have hb := B.bytes
  have hr := B.returns
  have hlocks := B.notSynchronized
  have hts := atoms_spec (ws := (Jvm.Cond.code yX11_hands prog_1_method_35_code 5 (some .int) :: zg_tb)) B.pre
  have hown : s.vm.findClass RX11 = some m.cls := findClass_of_methodNamed B.named
  have S : CallFix p m c prog_1_method_35_code 5 s _ (Jvm.Cond.code yX11_hands prog_1_method_35_code 5 (some .int) :: zg_tb) RX11 := ⟨hx, hb, hml, hown, hts⟩
  have hl := lv_entry ([.ref o, .int a1]) (n := 5) (Nat.le_of_ble_eq_true rfl)
  rw [lg_entry_eq]
  generalize (lg_sl ([.ref o, .int a1]) ++ List.replicate (5 - (lg_sl ([.ref o, .int a1])).length) Slot.unset).toArray = ls at hl ⊢
  have hl : lv_has ls 5 [(0, .ref o), (1, .int a1)] := hl
  have loop : ∀ (H1 : Heap) (locs : List Loc), H1.size = s.heap.size → (∀ x : Nat, x ≠ q → H1[x]? = s.heap[x]?) → (∀ z ∈ locs, base ≤ z.base) → (∃ cx : Cell, H1[o]? = some cx ∧ cx.cls = D.1 11 ∧ zk_vk cx ∧ cx.slots[D.2.1 11 13]? = some (.int 0) ∧ cx.slots[D.2.1 11 12]? = some (.ref q) ∧ cx.slots[D.2.1 11 15]? = some (.int 0)) → (∃ cq : Cell, H1[q]? = some cq ∧ cq.cls = D.2.2.1 0 ∧ cq.vm = .none ∧ cq.slots.size = 12 ∧ ∀ j : Nat, j < 12 → cq.slots[j]? = some (.int (-1))) → zf_hd a1 = 0 → ∀ (j i : Nat) (ls : Array Slot), i + j = 12 → lv_has ls 5 [(4, .int (nI i)), (3, .int 0), (0, .ref o), (1, .int a1)] → W p l e (headSpec (Jvm.Cond.code yX11_hands prog_1_method_35_code 5 (some .int) :: zg_tb) { frames := 3, cells := 0, slots := 0, locals := 120 }).room s m (([Value.ref o, Value.int a1] : List Value).toArray) below meth c H1 locs 0 0 (MQ below (fun _ _ oo tt => ∃ ov, oo = .returned ov ∧ ((fun ov H' => ov = some (.int (zf_hd a1)) ∧ H'.size = s.heap.size ∧ ∀ x : Nat, x ≠ q → H'[x]? = s.heap[x]?) ov tt.heap)) (([Value.ref o, Value.int a1] : List Value).toArray) s 0 0 (fun q => base ≤ q)) (F0 m 114 ls []) := by
    intro H1 locs hz hsame hlc hO1 hA1 he j
    obtain ⟨cx, x1, x2, x3, x4, x5, x6⟩ := id hO1
    obtain ⟨cq, e6, e7, e8, e9, e10⟩ := id hA1
    induction j with
    | zero =>
      intro i ls hi hl
      have hi : i = 12 := by omega
      subst hi
      refine lv_iload hx hb (by decide +kernel : decode prog_1_method_35_code 114 = .ok (.iload 4, 2)) (lv_at hl 0 rfl) ?_
      refine lv_aload_n hx hb (by decide +kernel : decode prog_1_method_35_code 116 = .ok (.aload_n 0, 1)) rfl (lv_at hl 2 rfl) ?_
      refine (zg_gok' S (hK.2.1 11 _ rfl) (fun w h => List.mem_cons_of_mem _ (zc11 w h)) rfl zt11_12 (List.mem_cons_of_mem _ zw2_65) : zk_gok _ _ _ _ _ _ _ _ _ _ _ D _ _ 11 12) x1 x2 x3 x5 (by decide +kernel : decode prog_1_method_35_code 117 = .ok (.getfield 85, 3)) ?_
      refine W.alen (n := 12) hx hb e6 (zk_isa (hK.2.2.1 0 .int rfl) e7 (zk_vk_of e8)) (by rw [e9]; rfl) rfl rfl (by decide +kernel : decode prog_1_method_35_code 120 = .ok (.arraylength, 1)) ?_
      refine W.eq (g2 := F0 m 121 ls [.int 12, .int (nI 12)]) rfl ?_
      refine lv_icmp_ge (tgt := 150) hx hb (by decide +kernel : decode prog_1_method_35_code 121 = .ok (.if_icmp .ge 29, 3)) (by decide) (fun c_1 => ?_) (fun c_1 => ?_)
      · refine lv_iload_n hx hb (by decide +kernel : decode prog_1_method_35_code 150 = .ok (.iload_n 3, 1)) rfl (lv_at hl 1 rfl) ?_
        exact W.iret hx hb hr (fun t1 ht1 _ => ⟨_, rfl, by rw [he], by rw [ht1]; exact hz, by rw [ht1]; exact hsame⟩) hlc (by decide +kernel : decode prog_1_method_35_code 151 = .ok (.ireturn, 1))
      · exact absurd (by decide : (12 : Int32) ≤ nI 12) c_1
    | succ j ih =>
      intro i ls hi hl
      refine lv_iload hx hb (by decide +kernel : decode prog_1_method_35_code 114 = .ok (.iload 4, 2)) (lv_at hl 0 rfl) ?_
      refine lv_aload_n hx hb (by decide +kernel : decode prog_1_method_35_code 116 = .ok (.aload_n 0, 1)) rfl (lv_at hl 2 rfl) ?_
      refine (zg_gok' S (hK.2.1 11 _ rfl) (fun w h => List.mem_cons_of_mem _ (zc11 w h)) rfl zt11_12 (List.mem_cons_of_mem _ zw2_65) : zk_gok _ _ _ _ _ _ _ _ _ _ _ D _ _ 11 12) x1 x2 x3 x5 (by decide +kernel : decode prog_1_method_35_code 117 = .ok (.getfield 85, 3)) ?_
      refine W.alen (n := 12) hx hb e6 (zk_isa (hK.2.2.1 0 .int rfl) e7 (zk_vk_of e8)) (by rw [e9]; rfl) rfl rfl (by decide +kernel : decode prog_1_method_35_code 120 = .ok (.arraylength, 1)) ?_
      refine W.eq (g2 := F0 m 121 ls [.int 12, .int (nI i)]) rfl ?_
      refine lv_icmp_ge (tgt := 150) hx hb (by decide +kernel : decode prog_1_method_35_code 121 = .ok (.if_icmp .ge 29, 3)) (by decide) (fun c_1 => ?_) (fun c_1 => ?_)
      · exact absurd c_1 (fun hh => by rw [show (12 : Int32) = nI 12 from rfl] at hh; have := (zt_le (by omega) (by omega)).mp hh; omega)
      · refine lv_iload_n hx hb (by decide +kernel : decode prog_1_method_35_code 124 = .ok (.iload_n 3, 1)) rfl (lv_at hl 1 rfl) ?_
        refine lv_aload_n hx hb (by decide +kernel : decode prog_1_method_35_code 125 = .ok (.aload_n 0, 1)) rfl (lv_at hl 2 rfl) ?_
        refine (zg_gok' S (hK.2.1 11 _ rfl) (fun w h => List.mem_cons_of_mem _ (zc11 w h)) rfl zt11_12 (List.mem_cons_of_mem _ zw2_65) : zk_gok _ _ _ _ _ _ _ _ _ _ _ D _ _ 11 12) x1 x2 x3 x5 (by decide +kernel : decode prog_1_method_35_code 126 = .ok (.getfield 85, 3)) ?_
        refine lv_iload hx hb (by decide +kernel : decode prog_1_method_35_code 129 = .ok (.iload 4, 2)) (lv_at hl 0 rfl) ?_
        have ei : (nI i).toNatClampNeg = i := by
          have := nI_toInt (show i < 2 ^ 31 by omega)
          rw [Int32.toNatClampNeg, this]; omega
        refine W.iald (v := .int (-1)) hx hb e6 (zk_isa (hK.2.2.1 0 .int rfl) e7 (zk_vk_of e8)) (by rw [e8]; exact fun h => by cases h) (zt_ix (show i < 12 by omega) (by omega) e9) (by rw [ei]; exact e10 i (by omega)) rfl rfl (by decide +kernel : decode prog_1_method_35_code 131 = .ok (.iaload, 1)) ?_
        refine W.eq (g2 := F0 m 132 ls [.int (-1), .int 0]) rfl ?_
        refine lv_iload hx hb (by decide +kernel : decode prog_1_method_35_code 132 = .ok (.iload 4, 2)) (lv_at hl 0 rfl) ?_
        refine lv_icmp_ne (tgt := 141) hx hb (by decide +kernel : decode prog_1_method_35_code 134 = .ok (.if_icmp .ne 7, 3)) (by decide) (fun c_2 => ?_) (fun c_2 => absurd (show ¬ ((-1 : Int32) = nI i) from fun hh => by have h9 := congrArg Int32.toInt hh; rw [nI_toInt (show i < 2 ^ 31 by omega), show (-1 : Int32).toInt = -1 from rfl] at h9; omega) (by first | exact c_2 | exact fun hn => hn c_2 | exact Decidable.not_not.mp c_2))
        refine lv_iconst (v := 0) hx hb (by decide +kernel : decode prog_1_method_35_code 141 = .ok (.iconst 0, 1)) (by decide) ?_
        refine lv_iadd hx hb (by decide +kernel : decode prog_1_method_35_code 142 = .ok (.iadd, 1)) ?_
        refine lv_istore_n (lv' := [(3, .int (0 + 0)), (4, .int (nI i)), (0, .ref o), (1, .int a1)]) hx hb (by decide +kernel : decode prog_1_method_35_code 143 = .ok (.istore_n 3, 1)) rfl hl (by decide) rfl (fun ls hl => ?_)
        refine lv_iinc (v := ((nI i) + 1)) (lv' := [(4, .int ((nI i) + 1)), (3, .int (0 + 0)), (0, .ref o), (1, .int a1)]) hx hb (by decide +kernel : decode prog_1_method_35_code 144 = .ok (.iinc 4 1, 3)) hl (k := 1) rfl rfl (by decide) rfl (fun ls hl => ?_)
        refine lv_goto (tgt := 114) hx hb (by decide +kernel : decode prog_1_method_35_code 147 = .ok (.goto (-33), 3)) (by decide) ?_
        rw [nI_1 i, show (0 : Int32) + 0 = 0 from rfl] at hl
        exact ih (i + 1) ls (by omega) (lv_sub hl [0, 1, 2, 3] rfl)
  have hlc : ∀ q ∈ ([] : List Loc), base ≤ q.base := fun q hq => absurd hq List.not_mem_nil
  obtain ⟨cx, x1, x2, x3, x4, x5, x6⟩ := id hO
  refine lv_aload_n hx hb (by decide +kernel : decode prog_1_method_35_code 0 = .ok (.aload_n 0, 1)) rfl (lv_at hl 0 rfl) ?_
  refine lv_iload_n hx hb (by decide +kernel : decode prog_1_method_35_code 1 = .ok (.iload_n 1, 1)) rfl (lv_at hl 1 rfl) ?_
  refine zh_callV (fun w h => List.mem_cons_of_mem _ h) zg_tb_all S hK zg_Km ⟨rfl, rfl⟩ (zh_isPast (D := D) (Hb := Hb) o a1 ⟨cx, x1, x2, x3, x4⟩) zw3_108 zy_yX11_isPast_V ⟨cx, x1, x3, by rw [x2]; exact (hK.2.1 11 _ rfl).2.1⟩ rfl hl.1 rfl ⟨rfl, rfl⟩ (Nat.le_of_ble_eq_true rfl) (Nat.le_of_ble_eq_true rfl) (by decide +kernel : decode prog_1_method_35_code 2 = .ok (.invokevirtual 148, 3)) hlc (fun ov H' locs hh hlc => ?_)
  obtain ⟨rfl, hHe⟩ := hh
  rw [hHe]
  refine lv_if_ne (tgt := 10) hx hb (by decide +kernel : decode prog_1_method_35_code 5 = .ok (.ifCond .ne 5, 3)) (by decide) (fun c_1 => ?_) (fun c_1 => ?_)
  · refine lv_aload_n hx hb (by decide +kernel : decode prog_1_method_35_code 10 = .ok (.aload_n 0, 1)) rfl (lv_at hl 0 rfl) ?_
    refine (zg_gok' S (hK.2.1 11 _ rfl) (fun w h => List.mem_cons_of_mem _ (zc11 w h)) rfl zt11_12 (List.mem_cons_of_mem _ zw2_65) : zk_gok _ _ _ _ _ _ _ _ _ _ _ D _ _ 11 12) x1 x2 x3 x5 (by decide +kernel : decode prog_1_method_35_code 11 = .ok (.getfield 85, 3)) ?_
    refine lv_iconst (v := (-1)) hx hb (by decide +kernel : decode prog_1_method_35_code 14 = .ok (.iconst (-1), 1)) (by decide) ?_
    refine zh_callS (fun w h => List.mem_cons_of_mem _ h) zg_tb_all S hK zg_Km ⟨rfl, rfl⟩ (zh_fill (D := D) (Hb := Hb) q 12 (-1) (by decide) hq hA) zw5_118 zy_yJ7_fill_53178_S rfl hl.1 rfl ⟨rfl, rfl⟩ (Nat.le_of_ble_eq_true rfl) (Nat.le_of_ble_eq_true rfl) (by decide +kernel : decode prog_1_method_35_code 15 = .ok (.invokestatic 374, 3)) hlc (fun ov H' locs hh hlc => ?_)
    obtain ⟨rfl, hA1, hz1, hs1⟩ := hh
    obtain ⟨H1, rfl⟩ : ∃ z, z = H' := ⟨_, rfl⟩
    have y1 : H1[o]? = some cx := by rw [hs1 o hoq]; exact x1
    refine lv_iconst (v := 0) hx hb (by decide +kernel : decode prog_1_method_35_code 18 = .ok (.iconst 0, 1)) (by decide) ?_
    refine lv_istore_n (lv' := [(2, .int 0), (0, .ref o), (1, .int a1)]) hx hb (by decide +kernel : decode prog_1_method_35_code 19 = .ok (.istore_n 2, 1)) rfl hl (by decide) rfl (fun ls hl => ?_)
    refine lv_iconst (v := 0) hx hb (by decide +kernel : decode prog_1_method_35_code 20 = .ok (.iconst 0, 1)) (by decide) ?_
    refine lv_istore_n (lv' := [(3, .int 0), (2, .int 0), (0, .ref o), (1, .int a1)]) hx hb (by decide +kernel : decode prog_1_method_35_code 21 = .ok (.istore_n 3, 1)) rfl hl (by decide) rfl (fun ls hl => ?_)
    refine lv_iload_n hx hb (by decide +kernel : decode prog_1_method_35_code 22 = .ok (.iload_n 3, 1)) rfl (lv_at hl 0 rfl) ?_
    refine lv_aload_n hx hb (by decide +kernel : decode prog_1_method_35_code 23 = .ok (.aload_n 0, 1)) rfl (lv_at hl 2 rfl) ?_
    refine (zg_gok' S (hK.2.1 11 _ rfl) (fun w h => List.mem_cons_of_mem _ (zc11 w h)) rfl zt11_15 (List.mem_cons_of_mem _ zw2_68) : zk_gok _ _ _ _ _ _ _ _ _ _ _ D _ _ 11 15) y1 x2 x3 x6 (by decide +kernel : decode prog_1_method_35_code 24 = .ok (.getfield 181, 3)) ?_
    refine lv_icmp_ge (tgt := 91) hx hb (by decide +kernel : decode prog_1_method_35_code 27 = .ok (.if_icmp .ge 64, 3)) (by decide) (fun c_2 => ?_) (fun c_2 => absurd (by decide) c_2)
    refine lv_iconst (v := 1) hx hb (by decide +kernel : decode prog_1_method_35_code 91 = .ok (.iconst 1, 1)) (by decide) ?_
    refine lv_istore_n (lv' := [(3, .int 1), (2, .int 0), (0, .ref o), (1, .int a1)]) hx hb (by decide +kernel : decode prog_1_method_35_code 92 = .ok (.istore_n 3, 1)) rfl hl (by decide) rfl (fun ls hl => ?_)
    refine lv_iload_n hx hb (by decide +kernel : decode prog_1_method_35_code 93 = .ok (.iload_n 3, 1)) rfl (lv_at hl 0 rfl) ?_
    refine lv_iload_n hx hb (by decide +kernel : decode prog_1_method_35_code 94 = .ok (.iload_n 2, 1)) rfl (lv_at hl 1 rfl) ?_
    refine lv_icmp_ge (tgt := 109) hx hb (by decide +kernel : decode prog_1_method_35_code 95 = .ok (.if_icmp .ge 14, 3)) (by decide) (fun c_3 => ?_) (fun c_3 => absurd (by decide) c_3)
    refine lv_iconst (v := 0) hx hb (by decide +kernel : decode prog_1_method_35_code 109 = .ok (.iconst 0, 1)) (by decide) ?_
    refine lv_istore_n (lv' := [(3, .int 0), (2, .int 0), (0, .ref o), (1, .int a1)]) hx hb (by decide +kernel : decode prog_1_method_35_code 110 = .ok (.istore_n 3, 1)) rfl hl (by decide) rfl (fun ls hl => ?_)
    refine lv_iconst (v := 0) hx hb (by decide +kernel : decode prog_1_method_35_code 111 = .ok (.iconst 0, 1)) (by decide) ?_
    refine lv_istore (lv' := [(4, .int 0), (3, .int 0), (2, .int 0), (0, .ref o), (1, .int a1)]) hx hb (by decide +kernel : decode prog_1_method_35_code 112 = .ok (.istore 4, 2)) hl (by decide) rfl (fun ls hl => ?_)
    have he : zf_hd a1 = 0 := by
      unfold zf_hd
      rw [if_pos]; exact Decidable.not_not.mp (fun hh => c_1 ((zf_in_0 _ _ _).mpr hh))
    exact loop H1 locs hz1 hs1 hlc ⟨cx, y1, x2, x3, x4, x5, x6⟩ hA1 he 12 0 ls rfl (lv_sub hl [0, 1, 3, 4] rfl)
  · refine lv_iconst (v := (-1)) hx hb (by decide +kernel : decode prog_1_method_35_code 8 = .ok (.iconst (-1), 1)) (by decide) ?_
    have e : zf_hd a1 = -1 := by
      unfold zf_hd
      rw [if_neg]; exact (zf_in_0 _ _ _).mp c_1
    rw [e]
    exact W.iret hx hb hr (fun t1 ht1 _ => ⟨_, rfl, rfl, by rw [ht1], fun x _ => by rw [ht1]⟩) hlc (by decide +kernel : decode prog_1_method_35_code 9 = .ok (.ireturn, 1))
