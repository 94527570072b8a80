/-! FEED of the reference, by hand, over any heap -/
noncomputable section
def zq_fE : List (Nat × Nat) := [(qn_tape, 0), (qn_M, 9)]
def zq_u (f : Int32 → Int32) (k : Nat) : Nat := if f (nI k) = 0 then 0 else 1
def zq_cnt (f : Int32 → Int32) : Nat → Nat → Nat
  | _, 0 => 0
  | k, j + 1 => zq_u f k + zq_cnt f (k + 1) j
theorem zq_cnt_s (f : Int32 → Int32) (k j : Nat) : zq_cnt f k (j + 1) = zq_u f k + zq_cnt f (k + 1) j := rfl
theorem zq_u_le (f : Int32 → Int32) (k : Nat) : zq_u f k ≤ 1 := by unfold zq_u; split <;> omega
theorem zq_cnt_le (f : Int32 → Int32) : ∀ j k, zq_cnt f k j ≤ j
  | 0, _ => Nat.le_refl 0
  | j + 1, k => by have := zq_cnt_le f j (k + 1); have := zq_u_le f k; rw [zq_cnt_s]; omega
theorem zq_fd1 {S : Int32} {n : Nat} (s0 : 0 ≤ S.toInt) (s1 : S.toInt ≤ 160) (hn : n ≤ 20) (h : S + nI n ≤ 160) : ∃ k : Nat, S = nI k ∧ k + n ≤ 160 := by
  have h := Int32.le_iff_toInt_le.mp h
  have e : (S + nI n).toInt = S.toInt + (n : Int) := by
    rw [Int32.toInt_add, nI_toInt (show n < 2 ^ 31 by omega)]
    exact Int.bmod_eq_of_le (by omega) (by omega)
  rw [e, show (160 : Int32).toInt = 160 from rfl] at h
  refine ⟨S.toInt.toNat, Int32.toInt_inj.mp ?_, by omega⟩
  rw [nI_toInt (by omega)]
  omega
section ZFD
variable {p : Program} {l : Launch} {e : Env} {R : Room} {s : State} {m : MethodId} {args : Array Value} {below : List Frame} {meth : Method} {c : Code} {Q : State → Prop} {D : zk_D} {base : Nat} {Hb : Heap} {Gi : Nat → Nat} {Hi : Heap}
variable {cells slots : Nat} {a bt : Nat} {a1 a2 a3 a4 a5 : Int32} {f : Int32 → Int32}
/-- a call of byteOf, in feed -/
def zq_HB (p : Program) (l : Launch) (e : Env) (R : Room) (s : State) (m : MethodId) (args : Array Value) (below : List Frame) (meth : Method) (c : Code) (Q : State → Prop) (base cells slots : Nat) (a1 a2 a3 a4 a5 : Int32) (f : Int32 → Int32) : Prop :=
  ∀ {H : Heap} {locs : List Loc} {ls : Array Slot} {pc : Nat} {k : Int32} {rest : List Value}, (pc = 24 ∨ pc = 78) → Nat.ble ((rest.map fun w => w.category).sum) 8 = true → (∀ q ∈ locs, base ≤ q.base) → ls.size = 9 → (∀ locs1 : List Loc, (∀ q ∈ locs1, base ≤ q.base) → W p l e R s m args below meth c H locs1 cells slots Q (F0 m (pc + 3) ls (.int (f k) :: rest))) → W p l e R s m args below meth c H locs cells slots Q (F0 m pc ls (.int k :: .int a5 :: .int a4 :: .int a3 :: .int a2 :: .int a1 :: rest))
def zq_fd (D : zk_D) (base : Nat) (Hb : Heap) (a bt : Nat) (G : Nat → Nat) (H : Heap) (n : Int32) : Prop :=
  zk_hp qK D base Hb G H ∧ G a = qn_M ∧ G bt = qn_tape ∧ ∃ cell : Cell, H[a]? = some cell ∧ cell.slots[D.2.1 12 8]? = some (.ref bt) ∧ cell.slots[D.2.1 12 9]? = some (.int n)
theorem zq_fd_obj {G : Nat → Nat} {H : Heap} {n : Int32} (h : zq_fd D base Hb a bt G H n) : ∃ cell : Cell, (H[a]? = some cell ∧ cell.cls = D.1 12 ∧ zk_vk cell) ∧ cell.slots[D.2.1 12 8]? = some (.ref bt) ∧ cell.slots[D.2.1 12 9]? = some (.int n) := by
  obtain ⟨hp, g1, -, cell, h1, h2⟩ := h
  obtain ⟨-, cl, x1, x2, -⟩ := hp.2.2 a (by rw [g1]; decide)
  rw [h1] at x1; cases x1
  have hcla := (x2.2.1 (by rw [g1]; decide +kernel)).1
  rw [g1] at hcla
  exact ⟨cell, ⟨h1, hcla, x2.1.1⟩, h2⟩
set_option maxHeartbeats 4000000 in
set_option maxRecDepth 100000 in
theorem zq_fd_loop2 (hx : p.tables.exec = Jvm.exec) (hb : c.code = prog_14_method_12_code) (hkt : zk_kt qK) (hdj : zk_dj qK D) (hAT : ArrOfT s (D.2.2.1 0) .int) (g26 : zk_gok p l e R s m args below meth c Q D prog_14_method_12_code 26 12 8) (g181 : zk_gok p l e R s m args below meth c Q D prog_14_method_12_code 181 12 9) (p181 : zk_pok p l e R s m args below meth c Q D prog_14_method_12_code 181 12 9 0) (hf : ∀ k, 0 ≤ (f k).toInt ∧ (f k).toInt ≤ 255) (hby : zq_HB p l e R s m args below meth c Q base cells slots a1 a2 a3 a4 a5 f)
    (kret : ∀ (G1 : Nat → Nat) (H1 : Heap) (locs1 : List Loc) (ls1 : Array Slot) (w : Int32), zk_hp qK D base Hb G1 H1 → zk_ev qK D zq_fE Gi Hi G1 H1 → (∀ q ∈ locs1, base ≤ q.base) → lv_has ls1 9 [(0, .ref a), (1, .int a1), (2, .int a2), (3, .int a3), (4, .int a4), (5, .int a5)] → W p l e R s m args below meth c H1 locs1 cells slots Q (F0 m 119 ls1 [.int w])) :
    ∀ (j k n : Nat) (G : Nat → Nat) (H : Heap) (locs : List Loc) (ls : Array Slot), k + j = 20 → n + zq_cnt f k j ≤ 160 → zq_fd D base Hb a bt G H (nI n) → zk_ev qK D zq_fE Gi Hi G H → (∀ q ∈ locs, base ≤ q.base) → lv_has ls 9 [(7, .int (nI k)), (0, .ref a), (1, .int a1), (2, .int a2), (3, .int a3), (4, .int a4), (5, .int a5)] → W p l e R s m args below meth c H locs cells slots Q (F0 m 62 ls []) := by
  intro j
  induction j with
  | zero =>
    intro k n G H locs ls hk hn hw he hl hls
    have hk : k = 20 := hk
    subst hk
    refine lv_iload hx hb (by decide +kernel : decode prog_14_method_12_code 62 = .ok (.iload 7, 2)) (lv_at hls 0 rfl) (lv_bipush (v := 20) hx hb (by decide +kernel : decode prog_14_method_12_code 64 = .ok (.bipush 20, 2)) rfl ?_)
    refine lv_icmp_ge (tgt := 115) hx hb (by decide +kernel : decode prog_14_method_12_code 66 = .ok (.if_icmp .ge 49, 3)) (by decide) (fun _ => ?_) (fun z => absurd (by decide : (20 : Int32) ≤ nI 20) z)
    obtain ⟨cell, ⟨c1, c2, c3⟩, f1, f2⟩ := zq_fd_obj hw
    refine lv_aload_n hx hb (by decide +kernel : decode prog_14_method_12_code 115 = .ok (.aload_n 0, 1)) rfl (lv_at hls 1 rfl) (g181 c1 c2 c3 f2 (by decide +kernel) ?_)
    exact kret G H locs ls (nI n) hw.1 he hl (lv_sub hls [1, 2, 3, 4, 5, 6] rfl)
  | succ j ih =>
    intro k n G H locs ls hk hn hw he hl hls
    rw [zq_cnt_s] at hn
    have hk2 : k < 20 := by omega
    refine lv_iload hx hb (by decide +kernel : decode prog_14_method_12_code 62 = .ok (.iload 7, 2)) (lv_at hls 0 rfl) (lv_bipush (v := 20) hx hb (by decide +kernel : decode prog_14_method_12_code 64 = .ok (.bipush 20, 2)) rfl ?_)
    refine lv_icmp_ge (tgt := 115) hx hb (by decide +kernel : decode prog_14_method_12_code 66 = .ok (.if_icmp .ge 49, 3)) (by decide) (fun z => absurd z (by rw [show (20 : Int32) = nI 20 from rfl]; exact nI_ge hk2 (by decide))) (fun _ => ?_)
    refine lv_iload_n hx hb (by decide +kernel : decode prog_14_method_12_code 69 = .ok (.iload_n 1, 1)) rfl (lv_at hls 2 rfl) (lv_iload_n hx hb (by decide +kernel : decode prog_14_method_12_code 70 = .ok (.iload_n 2, 1)) rfl (lv_at hls 3 rfl) (lv_iload_n hx hb (by decide +kernel : decode prog_14_method_12_code 71 = .ok (.iload_n 3, 1)) rfl (lv_at hls 4 rfl) ?_))
    refine lv_iload hx hb (by decide +kernel : decode prog_14_method_12_code 72 = .ok (.iload 4, 2)) (lv_at hls 5 rfl) (lv_iload hx hb (by decide +kernel : decode prog_14_method_12_code 74 = .ok (.iload 5, 2)) (lv_at hls 6 rfl) (lv_iload hx hb (by decide +kernel : decode prog_14_method_12_code 76 = .ok (.iload 7, 2)) (lv_at hls 0 rfl) ?_))
    refine hby (pc := 78) (Or.inr rfl) rfl hl hls.1 (fun locs1 hl1 => ?_)
    refine lv_istore (lv' := [(8, .int (f (nI k))), (7, .int (nI k)), (0, .ref a), (1, .int a1), (2, .int a2), (3, .int a3), (4, .int a4), (5, .int a5)]) hx hb (by decide +kernel : decode prog_14_method_12_code 81 = .ok (.istore 8, 2)) hls (by decide) rfl (fun ls hls => ?_)
    have next : ∀ (n2 : Nat) (G2 : Nat → Nat) (H2 : Heap) (locs2 : List Loc), n2 + zq_cnt f (k + 1) j ≤ 160 → zq_fd D base Hb a bt G2 H2 (nI n2) → zk_ev qK D zq_fE Gi Hi G2 H2 → (∀ q ∈ locs2, base ≤ q.base) → W p l e R s m args below meth c H2 locs2 cells slots Q (F0 m 109 ls []) := fun n2 G2 H2 locs2 hn2 hw2 he2 hl2 => by
      refine lv_iinc (k := 1) (v := nI (k + 1)) (lv' := [(7, .int (nI (k + 1))), (8, .int (f (nI k))), (0, .ref a), (1, .int a1), (2, .int a2), (3, .int a3), (4, .int a4), (5, .int a5)]) hx hb (by decide +kernel : decode prog_14_method_12_code 109 = .ok (.iinc 7 1, 3)) hls rfl (nI_1 k) (by decide) rfl (fun ls hls => ?_)
      refine lv_goto (tgt := 62) hx hb (by decide +kernel : decode prog_14_method_12_code 112 = .ok (.goto (-50), 3)) (by decide) ?_
      exact ih (k + 1) n2 G2 H2 locs2 ls (by omega) hn2 hw2 he2 hl2 (lv_sub hls [0, 2, 3, 4, 5, 6, 7] rfl)
    refine lv_iload hx hb (by decide +kernel : decode prog_14_method_12_code 83 = .ok (.iload 8, 2)) (lv_at hls 0 rfl) ?_
    refine lv_if_eq (tgt := 109) hx hb (by decide +kernel : decode prog_14_method_12_code 85 = .ok (.ifCond .eq 24, 3)) (by decide) (fun hc => ?_) (fun hc => ?_)
    · exact next n G H locs1 (by omega) hw he hl1
    · have hu : zq_u f k = 1 := if_neg hc
      rw [hu] at hn
      obtain ⟨cell, ⟨c1, c2, c3⟩, f1, f2⟩ := zq_fd_obj hw
      obtain ⟨hp, g1, g2, -⟩ := hw
      have rT : zq_row qK qn_tape := ⟨by decide, by decide +kernel, by decide +kernel, by decide +kernel, by decide +kernel, (0, 0, 255), by decide +kernel, rfl⟩
      obtain ⟨-, ct, hct, -, -⟩ := hp.2.2 bt (by rw [g2]; decide)
      obtain ⟨-, -, sz, -⟩ := zq_cls hp rT g2 hct
      have sz : (160 : Int) ≤ ct.slots.size := Int.le_trans (by decide +kernel) sz
      have hn3 : (nI n).toInt = (n : Int) := nI_toInt (by omega)
      refine lv_aload_n hx hb (by decide +kernel : decode prog_14_method_12_code 88 = .ok (.aload_n 0, 1)) rfl (lv_at hls 2 rfl) (g26 c1 c2 c3 f1 (by decide +kernel) ?_)
      refine lv_aload_n hx hb (by decide +kernel : decode prog_14_method_12_code 92 = .ok (.aload_n 0, 1)) rfl (lv_at hls 2 rfl) (g181 c1 c2 c3 f2 (by decide +kernel) ?_)
      refine lv_iload hx hb (by decide +kernel : decode prog_14_method_12_code 96 = .ok (.iload 8, 2)) (lv_at hls 0 rfl) ?_
      refine zq_ist (pc := 98) hx hb hAT (t := (0, 0, 255)) hp hl1 rT g2 hct (by omega) (by omega) (by decide +kernel) (hf _).1 (hf _).2 (by decide +kernel) (fun H2 locs2 hp2 he2 hz2 e2 eo2 hl2 => ?_)
      have hab : a ≠ bt := fun z => by rw [z, g2] at g1; exact absurd g1 (by decide)
      have c1' : H2[a]? = some cell := by rw [eo2 a hab]; exact c1
      refine lv_aload_n hx hb (by decide +kernel : decode prog_14_method_12_code 99 = .ok (.aload_n 0, 1)) rfl (lv_at hls 2 rfl) (lv_dup hx hb (by decide +kernel : decode prog_14_method_12_code 100 = .ok (.dup, 1)) rfl (g181 c1' c2 c3 f2 (by decide +kernel) ?_))
      refine lv_iconst (v := 1) hx hb (by decide +kernel : decode prog_14_method_12_code 104 = .ok (.iconst 1, 1)) rfl (lv_iadd hx hb (by decide +kernel : decode prog_14_method_12_code 105 = .ok (.iadd, 1)) ?_)
      rw [nI_1 n]
      have hn4 : (nI (n + 1)).toInt = ((n + 1 : Nat) : Int) := nI_toInt (by omega)
      refine zq_put (pc := 106) (i := 181) (kM := qn_M) (t := (0, 0, 160)) hx hb hdj p181 (by decide) (by decide +kernel) (by decide +kernel) (by decide +kernel) (by decide +kernel) (by decide +kernel) rfl hp2 hl2 g1 c1' f2 (show (0 : Int) ≤ _ by omega) (show _ ≤ (160 : Int) by omega) (by decide +kernel) (fun H3 locs3 hp3 he3 hz3 e3 eo3 hl3 => ?_)
      have f8 : (cell.setSlot (D.2.1 12 9) (.int (nI (n + 1)))).slots[D.2.1 12 8]? = some (.ref bt) := by
        have hne : D.2.1 12 9 ≠ D.2.1 12 8 := hdj qn_M 9 8 (by decide +kernel) (by decide +kernel) (by decide +kernel) (by decide)
        rw [slot_ne _ _ hne]; exact f1
      exact next (n + 1) G H3 locs3 (by omega) ⟨hp3, g1, g2, _, e3, f8, Cell.slots_setSlot_self _ (k2_hasslot f2)⟩ (zk_ev_tr hkt he (zk_ev_tr hkt (zk_ev_sb (E := zq_fE) (by decide +kernel) he2) (zk_ev_sb (E := zq_fE) (by decide +kernel) he3))) hl3
set_option maxHeartbeats 4000000 in
set_option maxRecDepth 100000 in
theorem zq_fd_loop1 (hx : p.tables.exec = Jvm.exec) (hb : c.code = prog_14_method_12_code) (hby : zq_HB p l e R s m args below meth c Q base cells slots a1 a2 a3 a4 a5 f) {H : Heap} {tot : Nat}
    (kk : ∀ (locs1 : List Loc) (ls1 : Array Slot), (∀ q ∈ locs1, base ≤ q.base) → lv_has ls1 9 [(7, .int (nI 20)), (6, .int (nI tot)), (0, .ref a), (1, .int a1), (2, .int a2), (3, .int a3), (4, .int a4), (5, .int a5)] → W p l e R s m args below meth c H locs1 cells slots Q (F0 m 44 ls1 [])) :
    ∀ (j k n : Nat) (locs : List Loc) (ls : Array Slot), k + j = 20 → n + zq_cnt f k j = tot → (∀ q ∈ locs, base ≤ q.base) → lv_has ls 9 [(7, .int (nI k)), (6, .int (nI n)), (0, .ref a), (1, .int a1), (2, .int a2), (3, .int a3), (4, .int a4), (5, .int a5)] → W p l e R s m args below meth c H locs cells slots Q (F0 m 6 ls []) := by
  intro j
  induction j with
  | zero =>
    intro k n locs ls hk hn hl hls
    have hk : k = 20 := hk
    subst hk
    have hn : n = tot := hn
    rw [hn] at hls
    refine lv_iload hx hb (by decide +kernel : decode prog_14_method_12_code 6 = .ok (.iload 7, 2)) (lv_at hls 0 rfl) (lv_bipush (v := 20) hx hb (by decide +kernel : decode prog_14_method_12_code 8 = .ok (.bipush 20, 2)) rfl ?_)
    exact lv_icmp_ge (tgt := 44) hx hb (by decide +kernel : decode prog_14_method_12_code 10 = .ok (.if_icmp .ge 34, 3)) (by decide) (fun _ => kk locs ls hl hls) (fun z => absurd (by decide : (20 : Int32) ≤ nI 20) z)
  | succ j ih =>
    intro k n locs ls hk hn hl hls
    rw [zq_cnt_s] at hn
    have hk2 : k < 20 := by omega
    refine lv_iload hx hb (by decide +kernel : decode prog_14_method_12_code 6 = .ok (.iload 7, 2)) (lv_at hls 0 rfl) (lv_bipush (v := 20) hx hb (by decide +kernel : decode prog_14_method_12_code 8 = .ok (.bipush 20, 2)) rfl ?_)
    refine lv_icmp_ge (tgt := 44) hx hb (by decide +kernel : decode prog_14_method_12_code 10 = .ok (.if_icmp .ge 34, 3)) (by decide) (fun z => absurd z (by rw [show (20 : Int32) = nI 20 from rfl]; exact nI_ge hk2 (by decide))) (fun _ => ?_)
    refine lv_iload hx hb (by decide +kernel : decode prog_14_method_12_code 13 = .ok (.iload 6, 2)) (lv_at hls 1 rfl) ?_
    refine lv_iload_n hx hb (by decide +kernel : decode prog_14_method_12_code 15 = .ok (.iload_n 1, 1)) rfl (lv_at hls 3 rfl) (lv_iload_n hx hb (by decide +kernel : decode prog_14_method_12_code 16 = .ok (.iload_n 2, 1)) rfl (lv_at hls 4 rfl) (lv_iload_n hx hb (by decide +kernel : decode prog_14_method_12_code 17 = .ok (.iload_n 3, 1)) rfl (lv_at hls 5 rfl) ?_))
    refine lv_iload hx hb (by decide +kernel : decode prog_14_method_12_code 18 = .ok (.iload 4, 2)) (lv_at hls 6 rfl) (lv_iload hx hb (by decide +kernel : decode prog_14_method_12_code 20 = .ok (.iload 5, 2)) (lv_at hls 7 rfl) (lv_iload hx hb (by decide +kernel : decode prog_14_method_12_code 22 = .ok (.iload 7, 2)) (lv_at hls 0 rfl) ?_))
    refine hby (pc := 24) (Or.inl rfl) rfl hl hls.1 (fun locs1 hl1 => ?_)
    have next : ∀ n2 : Nat, n2 + zq_cnt f (k + 1) j = tot → W p l e R s m args below meth c H locs1 cells slots Q (F0 m 36 ls [.int (nI n2)]) := fun n2 hn2 => by
      refine lv_istore (lv' := [(6, .int (nI n2)), (7, .int (nI k)), (0, .ref a), (1, .int a1), (2, .int a2), (3, .int a3), (4, .int a4), (5, .int a5)]) hx hb (by decide +kernel : decode prog_14_method_12_code 36 = .ok (.istore 6, 2)) hls (by decide) rfl (fun ls hls => ?_)
      refine lv_iinc (k := 1) (v := nI (k + 1)) (lv' := [(7, .int (nI (k + 1))), (6, .int (nI n2)), (0, .ref a), (1, .int a1), (2, .int a2), (3, .int a3), (4, .int a4), (5, .int a5)]) hx hb (by decide +kernel : decode prog_14_method_12_code 38 = .ok (.iinc 7 1, 3)) hls rfl (nI_1 k) (by decide) rfl (fun ls hls => ?_)
      refine lv_goto (tgt := 6) hx hb (by decide +kernel : decode prog_14_method_12_code 41 = .ok (.goto (-35), 3)) (by decide) ?_
      exact ih (k + 1) n2 locs1 ls (by omega) hn2 hl1 hls
    refine lv_if_eq (tgt := 34) hx hb (by decide +kernel : decode prog_14_method_12_code 27 = .ok (.ifCond .eq 7, 3)) (by decide) (fun hc => ?_) (fun hc => ?_)
    · have hu : zq_u f k = 0 := if_pos hc
      rw [hu] at hn
      refine lv_iconst (v := nI 0) hx hb (by decide +kernel : decode prog_14_method_12_code 34 = .ok (.iconst 0, 1)) rfl (lv_iadd hx hb (by decide +kernel : decode prog_14_method_12_code 35 = .ok (.iadd, 1)) ?_)
      rw [nI_add]
      exact next n (by omega)
    · have hu : zq_u f k = 1 := if_neg hc
      rw [hu] at hn
      refine lv_iconst (v := nI 1) hx hb (by decide +kernel : decode prog_14_method_12_code 30 = .ok (.iconst 1, 1)) rfl (lv_goto (tgt := 35) hx hb (by decide +kernel : decode prog_14_method_12_code 31 = .ok (.goto 4, 3)) (by decide) (lv_iadd hx hb (by decide +kernel : decode prog_14_method_12_code 35 = .ok (.iadd, 1)) ?_))
      rw [nI_add]
      exact next (n + 1) (by omega)
end ZFD
def zq_fdY (x : zk_S) : zk_S := zk_pu (zk_st (zk_ex qK zq_fE x false) []) [] zk_I [] []
section ZFX
variable {p : Program} {l : Launch} {e : Env} {R : Room} {s : State} {m : MethodId} {args : Array Value} {below : List Frame} {meth : Method} {c : Code} {Q : State → Prop} {D : zk_D} {base : Nat} {Hb : Heap} {G0 : Nat → Nat} {H0 : Heap}
variable {P : zk_P} {AT : List FieldType} {C : zk_C}
set_option maxHeartbeats 4000000 in
set_option maxRecDepth 100000 in
theorem zq_fd_x (hx : p.tables.exec = Jvm.exec) (hb : c.code = prog_14_method_12_code) {rt : Option FieldType} {x : zk_S} {fuel : Nat} {v : Nat → Value} (hw : zk_wd s qK D AT) (hok : zk_ok p l e R s m args below meth c Q qK D base Hb 9 prog_14_method_12_code P C.2.2.2.2) (hR1 : R.cells = C.2.2.2.1) (hR2 : R.slots = C.2.2.2.2) (hr : meth.sig.returnType = rt) (hlocks : meth.locks = false) (hQ : ∀ t : State, MQ below (zk_Qf qK D base Hb C v G0 H0) args s C.2.2.2.1 C.2.2.2.2 (fun q => base ≤ q) t → Q t) (hC : zk_sb zq_fE C.2.2.1 = true)
    (g26 : zk_gok p l e R s m args below meth c Q D prog_14_method_12_code 26 12 8) (g181 : zk_gok p l e R s m args below meth c Q D prog_14_method_12_code 181 12 9) (p181 : zk_pok p l e R s m args below meth c Q D prog_14_method_12_code 181 12 9 0)
    (hbyte : ∀ a1 a2 a3 a4 a5 : Int32, ∃ f : Int32 → Int32, (∀ k, 0 ≤ (f k).toInt ∧ (f k).toInt ≤ 255) ∧ zq_HB p l e R s m args below meth c Q base 0 0 a1 a2 a3 a4 a5 f)
    (c1 : x.2.2.1 = []) (c2 : x.2.1 = [(0, 0), (1, 1), (2, 2), (3, 3), (4, 4), (5, 5)]) (t0 : zk_lk x.2.2.2.1 0 = (2, (qn_M : Int), 0)) (t1 : (zk_lk x.2.2.2.1 1).1 = 0) (t2 : (zk_lk x.2.2.2.1 2).1 = 0) (t3 : (zk_lk x.2.2.2.1 3).1 = 0) (t4 : (zk_lk x.2.2.2.1 4).1 = 0) (t5 : (zk_lk x.2.2.2.1 5).1 = 0)
    (h58 : zk_chf qK P prog_14_method_12_code 9 C rt [] [] (58, zq_fdY x, [], 0, 0) fuel 1 = true) (h119 : zk_chf qK P prog_14_method_12_code 9 C rt [] [] (119, zq_fdY x, [], 0, 0) fuel 1 = true)
    {G : Nat → Nat} {H : Heap} {locs : List Loc} {ls : Array Slot} {vs : List Value} {v' : Nat → Value} (hp : zk_hp qK D base Hb G H) (he : zk_ev qK D C.2.2.1 G0 H0 G H) (hl : ∀ z ∈ locs, base ≤ z.base) (hF : zk_F qK D G H v' x) (hL : zk_LS C.1.1 v 9 ls vs v' x) : W p l e R s m args below meth c H locs 0 0 Q (F0 m 0 ls vs) := by
  have ty0 := zk_F_ty hF 0
  rw [t0] at ty0
  obtain ⟨a, ea, hga, hg0⟩ := zk_gr ty0 rfl rfl
  have hga : G a = qn_M := by rw [hga]; exact Int.toNat_natCast _
  obtain ⟨a1, e1, -, -⟩ := zk_gi (zk_F_ty hF 1) t1
  obtain ⟨a2, e2, -, -⟩ := zk_gi (zk_F_ty hF 2) t2
  obtain ⟨a3, e3, -, -⟩ := zk_gi (zk_F_ty hF 3) t3
  obtain ⟨a4, e4, -, -⟩ := zk_gi (zk_F_ty hF 4) t4
  obtain ⟨a5, e5, -, -⟩ := zk_gi (zk_F_ty hF 5) t5
  obtain ⟨f, hf, hby⟩ := hbyte a1 a2 a3 a4 a5
  obtain ⟨-, cell, hca, -, -⟩ := hp.2.2 a hg0
  obtain ⟨bt, ct, h8, hgt, ht0, hct⟩ := zq_refM (f := 8) (k := qn_tape) hp hga hca (by decide +kernel)
  obtain ⟨S, h9, s0, s1⟩ := zq_intM (f := 9) (t := (0, 0, 160)) hp hga hca (by decide +kernel) rfl
  have hfd : zq_fd D base Hb a bt G H S := ⟨hp, hga, hgt, cell, hca, h8, h9⟩
  have hvs : vs = [] := by rw [(zk_LS_stk hL).1, c1]; rfl
  subst hvs
  have hloc := (zk_LS_loc hL).1
  rw [c2] at hloc
  have hls : lv_has ls 9 [(0, .ref a), (1, .int a1), (2, .int a2), (3, .int a3), (4, .int a4), (5, .int a5)] := by
    have h2 : lv_has ls 9 [(0, v' 0), (1, v' 1), (2, v' 2), (3, v' 3), (4, v' 4), (5, v' 5)] := hloc
    rw [ea, e1, e2, e3, e4, e5] at h2
    exact h2
  have ret : ∀ (pc : Nat) (G1 : Nat → Nat) (H1 : Heap) (locs1 : List Loc) (ls1 : Array Slot) (w : Int32), (pc = 58 ∨ pc = 119) → zk_hp qK D base Hb G1 H1 → zk_ev qK D zq_fE G H G1 H1 → (∀ q ∈ locs1, base ≤ q.base) → lv_has ls1 9 [(0, .ref a), (1, .int a1), (2, .int a2), (3, .int a3), (4, .int a4), (5, .int a5)] → W p l e R s m args below meth c H1 locs1 0 0 Q (F0 m pc ls1 [.int w]) := fun pc G1 H1 locs1 ls1 w hpc hp3 he3 hl3 hls3 => by
    have hF1 := zk_F_st [] (zk_F_ev (keep := false) hw.1 hF he3 (fun z => by cases z))
    have hls4 : lv_has ls1 9 (x.2.1.map fun q => (q.1, v' q.2)) := by
      rw [c2]
      simp only [List.map_cons, List.map_nil, ea, e1, e2, e3, e4, e5]
      exact hls3
    have hL1 : zk_LS C.1.1 v 9 ls1 [] v' (zk_st (zk_ex qK zq_fE x false) []) := zk_LS_st (stk' := []) (zk_LS_ex (zk_LS_ls hL hls4)) (fun q hq => absurd hq List.not_mem_nil)
    have hn1 : (zk_st (zk_ex qK zq_fE x false) []).1 = x.1 := rfl
    have hup := zk_F_up (w := .int w) (stk' := []) (t := zk_I) (rs := []) (ms := []) hF1 (zk_tv_I w) (fun q hq => absurd hq List.not_mem_nil) (fun q hq => absurd hq List.not_mem_nil)
    have hLu := zk_LS_up (w := .int w) (stk' := []) (t := zk_I) (rs := []) (ms := []) hL1 (fun q hq => absurd hq List.not_mem_nil)
    rw [hn1] at hup hLu
    rcases hpc with rfl | rfl
    · exact zk_from (q0 := (58, zq_fdY x, [], 0, 0)) (hd := []) (xs := []) hx hb hw hok hR1 hR2 hr hlocks hQ h58 (fun q hq => absurd hq List.not_mem_nil) hp3 (zk_ev_tr hw.1 he (zk_ev_sb hC he3)) hl3 hup hLu
    · exact zk_from (q0 := (119, zq_fdY x, [], 0, 0)) (hd := []) (xs := []) hx hb hw hok hR1 hR2 hr hlocks hQ h119 (fun q hq => absurd hq List.not_mem_nil) hp3 (zk_ev_tr hw.1 he (zk_ev_sb hC he3)) hl3 hup hLu
  refine lv_iconst (v := nI 0) hx hb (by decide +kernel : decode prog_14_method_12_code 0 = .ok (.iconst 0, 1)) rfl ?_
  refine lv_istore (lv' := [(6, .int (nI 0)), (0, .ref a), (1, .int a1), (2, .int a2), (3, .int a3), (4, .int a4), (5, .int a5)]) hx hb (by decide +kernel : decode prog_14_method_12_code 1 = .ok (.istore 6, 2)) hls (by decide) rfl (fun ls hls => ?_)
  refine lv_iconst (v := nI 0) hx hb (by decide +kernel : decode prog_14_method_12_code 3 = .ok (.iconst 0, 1)) rfl ?_
  refine lv_istore (lv' := [(7, .int (nI 0)), (6, .int (nI 0)), (0, .ref a), (1, .int a1), (2, .int a2), (3, .int a3), (4, .int a4), (5, .int a5)]) hx hb (by decide +kernel : decode prog_14_method_12_code 4 = .ok (.istore 7, 2)) hls (by decide) rfl (fun ls hls => ?_)
  obtain ⟨tot, htot⟩ : ∃ tot, zq_cnt f 0 20 = tot := ⟨_, rfl⟩
  have htl : tot ≤ 20 := by rw [← htot]; exact zq_cnt_le f 20 0
  refine zq_fd_loop1 (tot := tot) hx hb hby (fun locs1 ls hl1 hls => ?_) 20 0 0 locs ls rfl (by rw [Nat.zero_add]; exact htot) hl hls
  obtain ⟨cell1, ⟨k1, k2, k3⟩, -, k5⟩ := zq_fd_obj hfd
  refine lv_aload_n hx hb (by decide +kernel : decode prog_14_method_12_code 44 = .ok (.aload_n 0, 1)) rfl (lv_at hls 2 rfl) (g181 k1 k2 k3 k5 (by decide +kernel) ?_)
  refine lv_iload hx hb (by decide +kernel : decode prog_14_method_12_code 48 = .ok (.iload 6, 2)) (lv_at hls 1 rfl) (lv_iadd hx hb (by decide +kernel : decode prog_14_method_12_code 50 = .ok (.iadd, 1)) (lv_sipush (v := 160) hx hb (by decide +kernel : decode prog_14_method_12_code 51 = .ok (.sipush 160, 3)) rfl ?_))
  refine lv_icmp_le (tgt := 59) hx hb (by decide +kernel : decode prog_14_method_12_code 54 = .ok (.if_icmp .le 5, 3)) (by decide) (fun hc => ?_) (fun _ => ?_)
  · obtain ⟨n, en, hn⟩ := zq_fd1 s0 s1 htl hc
    rw [en] at hfd
    refine lv_iconst (v := nI 0) hx hb (by decide +kernel : decode prog_14_method_12_code 59 = .ok (.iconst 0, 1)) rfl ?_
    refine lv_istore (lv' := [(7, .int (nI 0)), (6, .int (nI tot)), (0, .ref a), (1, .int a1), (2, .int a2), (3, .int a3), (4, .int a4), (5, .int a5)]) hx hb (by decide +kernel : decode prog_14_method_12_code 60 = .ok (.istore 7, 2)) hls (by decide) rfl (fun ls hls => ?_)
    exact zq_fd_loop2 (Gi := G) (Hi := H) hx hb hw.1 hw.2.1 (hw.2.2.1 0 _ hw.2.2.2.1) g26 g181 p181 hf hby (fun G1 H1 locs2 ls2 w b1 b2 b3 b4 => ret 119 G1 H1 locs2 ls2 w (Or.inr rfl) b1 b2 b3 b4) 20 0 n G H locs1 ls rfl (by rw [htot]; exact hn) hfd zk_ev_rf hl1 (lv_sub hls [0, 2, 3, 4, 5, 6, 7] rfl)
  · refine lv_iconst (v := -1) hx hb (by decide +kernel : decode prog_14_method_12_code 57 = .ok (.iconst (-1), 1)) rfl ?_
    exact ret 58 G H locs1 ls (-1) (Or.inl rfl) hp zk_ev_rf hl1 (lv_sub hls [2, 3, 4, 5, 6, 7] rfl)
end ZFX
end
