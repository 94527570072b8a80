/-! PICK, by hand: what is picked stays below the place after the newest -/
noncomputable section
/-- the places picked, below n, and those that are being moved, are good -/
def zq_gd (ca : Cell) (B : Int) (j : Nat) : Prop := ∃ q : Int32, ca.slots[j]? = some (.int q) ∧ 0 ≤ q.toInt ∧ q.toInt < B
theorem zq_gd_set {ca : Cell} {B : Int} {i j : Nat} {w : Int32} (hi : i < ca.slots.size) (h : j = i → 0 ≤ w.toInt ∧ w.toInt < B) (h2 : j ≠ i → zq_gd ca B j) : zq_gd (ca.setSlot i (.int w)) B j := by
  by_cases e : j = i
  · subst e
    exact ⟨w, Cell.slots_setSlot_self _ hi, (h rfl).1, (h rfl).2⟩
  · obtain ⟨q, q1, q2, q3⟩ := h2 e
    exact ⟨q, by rw [slot_ne _ _ (fun z => e z.symm)]; exact q1, q2, q3⟩
theorem zq_pk1 {n k : Int32} (h0 : 0 ≤ n.toInt) (h5 : n.toInt ≤ 5) (h1 : 0 < k.toInt) (h2 : k.toInt ≤ n.toInt) : (k - 1).toInt = k.toInt - 1 ∧ 0 ≤ (k - 1).toInt ∧ (k - 1).toInt < 5 ∧ (k + Int32.ofInt (-1)).toInt = k.toInt - 1 := by
  have e1 : (k - 1).toInt = k.toInt - 1 := by
    rw [Int32.toInt_sub, show (1 : Int32).toInt = 1 from rfl]
    exact Int.bmod_eq_of_le (by omega) (by omega)
  have e2 : (k + Int32.ofInt (-1)).toInt = k.toInt - 1 := by
    rw [Int32.toInt_add, show (Int32.ofInt (-1)).toInt = -1 from by decide]
    exact Int.bmod_eq_of_le (by omega) (by omega)
  omega
theorem zq_pk2 {n : Int32} (h0 : 0 ≤ n.toInt) (h5 : n.toInt ≤ 5) : ∃ n' : Int32, (if (5 : Int32) < n + 1 then (5 : Int32) else n + 1) = n' ∧ 1 ≤ n'.toInt ∧ n'.toInt ≤ 5 ∧ n'.toInt ≤ n.toInt + 1 ∧ (n' - 1).toInt = n'.toInt - 1 := by
  have e1 : (n + 1).toInt = n.toInt + 1 := by
    rw [Int32.toInt_add, show (1 : Int32).toInt = 1 from rfl]
    exact Int.bmod_eq_of_le (by omega) (by omega)
  refine ⟨_, rfl, ?_⟩
  split
  · refine ⟨by decide, by decide, ?_, by decide⟩
    rename_i h
    have := Int32.lt_iff_toInt_lt.mp h
    rw [e1] at this
    exact Int.le_of_lt this
  · rename_i h
    have h5' : ¬ (5 : Int32).toInt < (n + 1).toInt := fun z => h (Int32.lt_iff_toInt_lt.mpr z)
    rw [e1, show (5 : Int32).toInt = 5 from rfl] at h5'
    refine ⟨by omega, by omega, by omega, ?_⟩
    rw [Int32.toInt_sub, show (1 : Int32).toInt = 1 from rfl, e1]
    exact Int.bmod_eq_of_le (by omega) (by omega)
/-- the row while it is being moved up, i the place that is next -/
def zq_mv (ca : Cell) (B n n' i : Int) : Prop := ca.slots.size = 5 ∧ (∀ j : Nat, i < (j : Int) → (j : Int) < n' → zq_gd ca B j) ∧ ∀ j : Nat, (j : Int) ≤ i → (j : Int) < n → zq_gd ca B j
theorem zq_mv_step {ca : Cell} {B n n' : Int} {i q : Int32} (h : zq_mv ca B n n' i.toInt) (hn : n' ≤ n + 1) (hn5 : n' ≤ 5) (h0 : 0 < i.toInt) (h1 : i.toInt < n') (hq : ca.slots[(i - 1).toNatClampNeg]? = some (.int q)) (e : (i - 1).toInt = i.toInt - 1) (e2 : (i + Int32.ofInt (-1)).toInt = i.toInt - 1) : zq_mv (ca.setSlot i.toNatClampNeg (.int q)) B n n' (i + Int32.ofInt (-1)).toInt ∧ 0 ≤ q.toInt ∧ q.toInt < B := by
  obtain ⟨g1, g2, g3⟩ := h
  have k1 := zq_nc (i := i - 1) (by omega)
  have k2 := zq_nc (i := i) (by omega)
  obtain ⟨q', q1, q2, q3⟩ := g3 (i - 1).toNatClampNeg (by omega) (by omega)
  rw [hq] at q1; cases q1
  refine ⟨⟨by rw [zk_size_set]; exact g1, fun j hj hj2 => ?_, fun j hj hj2 => ?_⟩, q2, q3⟩
  · exact zq_gd_set (by omega) (fun _ => ⟨q2, q3⟩) (fun hne => g2 j (by omega) hj2)
  · exact zq_gd_set (by omega) (fun _ => ⟨q2, q3⟩) (fun hne => g3 j (by omega) hj2)
theorem zq_mv_fin {ca : Cell} {B n n' i : Int} {k w : Int32} (h : zq_mv ca B n n' i) (hik : i ≤ k.toInt) (hki : k.toInt ≤ i + 1) (h0 : 0 ≤ k.toInt) (h5 : k.toInt < 5) (hkn : k.toInt ≤ n) (w0 : 0 ≤ w.toInt) (w1 : w.toInt < B) : ∀ j : Nat, (j : Int) < n' → zq_gd (ca.setSlot k.toNatClampNeg (.int w)) B j := by
  obtain ⟨g1, g2, g3⟩ := h
  have k2 := zq_nc h0
  intro j hj
  refine zq_gd_set (by omega) (fun _ => ⟨w0, w1⟩) (fun hne => ?_)
  rcases Int.lt_or_le i (j : Int) with h | h
  · exact g2 j h hj
  · exact g3 j h (by omega)
theorem zq_pk3 {i k n' : Int32} {nn : Nat} (h : i.toInt = k.toInt + (nn + 1 : Nat)) (hk : 0 ≤ k.toInt) (h5 : n'.toInt ≤ 5) (hi : i.toInt < n'.toInt) : 0 < i.toInt ∧ 0 ≤ i.toInt ∧ i.toInt < 5 ∧ (i - 1).toInt = i.toInt - 1 ∧ 0 ≤ (i - 1).toInt ∧ (i - 1).toInt < 5 ∧ (i + Int32.ofInt (-1)).toInt = i.toInt - 1 ∧ (i + Int32.ofInt (-1)).toInt = k.toInt + nn ∧ (i + Int32.ofInt (-1)).toInt < n'.toInt ∧ ¬ i.toInt ≤ k.toInt := by
  have e1 : (i - 1).toInt = i.toInt - 1 := by
    rw [Int32.toInt_sub, show (1 : Int32).toInt = 1 from rfl]
    exact Int.bmod_eq_of_le (by omega) (by omega)
  have e2 : (i + Int32.ofInt (-1)).toInt = i.toInt - 1 := by
    rw [Int32.toInt_add, show (Int32.ofInt (-1)).toInt = -1 from by decide]
    exact Int.bmod_eq_of_le (by omega) (by omega)
  omega
theorem zq_pk4 {q B x y : Int} (h0 : 0 ≤ q) (h1 : q < B) (hx : x ≤ 0) (hy : B ≤ y + 1) : x ≤ q ∧ q ≤ y := by omega
section ZK
variable {p : Program} {l : Launch} {e : Env} {R : Room} {s : State} {m : MethodId} {args : Array Value} {below : List Frame} {meth : Method} {c : Code} {Q : State → Prop} {KT : List zk_K} {D : zk_D} {base : Nat} {Hb : Heap} {n0 nL : Nat} {v0 : Nat → Value} {E : List (Nat × Nat)} {G0 : Nat → Nat} {H0 : Heap} {cc : ByteArray}
variable {cells slots : Nat}
set_option maxHeartbeats 1000000 in
theorem zq_pk_l2 (hx : p.tables.exec = Jvm.exec) (hb : c.code = cc) (hkt : zk_kt KT) (hAT : ArrOfT s (D.2.2.1 0) .int) {kP kW kA ci iW iA : Nat} {tA : zk_T} {B n : Int} (hgW : zk_gok p l e R s m args below meth c Q D cc iW ci 0) (hgA : zk_gok p l e R s m args below meth c Q D cc iA ci 1) (hW : zq_row KT kW) (hWt : (zk_kd KT kW).2.2.1[0]? = some zk_I) (hA : zq_row KT kA) (hAt : (zk_kd KT kA).2.2.1[0]? = some tA) (hA1 : tA.2.1 ≤ 0) (hA2 : B ≤ tA.2.2 + 1) (hWA : kW ≠ kA) (hP0 : kP ≠ 0) (hP1 : (zk_kd KT kP).1 = 0) (hP2 : (zk_kd KT kP).2.1 = ci)
    (d61 : decode cc 61 = .ok (.iload 4, 2)) (d63 : decode cc 63 = .ok (.iload_n 3, 1)) (d64 : decode cc 64 = .ok (.if_icmp .le 41, 3)) (d67 : decode cc 67 = .ok (.aload_n 0, 1)) (d68 : decode cc 68 = .ok (.getfield iW, 3)) (d71 : decode cc 71 = .ok (.iload 4, 2)) (d73 : decode cc 73 = .ok (.aload_n 0, 1)) (d74 : decode cc 74 = .ok (.getfield iW, 3)) (d77 : decode cc 77 = .ok (.iload 4, 2)) (d79 : decode cc 79 = .ok (.iconst 1, 1)) (d80 : decode cc 80 = .ok (.isub, 1)) (d81 : decode cc 81 = .ok (.iaload, 1)) (d82 : decode cc 82 = .ok (.iastore, 1))
    (d83 : decode cc 83 = .ok (.aload_n 0, 1)) (d84 : decode cc 84 = .ok (.getfield iA, 3)) (d87 : decode cc 87 = .ok (.iload 4, 2)) (d89 : decode cc 89 = .ok (.aload_n 0, 1)) (d90 : decode cc 90 = .ok (.getfield iA, 3)) (d93 : decode cc 93 = .ok (.iload 4, 2)) (d95 : decode cc 95 = .ok (.iconst 1, 1)) (d96 : decode cc 96 = .ok (.isub, 1)) (d97 : decode cc 97 = .ok (.iaload, 1)) (d98 : decode cc 98 = .ok (.iastore, 1)) (d99 : decode cc 99 = .ok (.iinc 4 (-1), 3)) (d102 : decode cc 102 = .ok (.goto (-41), 3)) (hnL : nL = 5)
    {G : Nat → Nat} {H : Heap} {a bw ba : Nat} {cell : Cell} {k n' wv tv : Int32} (hga : G a = kP) (hgw : G bw = kW) (hgb : G ba = kA) (h0 : cell.slots[D.2.1 ci 0]? = some (.ref bw)) (h1 : cell.slots[D.2.1 ci 1]? = some (.ref ba)) (hk0 : 0 ≤ k.toInt) (hn5 : n'.toInt ≤ 5) (hnn : n'.toInt ≤ n + 1)
    (kk : ∀ (H1 : Heap) (locs1 : List Loc) (ls1 : Array Slot) (cw ca : Cell) (i : Int32), i.toInt = k.toInt → zk_hp KT D base Hb G H1 → zk_ev KT D [(kW, 0), (kA, 0)] G H G H1 → H1.size = H.size → H1[a]? = some cell → H1[bw]? = some cw → cw.slots.size = 5 → H1[ba]? = some ca → zq_mv ca B n n'.toInt i.toInt → (∀ q ∈ locs1, base ≤ q.base) → lv_has ls1 nL [(4, .int i), (3, .int k), (0, .ref a), (1, .int wv), (2, .int tv)] → W p l e R s m args below meth c H1 locs1 cells slots Q (F0 m 105 ls1 [])) :
    ∀ (nn : Nat) (H1 : Heap) (locs1 : List Loc) (ls1 : Array Slot) (cw ca : Cell) (i : Int32), i.toInt = k.toInt + nn → i.toInt < n'.toInt → zk_hp KT D base Hb G H1 → zk_ev KT D [(kW, 0), (kA, 0)] G H G H1 → H1.size = H.size → H1[a]? = some cell → H1[bw]? = some cw → cw.slots.size = 5 → H1[ba]? = some ca → zq_mv ca B n n'.toInt i.toInt → (∀ q ∈ locs1, base ≤ q.base) → lv_has ls1 nL [(4, .int i), (3, .int k), (0, .ref a), (1, .int wv), (2, .int tv)] → W p l e R s m args below meth c H1 locs1 cells slots Q (F0 m 61 ls1 []) := by
  intro nn
  subst hnL
  have haw : bw ≠ a := fun e => by rw [e, hga] at hgw; rw [← hgw] at hW; exact hW.2.1 hP1
  have hab : ba ≠ a := fun e => by rw [e, hga] at hgb; rw [← hgb] at hA; exact hA.2.1 hP1
  have hwb : bw ≠ ba := fun e => by rw [e, hgb] at hgw; exact hWA hgw.symm
  induction nn with
  | zero =>
    intro H1 locs1 ls1 cw ca i hi hin hp he hz hca hcw hws hcb hmv hl hls
    refine lv_iload hx hb d61 (lv_at hls 0 rfl) (lv_iload_n hx hb d63 rfl (lv_at hls 1 rfl) ?_)
    have e : i.toInt = k.toInt := by rw [hi]; exact Int.add_zero _
    refine lv_icmp_le (tgt := 105) hx hb d64 (by decide) (fun _ => ?_) (fun hn => ?_)
    · exact kk H1 locs1 ls1 cw ca i e hp he hz hca hcw hws hcb hmv hl hls
    · exact absurd (Int32.le_iff_toInt_le.mpr (Int.le_of_eq e)) hn
  | succ nn ih =>
    intro H1 locs1 ls1 cw ca i hi hin hp he hz hca hcw hws hcb hmv hl hls
    obtain ⟨x1, x2, x3, x4, x5, x6, x7, x8, x9, x10⟩ := zq_pk3 hi hk0 hn5 hin
    have s5 : ca.slots.size = 5 := hmv.1
    refine lv_iload hx hb d61 (lv_at hls 0 rfl) (lv_iload_n hx hb d63 rfl (lv_at hls 1 rfl) ?_)
    refine lv_icmp_le (tgt := 105) hx hb d64 (by decide) (fun hn => absurd (Int32.le_iff_toInt_le.mp hn) x10) (fun _ => ?_)
    obtain ⟨-, cl, r1, r2, -⟩ := hp.2.2 a (by rw [hga]; exact hP0)
    rw [hca] at r1; cases r1
    have hcla := (r2.2.1 (by rw [hga]; exact hP1)).1
    rw [hga, hP2] at hcla
    refine lv_aload_n hx hb d67 rfl (lv_at hls 2 rfl) (hgW hca hcla r2.1.1 h0 d68 ?_)
    refine lv_iload hx hb d71 (lv_at hls 0 rfl) ?_
    refine lv_aload_n hx hb d73 rfl (lv_at hls 2 rfl) (hgW hca hcla r2.1.1 h0 d74 ?_)
    refine lv_iload hx hb d77 (lv_at hls 0 rfl) (lv_iconst (v := 1) hx hb d79 rfl (lv_isub hx hb d80 ?_))
    refine zq_ild hx hb hAT hp hW hgw hcw x5 (by rw [hws]; exact x6) d81 (fun q1 t1 _ _ _ _ => ?_)
    have hr1 := zk_rng q1
    refine zq_ist hx hb hAT (t := zk_I) hp hl hW hgw hcw x2 (by rw [hws]; exact x3) hWt hr1.1 hr1.2 d82 (fun H2 locs2 hp2 he2 hz2 ew2 eo2 hl2 => ?_)
    have hca2 : H2[a]? = some cell := by rw [eo2 a (fun z => haw z.symm)]; exact hca
    have hcb2 : H2[ba]? = some ca := by rw [eo2 ba (fun z => hwb z.symm)]; exact hcb
    refine lv_aload_n hx hb d83 rfl (lv_at hls 2 rfl) (hgA hca2 hcla r2.1.1 h1 d84 ?_)
    refine lv_iload hx hb d87 (lv_at hls 0 rfl) ?_
    refine lv_aload_n hx hb d89 rfl (lv_at hls 2 rfl) (hgA hca2 hcla r2.1.1 h1 d90 ?_)
    refine lv_iload hx hb d93 (lv_at hls 0 rfl) (lv_iconst (v := 1) hx hb d95 rfl (lv_isub hx hb d96 ?_))
    refine zq_ild hx hb hAT hp2 hA hgb hcb2 x5 (by rw [s5]; exact x6) d97 (fun q2 t2 e2 _ _ _ => ?_)
    obtain ⟨g1, g2, g3⟩ := zq_mv_step hmv hnn hn5 x1 hin e2 x4 x7
    obtain ⟨g4, g5⟩ := zq_pk4 g2 g3 hA1 hA2
    refine zq_ist hx hb hAT (t := tA) hp2 hl2 hA hgb hcb2 x2 (by rw [s5]; exact x3) hAt g4 g5 d98 (fun H3 locs3 hp3 he3 hz3 eb3 eo3 hl3 => ?_)
    refine lv_iinc (k := 0) (v := i + Int32.ofInt (-1)) (lv' := [(4, .int (i + Int32.ofInt (-1))), (3, .int k), (0, .ref a), (1, .int wv), (2, .int tv)]) hx hb d99 hls rfl rfl (by decide) rfl (fun ls2 hls2 => ?_)
    refine lv_goto (tgt := 61) hx hb d102 (by decide) ?_
    have hsb : ∀ q ∈ ([(kW, 0)] : List (Nat × Nat)), q ∈ [(kW, 0), (kA, 0)] := fun q hq => by simp at hq; simp [hq]
    exact ih H3 locs3 ls2 _ _ (i + Int32.ofInt (-1)) x8 x9 hp3 (zk_ev_tr hkt he (zk_ev_tr hkt (zk_ev_sb (by simp only [zk_sb, List.all_cons, List.all_nil, Bool.and_true]; simp only [zk_me_eq]; simp [Nat.beq_refl]) he2) (zk_ev_sb (by simp only [zk_sb, List.all_cons, List.all_nil, Bool.and_true]; simp only [zk_me_eq]; simp [Nat.beq_refl]) he3))) (hz3.trans (hz2.trans hz)) (by rw [eo3 a (fun z => hab z.symm)]; exact hca2) (by rw [eo3 bw hwb]; exact ew2) (by rw [zk_size_set]; exact hws) eb3 g1 hl3 hls2
end ZK
end
