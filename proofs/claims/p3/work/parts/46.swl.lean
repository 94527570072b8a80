/-! WORK, by hand: its loop -/
section ZWL
variable {p : Program} {l : Launch} {e : Env} {R : Room} {s : State} {m : MethodId} {args : Array Value} {below : List Frame} {meth : Method} {c : Code} {Q : State → Prop} {D : zk_D} {base : Nat} {Hb : Heap} {G0 : Nat → Nat} {H0 : Heap}
variable {cells slots : Nat} {a bc bp bl : Nat} {cc0 : Cell}
theorem zq_i2 {q k : Int32} (h : q = k) : q.toInt = k.toInt := by rw [h]
theorem zq_i3 {q k : Int32} (h : ¬ q = k) : q.toInt ≠ k.toInt := fun z => h (Int32.toInt_inj.mp z)
theorem zq_nm {n : Nat} (h : 1 ≤ n) : nI n - 1 = nI (n - 1) := by
  obtain ⟨k, rfl⟩ : ∃ k, n = k + 1 := ⟨n - 1, by omega⟩
  exact nI_pred k
theorem zq_nm2 {n : Nat} (h : 1 ≤ n) : nI n + Int32.ofInt (-1) = nI (n - 1) := by
  rw [← zq_nm h]
  exact (Int32.sub_eq_add_neg (nI n) 1).symm
set_option maxHeartbeats 4000000 in
set_option maxRecDepth 100000 in
theorem zq_wk_loop (hx : p.tables.exec = Jvm.exec) (hb : c.code = prog_14_method_49_code) (hkt : zk_kt qK) (hdj : zk_dj qK D) (hAT : ArrOfT s (D.2.2.1 0) .int) (g38 : zk_gok p l e R s m args below meth c Q D prog_14_method_49_code 38 12 19) (g328 : zk_gok p l e R s m args below meth c Q D prog_14_method_49_code 328 12 29) (p328 : zk_pok p l e R s m args below meth c Q D prog_14_method_49_code 328 12 29 0) (g59 : zk_gok p l e R s m args below meth c Q D prog_14_method_49_code 59 12 28) (g56 : zk_gok p l e R s m args below meth c Q D prog_14_method_49_code 56 12 27) {tot pos0 : Nat} {B B' : Int} (hBB : (B = 1000 ∧ B' = 4000) ∨ (B = 4000 ∧ B' = 0)) (htot : tot ≤ cc0.slots.size) (hsz : cc0.slots.size ≤ 90000) (hint : ∀ j : Nat, j < cc0.slots.size → ∃ q : Int32, cc0.slots[j]? = some (.int q))
    (hboth : ∀ {G : Nat → Nat} {H : Heap} {locs : List Loc} {ls : Array Slot} {x y z : Int32} {rest : List Value}, zk_hp qK D base Hb G H → (∀ q ∈ locs, base ≤ q.base) → (rest.map fun w => w.category).sum ≤ 8 → ls.size = 3 → (∀ (r : Int32) (G' : Nat → Nat) (H' : Heap) (locs' : List Loc), zk_hp qK D base Hb G' H' → zk_ev qK D [] G H G' H' → (∀ q ∈ locs', base ≤ q.base) → W p l e R s m args below meth c H' locs' cells slots Q (F0 m 170 ls (.int r :: rest))) → W p l e R s m args below meth c H locs cells slots Q (F0 m 167 ls (.int z :: .int y :: .int x :: rest)))
    (kret : ∀ (G1 : Nat → Nat) (H1 : Heap) (locs1 : List Loc) (ls1 : Array Slot) (w rd1 : Int32) (pos1 : Nat), zq_wk D base Hb a bc bp bl cc0 G1 H1 rd1 → zk_ev qK D zq_wE G0 H0 G1 H1 → (∀ q ∈ locs1, base ≤ q.base) → rd1.toInt = (pos1 : Int) → pos0 < pos1 → pos1 ≤ tot → zq_run B' (zq_seg cc0 pos1 (tot - pos1)) = 0 → W p l e R s m args below meth c H1 locs1 cells slots Q (F0 m 190 ls1 [.int w])) :
    ∀ (k r n pos : Nat) (G : Nat → Nat) (H : Heap) (locs : List Loc) (ls : Array Slot) (rd : Int32), r ≤ k → pos + r = tot → pos0 ≤ pos → n ≤ 199 → rd.toInt = (pos : Int) → zq_run (B + n) (zq_seg cc0 pos r) = 0 → zq_wk D base Hb a bc bp bl cc0 G H rd → zk_ev qK D zq_wE G0 H0 G H → (∀ q ∈ locs, base ≤ q.base) → lv_has ls 3 [(1, .int (nI n)), (0, .ref a)] → W p l e R s m args below meth c H locs cells slots Q (F0 m 2 ls []) := by
  have hB : B = 1000 ∨ B = 4000 := hBB.elim (fun z => Or.inl z.1) (fun z => Or.inr z.1)
  intro k
  induction k with
  | zero =>
    intro r n pos G H locs ls rd hr hpr hp0 hn hrd hrun hw he hl hls
    have hr : r = 0 := Nat.le_zero.mp hr
    subst hr
    rw [zq_seg_nil] at hrun
    have hrun : B + (n : Int) = 0 := hrun
    exfalso
    omega
  | succ k ih =>
    intro r n pos G H locs ls rd hr hpr hp0 hn hrd hrun hw he hl hls
    have hn0 : (0 : Int) ≤ (n : Int) := Int.natCast_nonneg n
    have hn1 : (n : Int) ≤ 199 := Int.ofNat_le.mpr hn
    obtain ⟨cI, l', e1, h1, h2⟩ := zq_w1 hB hn0 hrun
    obtain ⟨r', rfl⟩ := zq_wn e1
    have hlt : pos < cc0.slots.size := by omega
    obtain ⟨q, hq⟩ := hint pos hlt
    rw [zq_seg_cons hq] at e1
    injection e1 with ec el
    have ec : q.toInt = cI := ec
    subst ec
    subst el
    obtain ⟨x2, x3, x0, x1, x33, xe⟩ := zq_w2 hB hn0 hn1 h2
    obtain ⟨u1, u2, u3⟩ := zq_wp hrd (by omega)
    -- the end
    have fin : zq_run B' (zq_seg cc0 (pos + 1) r') = 0 → W p l e R s m args below meth c H locs cells slots Q (F0 m 174 ls []) := fun hfin => by
      refine zq_wk_in (pc := 174) (iR := 328) hx hb hdj g328 p328 (by decide +kernel) (by decide +kernel) (by decide +kernel) (by decide +kernel) (by decide +kernel) (by decide +kernel) hw hl hls (ip := 1) (jv := 0) rfl (fun H1 locs1 hw1 he1 ho1 hl1 => ?_)
      refine zq_wk_gf (pc := 184) (iX := 59) hx hb g59 (jv := 0) (by decide +kernel) (by decide +kernel) hw1 (Or.inl ⟨rfl, rfl⟩) hls (ip := 1) rfl ?_
      refine lv_iconst (v := nI 0) hx hb (by decide +kernel : decode prog_14_method_49_code 188 = .ok (.iconst 0, 1)) rfl ?_
      refine zq_wk_pl (pc := 189) (i := 0) hx hb hAT hw1 (by decide) (by decide +kernel) (fun w => ?_)
      exact kret G H1 locs1 ls w (rd + 1) (pos + 1) hw1 (zk_ev_tr hkt he (zk_ev_sb (by decide +kernel) he1)) hl1 u1 (by omega) (by omega) (by rw [show tot - (pos + 1) = r' by omega]; exact hfin)
    refine zq_wk_cd (pc := 2) (iC := 38) (iR := 328) hx hb hAT g38 g328 (jv := 0) (by decide +kernel) (by decide +kernel) (by decide +kernel) (by decide +kernel) (by decide +kernel) hw hls (ip := 1) rfl hrd hq ?_
    refine lv_iconst (v := 2) hx hb (by decide +kernel : decode prog_14_method_49_code 11 = .ok (.iconst 2, 1)) rfl ?_
    refine lv_icmp_eq (tgt := 174) hx hb (by decide +kernel : decode prog_14_method_49_code 12 = .ok (.if_icmp .eq 162, 3)) (by decide) (fun hc => ?_) (fun hc2 => ?_)
    · obtain ⟨b1, b2⟩ := x2 (zq_i2 hc)
      rw [b2] at h1
      rcases hBB with ⟨z1, z2⟩ | ⟨z1, z2⟩
      · exact fin (by rw [z2]; exact h1)
      · exfalso; omega
    refine zq_wk_cd (pc := 15) (iC := 38) (iR := 328) hx hb hAT g38 g328 (jv := 0) (by decide +kernel) (by decide +kernel) (by decide +kernel) (by decide +kernel) (by decide +kernel) hw hls (ip := 1) rfl hrd hq ?_
    refine lv_iconst (v := 3) hx hb (by decide +kernel : decode prog_14_method_49_code 24 = .ok (.iconst 3, 1)) rfl ?_
    refine lv_icmp_eq (tgt := 174) hx hb (by decide +kernel : decode prog_14_method_49_code 25 = .ok (.if_icmp .eq 149, 3)) (by decide) (fun hc => ?_) (fun hc3 => ?_)
    · obtain ⟨b1, b2⟩ := x3 (zq_i2 hc)
      rw [b2] at h1
      rcases hBB with ⟨z1, z2⟩ | ⟨z1, z2⟩
      · exfalso; omega
      · exact fin (by rw [z2]; exact h1)
    refine zq_wk_cd (pc := 28) (iC := 38) (iR := 328) hx hb hAT g38 g328 (jv := 0) (by decide +kernel) (by decide +kernel) (by decide +kernel) (by decide +kernel) (by decide +kernel) hw hls (ip := 1) rfl hrd hq ?_
    refine lv_istore_n (lv' := [(2, .int q), (1, .int (nI n)), (0, .ref a)]) hx hb (by decide +kernel : decode prog_14_method_49_code 37 = .ok (.istore_n 2, 1)) rfl hls (by decide) rfl (fun ls hls => ?_)
    refine zq_wk_in (pc := 38) (iR := 328) hx hb hdj g328 p328 (by decide +kernel) (by decide +kernel) (by decide +kernel) (by decide +kernel) (by decide +kernel) (by decide +kernel) hw hl hls (ip := 2) (jv := 0) rfl (fun H1 locs1 hw1 he1 ho1 hl1 => ?_)
    have he1' := zk_ev_tr hkt he (zk_ev_sb (E := zq_wE) (by decide +kernel) he1)
    have back : ∀ (r2 n2 pos2 : Nat) (G2 : Nat → Nat) (H2 : Heap) (locs2 : List Loc) (ls2 : Array Slot) (rd2 : Int32), r2 ≤ k → pos2 + r2 = tot → pos0 ≤ pos2 → n2 ≤ 199 → rd2.toInt = (pos2 : Int) → zq_run (B + n2) (zq_seg cc0 pos2 r2) = 0 → zq_wk D base Hb a bc bp bl cc0 G2 H2 rd2 → zk_ev qK D zq_wE G0 H0 G2 H2 → (∀ q ∈ locs2, base ≤ q.base) → lv_has ls2 3 [(1, .int (nI n2)), (0, .ref a)] → W p l e R s m args below meth c H2 locs2 cells slots Q (F0 m 171 ls2 []) := fun r2 n2 pos2 G2 H2 locs2 ls2 rd2 a1 a2 a3 a4 a5 a6 a7 a8 a9 a10 =>
      lv_goto (tgt := 2) hx hb (by decide +kernel : decode prog_14_method_49_code 171 = .ok (.goto (-169), 3)) (by decide) (ih r2 n2 pos2 G2 H2 locs2 ls2 rd2 a1 a2 a3 a4 a5 a6 a7 a8 a9 a10)
    -- behind the store of a value
    have stored : ∀ (w : Int32) (r2 : Nat), r' = r2 + 1 → n ≤ 198 → zq_run (B + ((n + 1 : Nat) : Int)) (zq_seg cc0 (pos + 1 + 1) r2) = 0 → W p l e R s m args below meth c H1 locs1 cells slots Q (F0 m 92 ls [.int w, .int (nI n), .ref bp]) := fun w r2 er hn8 hr2 => by
      refine zq_wk_ps (pc := 92) hx hb hAT hw1 hl1 hn (by decide +kernel) (fun H2 locs2 hw2 he2 ho2 hl2 => ?_)
      refine zq_wk_in (pc := 93) (iR := 328) hx hb hdj g328 p328 (by decide +kernel) (by decide +kernel) (by decide +kernel) (by decide +kernel) (by decide +kernel) (by decide +kernel) hw2 hl2 hls (ip := 2) (jv := 0) rfl (fun H3 locs3 hw3 he3 ho3 hl3 => ?_)
      refine lv_iinc (k := 1) (v := nI (n + 1)) (lv' := [(1, .int (nI (n + 1))), (2, .int q), (0, .ref a)]) hx hb (by decide +kernel : decode prog_14_method_49_code 103 = .ok (.iinc 1 1, 3)) hls rfl (nI_1 n) (by decide) rfl (fun ls hls => ?_)
      refine lv_goto (tgt := 171) hx hb (by decide +kernel : decode prog_14_method_49_code 106 = .ok (.goto 65, 3)) (by decide) ?_
      obtain ⟨v1, -, -⟩ := zq_wp u1 (by omega)
      exact back r2 (n + 1) (pos + 1 + 1) G H3 locs3 ls (rd + 1 + 1) (by omega) (by omega) (by omega) (by omega) v1 hr2 hw3 (zk_ev_tr hkt he1' (zk_ev_tr hkt (zk_ev_sb (E := zq_wE) (by decide +kernel) he2) (zk_ev_sb (E := zq_wE) (by decide +kernel) he3))) hl3 (lv_sub hls [0, 2] rfl)
    refine lv_iload_n hx hb (by decide +kernel : decode prog_14_method_49_code 48 = .ok (.iload_n 2, 1)) rfl (lv_at hls 0 rfl) ?_
    refine lv_if_eq (tgt := 57) hx hb (by decide +kernel : decode prog_14_method_49_code 49 = .ok (.ifCond .eq 8, 3)) (by decide) (fun hc => ?_) (fun hc0 => ?_)
    · rw [x0 (zq_i2 hc)] at h1
      obtain ⟨c2, l2, e2, n8, h3⟩ := zq_w3 hB hn0 hn1 h1
      obtain ⟨r2, rfl⟩ := zq_wn e2
      obtain ⟨q2, hq2⟩ := hint (pos + 1) (by omega)
      rw [zq_seg_cons hq2] at e2
      injection e2 with _ el
      subst el
      refine zq_wk_gf (pc := 57) (iX := 59) hx hb g59 (jv := 0) (by decide +kernel) (by decide +kernel) hw1 (Or.inl ⟨rfl, rfl⟩) hls (ip := 2) rfl ?_
      refine lv_iload_n hx hb (by decide +kernel : decode prog_14_method_49_code 61 = .ok (.iload_n 1, 1)) rfl (lv_at hls 1 rfl) (lv_iload_n hx hb (by decide +kernel : decode prog_14_method_49_code 62 = .ok (.iload_n 2, 1)) rfl (lv_at hls 0 rfl) ?_)
      refine lv_if_ne (tgt := 78) hx hb (by decide +kernel : decode prog_14_method_49_code 63 = .ok (.ifCond .ne 15, 3)) (by decide) (fun z => absurd hc z) (fun _ => ?_)
      refine zq_wk_cd (pc := 66) (iC := 38) (iR := 328) hx hb hAT g38 g328 (jv := 0) (by decide +kernel) (by decide +kernel) (by decide +kernel) (by decide +kernel) (by decide +kernel) hw1 hls (ip := 2) rfl u1 hq2 ?_
      refine lv_goto (tgt := 92) hx hb (by decide +kernel : decode prog_14_method_49_code 75 = .ok (.goto 17, 3)) (by decide) ?_
      exact stored q2 r2 rfl (by omega) h3
    refine lv_iload_n hx hb (by decide +kernel : decode prog_14_method_49_code 52 = .ok (.iload_n 2, 1)) rfl (lv_at hls 0 rfl) ?_
    refine lv_iconst (v := 1) hx hb (by decide +kernel : decode prog_14_method_49_code 53 = .ok (.iconst 1, 1)) rfl ?_
    refine lv_icmp_ne (tgt := 109) hx hb (by decide +kernel : decode prog_14_method_49_code 54 = .ok (.if_icmp .ne 55, 3)) (by decide) (fun hc1 => ?_) (fun hc => ?_)
    case refine_2 =>
      rw [x1 (zq_i2 hc)] at h1
      obtain ⟨c2, l2, e2, n8, c20, c27, h3⟩ := zq_w4 hB hn0 hn1 h1
      obtain ⟨r2, rfl⟩ := zq_wn e2
      obtain ⟨q2, hq2⟩ := hint (pos + 1) (by omega)
      rw [zq_seg_cons hq2] at e2
      injection e2 with eq2 el
      subst el
      have eq2 : q2.toInt = c2 := eq2
      subst eq2
      refine zq_wk_gf (pc := 57) (iX := 59) hx hb g59 (jv := 0) (by decide +kernel) (by decide +kernel) hw1 (Or.inl ⟨rfl, rfl⟩) hls (ip := 2) rfl ?_
      refine lv_iload_n hx hb (by decide +kernel : decode prog_14_method_49_code 61 = .ok (.iload_n 1, 1)) rfl (lv_at hls 1 rfl) (lv_iload_n hx hb (by decide +kernel : decode prog_14_method_49_code 62 = .ok (.iload_n 2, 1)) rfl (lv_at hls 0 rfl) ?_)
      refine lv_if_ne (tgt := 78) hx hb (by decide +kernel : decode prog_14_method_49_code 63 = .ok (.ifCond .ne 15, 3)) (by decide) (fun _ => ?_) (fun z => absurd z hc0)
      refine zq_wk_gf (pc := 78) (iX := 56) hx hb g56 (jv := 0) (by decide +kernel) (by decide +kernel) hw1 (Or.inr ⟨rfl, rfl⟩) hls (ip := 2) rfl ?_
      refine zq_wk_cd (pc := 82) (iC := 38) (iR := 328) hx hb hAT g38 g328 (jv := 0) (by decide +kernel) (by decide +kernel) (by decide +kernel) (by decide +kernel) (by decide +kernel) hw1 hls (ip := 2) rfl u1 hq2 ?_
      refine zq_wk_ll (pc := 91) hx hb hAT hw1 c20 c27 (by decide +kernel) (fun w => ?_)
      exact stored w r2 rfl (by omega) h3
    refine lv_iload_n hx hb (by decide +kernel : decode prog_14_method_49_code 109 = .ok (.iload_n 2, 1)) rfl (lv_at hls 0 rfl) ?_
    refine lv_bipush (v := 33) hx hb (by decide +kernel : decode prog_14_method_49_code 110 = .ok (.bipush 33, 2)) rfl ?_
    refine lv_icmp_ne (tgt := 142) hx hb (by decide +kernel : decode prog_14_method_49_code 112 = .ok (.if_icmp .ne 30, 3)) (by decide) (fun hc33 => ?_) (fun hc => ?_)
    case refine_2 =>
      obtain ⟨b1, b2⟩ := x33 (zq_i2 hc)
      rw [b2] at h1
      have n1 : 1 ≤ n := by omega
      have done : ∀ w : Int32, W p l e R s m args below meth c H1 locs1 cells slots Q (F0 m 138 ls [.int w, .int (nI (n - 1)), .ref bp]) := fun w => by
        refine zq_wk_ps (pc := 138) hx hb hAT hw1 hl1 (by omega) (by decide +kernel) (fun H2 locs2 hw2 he2 ho2 hl2 => ?_)
        refine lv_goto (tgt := 171) hx hb (by decide +kernel : decode prog_14_method_49_code 139 = .ok (.goto 32, 3)) (by decide) ?_
        exact back r' n (pos + 1) G H2 locs2 ls (rd + 1) (by omega) (by omega) (by omega) hn u1 h1 hw2 (zk_ev_tr hkt he1' (zk_ev_sb (E := zq_wE) (by decide +kernel) he2)) hl2 (lv_sub hls [1, 2] rfl)
      refine zq_wk_gf (pc := 115) (iX := 59) hx hb g59 (jv := 0) (by decide +kernel) (by decide +kernel) hw1 (Or.inl ⟨rfl, rfl⟩) hls (ip := 2) rfl ?_
      refine lv_iload_n hx hb (by decide +kernel : decode prog_14_method_49_code 119 = .ok (.iload_n 1, 1)) rfl (lv_at hls 1 rfl) (lv_iconst (v := 1) hx hb (by decide +kernel : decode prog_14_method_49_code 120 = .ok (.iconst 1, 1)) rfl (lv_isub hx hb (by decide +kernel : decode prog_14_method_49_code 121 = .ok (.isub, 1)) ?_))
      rw [zq_nm n1]
      refine zq_wk_gf (pc := 122) (iX := 59) hx hb g59 (jv := 0) (by decide +kernel) (by decide +kernel) hw1 (Or.inl ⟨rfl, rfl⟩) hls (ip := 2) rfl ?_
      refine lv_iload_n hx hb (by decide +kernel : decode prog_14_method_49_code 126 = .ok (.iload_n 1, 1)) rfl (lv_at hls 1 rfl) (lv_iconst (v := 1) hx hb (by decide +kernel : decode prog_14_method_49_code 127 = .ok (.iconst 1, 1)) rfl (lv_isub hx hb (by decide +kernel : decode prog_14_method_49_code 128 = .ok (.isub, 1)) ?_))
      rw [zq_nm n1]
      refine zq_wk_pl (pc := 129) hx hb hAT hw1 (by omega) (by decide +kernel) (fun w => ?_)
      refine lv_if_ne (tgt := 137) hx hb (by decide +kernel : decode prog_14_method_49_code 130 = .ok (.ifCond .ne 7, 3)) (by decide) (fun _ => ?_) (fun _ => ?_)
      · exact lv_iconst (v := 0) hx hb (by decide +kernel : decode prog_14_method_49_code 137 = .ok (.iconst 0, 1)) rfl (done 0)
      · exact lv_iconst (v := 1) hx hb (by decide +kernel : decode prog_14_method_49_code 133 = .ok (.iconst 1, 1)) rfl (lv_goto (tgt := 138) hx hb (by decide +kernel : decode prog_14_method_49_code 134 = .ok (.goto 4, 3)) (by decide) (done 1))
    obtain ⟨b1, b2⟩ := xe (zq_i3 hc0) (zq_i3 hc1) (zq_i3 hc2) (zq_i3 hc3) (zq_i3 hc33)
    rw [b2] at h1
    have n2 : 2 ≤ n := by omega
    have en : ((n - 1 : Nat) : Int) = (n : Int) - 1 := by omega
    refine lv_iinc (k := 1) (v := nI (n - 1)) (lv' := [(1, .int (nI (n - 1))), (2, .int q), (0, .ref a)]) hx hb (by decide +kernel : decode prog_14_method_49_code 142 = .ok (.iinc 1 (-1), 3)) hls rfl (zq_nm2 (by omega)) (by decide) rfl (fun ls hls => ?_)
    refine zq_wk_gf (pc := 145) (iX := 59) hx hb g59 (jv := 0) (by decide +kernel) (by decide +kernel) hw1 (Or.inl ⟨rfl, rfl⟩) hls (ip := 2) rfl ?_
    refine lv_iload_n hx hb (by decide +kernel : decode prog_14_method_49_code 149 = .ok (.iload_n 1, 1)) rfl (lv_at hls 0 rfl) (lv_iconst (v := 1) hx hb (by decide +kernel : decode prog_14_method_49_code 150 = .ok (.iconst 1, 1)) rfl (lv_isub hx hb (by decide +kernel : decode prog_14_method_49_code 151 = .ok (.isub, 1)) ?_))
    rw [zq_nm (show 1 ≤ n - 1 by omega)]
    refine lv_iload_n hx hb (by decide +kernel : decode prog_14_method_49_code 152 = .ok (.iload_n 2, 1)) rfl (lv_at hls 1 rfl) ?_
    refine zq_wk_gf (pc := 153) (iX := 59) hx hb g59 (jv := 0) (by decide +kernel) (by decide +kernel) hw1 (Or.inl ⟨rfl, rfl⟩) hls (ip := 2) rfl ?_
    refine lv_iload_n hx hb (by decide +kernel : decode prog_14_method_49_code 157 = .ok (.iload_n 1, 1)) rfl (lv_at hls 0 rfl) (lv_iconst (v := 1) hx hb (by decide +kernel : decode prog_14_method_49_code 158 = .ok (.iconst 1, 1)) rfl (lv_isub hx hb (by decide +kernel : decode prog_14_method_49_code 159 = .ok (.isub, 1)) ?_))
    rw [zq_nm (show 1 ≤ n - 1 by omega)]
    refine zq_wk_pl (pc := 160) hx hb hAT hw1 (by omega) (by decide +kernel) (fun y => ?_)
    refine zq_wk_gf (pc := 161) (iX := 59) hx hb g59 (jv := 0) (by decide +kernel) (by decide +kernel) hw1 (Or.inl ⟨rfl, rfl⟩) hls (ip := 2) rfl ?_
    refine lv_iload_n hx hb (by decide +kernel : decode prog_14_method_49_code 165 = .ok (.iload_n 1, 1)) rfl (lv_at hls 0 rfl) ?_
    refine zq_wk_pl (pc := 166) hx hb hAT hw1 (by omega) (by decide +kernel) (fun z => ?_)
    refine hboth hw1.1 hl1 (Nat.le_of_ble_eq_true rfl) hls.1 (fun w G2 H2 locs2 hp2 he2 hl2 => ?_)
    have hw2 := zq_wk_ev hw1 hp2 he2
    refine zq_wk_ps (pc := 170) hx hb hAT hw2 hl2 (by omega) (by decide +kernel) (fun H3 locs3 hw3 he3 ho3 hl3 => ?_)
    exact back r' (n - 1) (pos + 1) G2 H3 locs3 ls (rd + 1) (by omega) (by omega) (by omega) (by omega) u1 (by rw [en]; exact h1) hw3 (zk_ev_tr hkt he1' (zk_ev_tr hkt (zk_ev_sb (E := zq_wE) (by decide +kernel) he2) (zk_ev_sb (E := zq_wE) (by decide +kernel) he3))) hl3 (lv_sub hls [0, 2] rfl)
end ZWL
