/-! WORTH, by hand -/
noncomputable section
def zq_vE : List (Nat × Nat) := [(qn_M, 29), (qn_pile, 0), (qn_M, 30)]
theorem zq_v1 {t T : Int32} {tN TN : Nat} (ht : t.toInt = (tN : Int)) (h1 : tN ≤ 19) (hT : T.toInt = (TN : Int)) (h2 : TN ≤ 420) : (420 * t).toInt = ((420 * tN : Nat) : Int) ∧ (420 * t + T).toInt = ((420 * tN + TN : Nat) : Int) ∧ 0 ≤ t.toInt ∧ t.toNatClampNeg = tN := by
  have e0 : (420 * t).toInt = 420 * t.toInt := by
    rw [Int32.toInt_mul, show (420 : Int32).toInt = 420 from rfl]
    exact Int.bmod_eq_of_le (by omega) (by omega)
  have e1 : (420 * t + T).toInt = 420 * t.toInt + T.toInt := by
    rw [Int32.toInt_add, e0]
    exact Int.bmod_eq_of_le (by omega) (by omega)
  have k2 := zq_nc (i := t) (by omega)
  omega
theorem zq_v2 {rd x : Int32} {pos tot : Nat} (h1 : rd.toInt = (pos : Int)) (h2 : x.toInt = (tot : Int)) (h : ¬ x ≤ rd) : pos < tot := by
  have := Int.not_le.mp fun z => h (Int32.le_iff_toInt_le.mpr z)
  omega
section ZWW
variable {p : Program} {l : Launch} {e : Env} {R : Room} {s : State} {m : MethodId} {args : Array Value} {below : List Frame} {meth : Method} {c : Code} {Q : State → Prop} {D : zk_D} {base : Nat} {Hb : Heap} {nL : Nat} {cc : ByteArray}
variable {cells slots pc : Nat} {ls : Array Slot} {rv : List Value} {locs : List Loc} {a bc bp bl : Nat} {cc0 : Cell} {G : Nat → Nat} {H : Heap} {rd : Int32}
/-- reading is set -/
theorem zq_wk_pr (hx : p.tables.exec = Jvm.exec) (hb : c.code = cc) (hdj : zk_dj qK D) {iR : Nat} (hpR : zk_pok p l e R s m args below meth c Q D cc iR 12 29 0) {w : Int32} (d5 : decode cc pc = .ok (.putfield iR, 3))
    (h : zq_wk D base Hb a bc bp bl cc0 G H rd) (hl : ∀ q ∈ locs, base ≤ q.base)
    (kk : ∀ (H1 : Heap) (locs1 : List Loc), zq_wk D base Hb a bc bp bl cc0 G H1 w → zk_ev qK D [(qn_M, 29)] G H G H1 → (∀ q ∈ locs1, base ≤ q.base) → W p l e R s m args below meth c H1 locs1 cells slots Q (F0 m (pc + 3) ls rv)) : W p l e R s m args below meth c H locs cells slots Q (F0 m pc ls (.int w :: .ref a :: rv)) := by
  obtain ⟨cell, ⟨c1, c2, c3⟩, f1, f2, f3, f4⟩ := zq_wk_obj h
  obtain ⟨hp, g1, g2, g3, g4, -, ccc, h6, h7⟩ := h
  have wr := zk_rng w
  refine zq_put (kM := qn_M) (t := zk_I) hx hb hdj hpR (by decide) (by decide +kernel) (by decide +kernel) (by decide +kernel) (by decide +kernel) (by decide +kernel) rfl hp hl g1 c1 f4 wr.1 wr.2 d5 (fun H1 locs1 hp1 he1 hz1 e1 eo1 hl1 => ?_)
  have hn : ∀ f, f < 71 → f ≠ 29 → (cell.setSlot (D.2.1 12 29) (.int w)).slots[D.2.1 12 f]? = cell.slots[D.2.1 12 f]? := fun f hf h => slot_ne _ _ (hdj qn_M 29 f (by decide +kernel) (by decide +kernel) hf (fun z => h z.symm))
  refine kk H1 locs1 ⟨hp1, g1, g2, g3, g4, ⟨_, e1, (hn 19 (by decide) (by decide)).trans f1, (hn 28 (by decide) (by decide)).trans f2, (hn 27 (by decide) (by decide)).trans f3, Cell.slots_setSlot_self _ (k2_hasslot f4)⟩, ccc, ?_, h7⟩ he1 hl1
  rw [eo1 bc (fun z => by rw [z, g1] at g2; exact absurd g2 (by decide))]
  exact h6
/-- why1 is set -/
theorem zq_wk_py (hx : p.tables.exec = Jvm.exec) (hb : c.code = cc) (hdj : zk_dj qK D) {iY : Nat} (hpY : zk_pok p l e R s m args below meth c Q D cc iY 12 30 0) {w : Int32} (d5 : decode cc pc = .ok (.putfield iY, 3))
    (h : zq_wk D base Hb a bc bp bl cc0 G H rd) (hl : ∀ q ∈ locs, base ≤ q.base)
    (kk : ∀ (H1 : Heap) (locs1 : List Loc), zq_wk D base Hb a bc bp bl cc0 G H1 rd → zk_ev qK D [(qn_M, 30)] G H G H1 → (∀ q ∈ locs1, base ≤ q.base) → W p l e R s m args below meth c H1 locs1 cells slots Q (F0 m (pc + 3) ls rv)) : W p l e R s m args below meth c H locs cells slots Q (F0 m pc ls (.int w :: .ref a :: rv)) := by
  obtain ⟨cell, ⟨c1, c2, c3⟩, f1, f2, f3, f4⟩ := zq_wk_obj h
  obtain ⟨hp, g1, g2, g3, g4, -, ccc, h6, h7⟩ := h
  have wr := zk_rng w
  obtain ⟨y0, hy, -, -⟩ := zq_intM (f := 30) (t := zk_I) hp g1 c1 (by decide +kernel) rfl
  refine zq_put (kM := qn_M) (t := zk_I) hx hb hdj hpY (by decide) (by decide +kernel) (by decide +kernel) (by decide +kernel) (by decide +kernel) (by decide +kernel) rfl hp hl g1 c1 hy wr.1 wr.2 d5 (fun H1 locs1 hp1 he1 hz1 e1 eo1 hl1 => ?_)
  have hn : ∀ f, f < 71 → f ≠ 30 → (cell.setSlot (D.2.1 12 30) (.int w)).slots[D.2.1 12 f]? = cell.slots[D.2.1 12 f]? := fun f hf h => slot_ne _ _ (hdj qn_M 30 f (by decide +kernel) (by decide +kernel) hf (fun z => h z.symm))
  refine kk H1 locs1 ⟨hp1, g1, g2, g3, g4, ⟨_, e1, (hn 19 (by decide) (by decide)).trans f1, (hn 28 (by decide) (by decide)).trans f2, (hn 27 (by decide) (by decide)).trans f3, (hn 29 (by decide) (by decide)).trans f4⟩, ccc, ?_, h7⟩ he1 hl1
  rw [eo1 bc (fun z => by rw [z, g1] at g2; exact absurd g2 (by decide))]
  exact h6
end ZWW
section ZWX
variable {p : Program} {l : Launch} {e : Env} {R : Room} {s : State} {m : MethodId} {args : Array Value} {below : List Frame} {meth : Method} {c : Code} {Q : State → Prop} {D : zk_D} {base : Nat} {Hb : Heap} {Gi : Nat → Nat} {Hi : Heap}
variable {cells slots : Nat} {a bc bp bl bt : Nat} {cc0 ct0 cell0 : Cell} {t lab T : Int32} {tN TN : Nat}
set_option maxHeartbeats 4000000 in
set_option maxRecDepth 100000 in
theorem zq_wo_loop (hx : p.tables.exec = Jvm.exec) (hb : c.code = prog_14_method_50_code) (hkt : zk_kt qK) (hdj : zk_dj qK D) (hAT : ArrOfT s (D.2.2.1 0) .int) (g38 : zk_gok p l e R s m args below meth c Q D prog_14_method_50_code 38 12 19) (g328 : zk_gok p l e R s m args below meth c Q D prog_14_method_50_code 328 12 29) (p328 : zk_pok p l e R s m args below meth c Q D prog_14_method_50_code 328 12 29 0) (g41 : zk_gok p l e R s m args below meth c Q D prog_14_method_50_code 41 12 20) (g335 : zk_gok p l e R s m args below meth c Q D prog_14_method_50_code 335 12 30) (p335 : zk_pok p l e R s m args below meth c Q D prog_14_method_50_code 335 12 30 0)
    (ht : t.toInt = (tN : Int)) (htN : tN ≤ 19) (hT : T.toInt = (TN : Int)) (hTN : TN ≤ 420) (hct : ct0.slots[tN]? = some (.int T)) (h420 : 420 * tN + 420 ≤ cc0.slots.size) (hsz : cc0.slots.size ≤ 90000) (hint : ∀ j : Nat, j < cc0.slots.size → ∃ q : Int32, cc0.slots[j]? = some (.int q)) (hga : Gi a = qn_M) (hcell : Hi[a]? = some cell0) (h20 : cell0.slots[D.2.1 12 20]? = some (.ref bt)) (hgt : Gi bt = qn_textSize) (hct0 : Hi[bt]? = some ct0)
    (hwork : ∀ {B B' : Int} {G : Nat → Nat} {H : Heap} {locs : List Loc} {ls : Array Slot} {pc pos : Nat} {rd : Int32}, ((B = 1000 ∧ B' = 4000) ∨ (B = 4000 ∧ B' = 0)) → (pc = 63 ∨ pc = 77) → pos ≤ 420 * tN + TN → rd.toInt = (pos : Int) → zq_run B (zq_seg cc0 pos (420 * tN + TN - pos)) = 0 → zq_wk D base Hb a bc bp bl cc0 G H rd → (∀ q ∈ locs, base ≤ q.base) → ls.size = 6 → (∀ (w rd1 : Int32) (pos1 : Nat) (G1 : Nat → Nat) (H1 : Heap) (locs1 : List Loc), zq_wk D base Hb a bc bp bl cc0 G1 H1 rd1 → zk_ev qK D zq_wE G H G1 H1 → (∀ q ∈ locs1, base ≤ q.base) → rd1.toInt = (pos1 : Int) → pos < pos1 → pos1 ≤ 420 * tN + TN → zq_run B' (zq_seg cc0 pos1 (420 * tN + TN - pos1)) = 0 → W p l e R s m args below meth c H1 locs1 cells slots Q (F0 m (pc + 3) ls [.int w])) → W p l e R s m args below meth c H locs cells slots Q (F0 m pc ls [.ref a]))
    (kret : ∀ (pc : Nat) (G1 : Nat → Nat) (H1 : Heap) (locs1 : List Loc) (ls1 : Array Slot) (w : Int32), (pc = 93 ∨ pc = 113) → zk_hp qK D base Hb G1 H1 → zk_ev qK D zq_vE Gi Hi G1 H1 → (∀ q ∈ locs1, base ≤ q.base) → lv_has ls1 6 [(0, .ref a), (1, .int t), (2, .int lab)] → W p l e R s m args below meth c H1 locs1 cells slots Q (F0 m pc ls1 [.int w])) :
    ∀ (k r pos : Nat) (G : Nat → Nat) (H : Heap) (locs : List Loc) (ls : Array Slot) (rd : Int32), r ≤ k → pos + r = 420 * tN + TN → rd.toInt = (pos : Int) → zq_run 0 (zq_seg cc0 pos r) = 0 → zq_wk D base Hb a bc bp bl cc0 G H rd → zk_ev qK D zq_vE Gi Hi G H → (∀ q ∈ locs, base ≤ q.base) → lv_has ls 6 [(0, .ref a), (1, .int t), (2, .int lab)] → W p l e R s m args below meth c H locs cells slots Q (F0 m 14 ls []) := by
  obtain ⟨t1, t2, t3, t4⟩ := zq_v1 ht htN hT hTN
  intro k
  induction k with
  | zero => ?_
  | succ k ih => ?_
  all_goals
    intro r pos G H locs ls rd hr hpr hrd hrun hw he hl hls
    obtain ⟨cell, ⟨c1, c2, c3⟩, f1, f2, f3, f4⟩ := zq_wk_obj hw
    obtain ⟨-, c', q2, q3⟩ := zq_obj he hga (by decide) (by decide +kernel) hcell (by decide +kernel)
    rw [c1] at q2; cases q2
    have f20 : cell.slots[D.2.1 12 20]? = some (.ref bt) := (q3 20 (by decide +kernel) (by decide +kernel)).trans h20
    obtain ⟨q4, ct, q5, q6⟩ := zq_arr he hgt (by decide) (by decide +kernel) hct0 (by decide +kernel) (by decide +kernel)
    have hti : tN < ct0.slots.size := (Array.getElem?_eq_some_iff.mp hct).1
    have rT : zq_row qK qn_textSize := ⟨by decide, by decide +kernel, by decide +kernel, by decide +kernel, by decide +kernel, (0, 0, 400), by decide +kernel, rfl⟩
    refine lv_aload_n hx hb (by decide +kernel : decode prog_14_method_50_code 14 = .ok (.aload_n 0, 1)) rfl (lv_at hls 0 rfl) (g328 c1 c2 c3 f4 (by decide +kernel) ?_)
    refine lv_sipush (v := 420) hx hb (by decide +kernel : decode prog_14_method_50_code 18 = .ok (.sipush 420, 3)) rfl (lv_iload_n hx hb (by decide +kernel : decode prog_14_method_50_code 21 = .ok (.iload_n 1, 1)) rfl (lv_at hls 1 rfl) (lv_imul hx hb (by decide +kernel : decode prog_14_method_50_code 22 = .ok (.imul, 1)) ?_))
    refine lv_aload_n hx hb (by decide +kernel : decode prog_14_method_50_code 23 = .ok (.aload_n 0, 1)) rfl (lv_at hls 0 rfl) (g41 c1 c2 c3 f20 (by decide +kernel) ?_)
    refine lv_iload_n hx hb (by decide +kernel : decode prog_14_method_50_code 27 = .ok (.iload_n 1, 1)) rfl (lv_at hls 1 rfl) ?_
    refine zq_ild (pc := 28) hx hb hAT hw.1 rT q4 q5 t3 (by rw [q6, ht]; exact Int.ofNat_lt.mpr hti) (by decide +kernel) (fun T' tt z1 _ _ _ => ?_)
    rw [q6, t4, hct] at z1
    cases z1
    refine lv_iadd hx hb (by decide +kernel : decode prog_14_method_50_code 29 = .ok (.iadd, 1)) ?_
    have out : W p l e R s m args below meth c H locs cells slots Q (F0 m 107 ls []) := by
      refine lv_aload_n hx hb (by decide +kernel : decode prog_14_method_50_code 107 = .ok (.aload_n 0, 1)) rfl (lv_at hls 0 rfl) (lv_iconst (v := -1) hx hb (by decide +kernel : decode prog_14_method_50_code 108 = .ok (.iconst (-1), 1)) rfl ?_)
      refine zq_wk_py (pc := 109) (iY := 335) hx hb hdj p335 (by decide +kernel) hw hl (fun H1 locs1 hw1 he1 hl1 => ?_)
      refine lv_iconst (v := 0) hx hb (by decide +kernel : decode prog_14_method_50_code 112 = .ok (.iconst 0, 1)) rfl ?_
      exact kret 113 G H1 locs1 ls 0 (Or.inr rfl) hw1.1 (zk_ev_tr hkt he (zk_ev_sb (by decide +kernel) he1)) hl1 hls
  · exact lv_icmp_ge (tgt := 107) hx hb (by decide +kernel : decode prog_14_method_50_code 30 = .ok (.if_icmp .ge 77, 3)) (by decide) (fun _ => out) (fun hc => by
      exfalso
      have := zq_v2 hrd t2 hc
      omega)
  · refine lv_icmp_ge (tgt := 107) hx hb (by decide +kernel : decode prog_14_method_50_code 30 = .ok (.if_icmp .ge 77, 3)) (by decide) (fun _ => out) (fun hc => ?_)
    have hlt := zq_v2 hrd t2 hc
    obtain ⟨r', rfl⟩ : ∃ r', r = r' + 1 := ⟨r - 1, by omega⟩
    obtain ⟨q, hq⟩ := hint pos (by omega)
    rw [zq_seg_cons hq] at hrun
    have hrun : zq_run 1000 (zq_seg cc0 (pos + 1) r') = 0 := hrun
    obtain ⟨u1, u2, u3⟩ := zq_wp hrd (by omega)
    refine zq_wk_cd (pc := 33) (iC := 38) (iR := 328) hx hb hAT g38 g328 (jv := 0) (by decide +kernel) (by decide +kernel) (by decide +kernel) (by decide +kernel) (by decide +kernel) hw hls (ip := 0) rfl hrd hq ?_
    have go : ∀ b3 : Int32, W p l e R s m args below meth c H locs cells slots Q (F0 m 51 ls [.int b3]) := fun b3 => by
      refine lv_istore_n (lv' := [(3, .int b3), (0, .ref a), (1, .int t), (2, .int lab)]) hx hb (by decide +kernel : decode prog_14_method_50_code 51 = .ok (.istore_n 3, 1)) rfl hls (by decide) rfl (fun ls hls => ?_)
      refine zq_wk_in (pc := 52) (iR := 328) hx hb hdj g328 p328 (by decide +kernel) (by decide +kernel) (by decide +kernel) (by decide +kernel) (by decide +kernel) (by decide +kernel) hw hl hls (ip := 1) (jv := 0) rfl (fun H1 locs1 hw1 he1 ho1 hl1 => ?_)
      have he1' := zk_ev_tr hkt he (zk_ev_sb (E := zq_vE) (by decide +kernel) he1)
      refine lv_aload_n hx hb (by decide +kernel : decode prog_14_method_50_code 62 = .ok (.aload_n 0, 1)) rfl (lv_at hls 1 rfl) ?_
      refine hwork (pc := 63) (Or.inl ⟨rfl, rfl⟩) (Or.inl rfl) (show pos + 1 ≤ _ by omega) u1 (by rw [show 420 * tN + TN - (pos + 1) = r' by omega]; exact hrun) hw1 hl1 hls.1 (fun w1 rd1 pos1 G1 H2 locs2 hw2 he2 hl2 hrd1 hp1 hp1' hrun1 => ?_)
      have he2' := zk_ev_tr hkt he1' (zk_ev_sb (E := zq_vE) (by decide +kernel) he2)
      have go2 : ∀ b4 : Int32, W p l e R s m args below meth c H2 locs2 cells slots Q (F0 m 74 ls [.int b4]) := fun b4 => by
        refine lv_istore (lv' := [(4, .int b4), (3, .int b3), (0, .ref a), (1, .int t), (2, .int lab)]) hx hb (by decide +kernel : decode prog_14_method_50_code 74 = .ok (.istore 4, 2)) hls (by decide) rfl (fun ls hls => ?_)
        refine lv_aload_n hx hb (by decide +kernel : decode prog_14_method_50_code 76 = .ok (.aload_n 0, 1)) rfl (lv_at hls 2 rfl) ?_
        refine hwork (pc := 77) (Or.inr ⟨rfl, rfl⟩) (Or.inr rfl) hp1' hrd1 hrun1 hw2 hl2 hls.1 (fun w2 rd2 pos2 G2 H3 locs3 hw3 he3 hl3 hrd2 hp2 hp2' hrun2 => ?_)
        have he3' := zk_ev_tr hkt he2' (zk_ev_sb (E := zq_vE) (by decide +kernel) he3)
        refine lv_istore (lv' := [(5, .int w2), (4, .int b4), (3, .int b3), (0, .ref a), (1, .int t), (2, .int lab)]) hx hb (by decide +kernel : decode prog_14_method_50_code 80 = .ok (.istore 5, 2)) hls (by decide) rfl (fun ls hls => ?_)
        have more : W p l e R s m args below meth c H3 locs3 cells slots Q (F0 m 94 ls []) := by
          obtain ⟨cell3, ⟨d1, d2, d3⟩, -⟩ := zq_wk_obj hw3
          obtain ⟨y3, hy3, -, -⟩ := zq_intM (f := 30) (t := zk_I) hw3.1 hw3.2.1 d1 (by decide +kernel) rfl
          refine lv_aload_n hx hb (by decide +kernel : decode prog_14_method_50_code 94 = .ok (.aload_n 0, 1)) rfl (lv_at hls 3 rfl) (lv_dup hx hb (by decide +kernel : decode prog_14_method_50_code 95 = .ok (.dup, 1)) rfl (g335 d1 d2 d3 hy3 (by decide +kernel) ?_))
          refine lv_iconst (v := 1) hx hb (by decide +kernel : decode prog_14_method_50_code 99 = .ok (.iconst 1, 1)) rfl (lv_iadd hx hb (by decide +kernel : decode prog_14_method_50_code 100 = .ok (.iadd, 1)) ?_)
          refine zq_wk_py (pc := 101) (iY := 335) hx hb hdj p335 (by decide +kernel) hw3 hl3 (fun H4 locs4 hw4 he4 hl4 => ?_)
          refine lv_goto (tgt := 14) hx hb (by decide +kernel : decode prog_14_method_50_code 104 = .ok (.goto (-90), 3)) (by decide) ?_
          exact ih (420 * tN + TN - pos2) pos2 G2 H4 locs4 ls rd2 (by omega) (by omega) hrd2 hrun2 hw4 (zk_ev_tr hkt he3' (zk_ev_sb (by decide +kernel) he4)) hl4 (lv_sub hls [3, 4, 5] rfl)
        refine lv_iload_n hx hb (by decide +kernel : decode prog_14_method_50_code 82 = .ok (.iload_n 3, 1)) rfl (lv_at hls 2 rfl) ?_
        refine lv_if_eq (tgt := 94) hx hb (by decide +kernel : decode prog_14_method_50_code 83 = .ok (.ifCond .eq 11, 3)) (by decide) (fun _ => more) (fun _ => ?_)
        refine lv_iload hx hb (by decide +kernel : decode prog_14_method_50_code 86 = .ok (.iload 4, 2)) (lv_at hls 1 rfl) ?_
        refine lv_if_eq (tgt := 94) hx hb (by decide +kernel : decode prog_14_method_50_code 88 = .ok (.ifCond .eq 6, 3)) (by decide) (fun _ => more) (fun _ => ?_)
        refine lv_iload hx hb (by decide +kernel : decode prog_14_method_50_code 91 = .ok (.iload 5, 2)) (lv_at hls 0 rfl) ?_
        exact kret 93 G2 H3 locs3 ls w2 (Or.inl rfl) hw3.1 he3' hl3 (lv_sub hls [3, 4, 5] rfl)
      refine lv_if_eq (tgt := 73) hx hb (by decide +kernel : decode prog_14_method_50_code 66 = .ok (.ifCond .eq 7, 3)) (by decide) (fun _ => ?_) (fun _ => ?_)
      · exact lv_iconst (v := 0) hx hb (by decide +kernel : decode prog_14_method_50_code 73 = .ok (.iconst 0, 1)) rfl (go2 0)
      · exact lv_iconst (v := 1) hx hb (by decide +kernel : decode prog_14_method_50_code 69 = .ok (.iconst 1, 1)) rfl (lv_goto (tgt := 74) hx hb (by decide +kernel : decode prog_14_method_50_code 70 = .ok (.goto 4, 3)) (by decide) (go2 1))
    refine lv_iload_n hx hb (by decide +kernel : decode prog_14_method_50_code 42 = .ok (.iload_n 2, 1)) rfl (lv_at hls 2 rfl) ?_
    refine lv_icmp_ne (tgt := 50) hx hb (by decide +kernel : decode prog_14_method_50_code 43 = .ok (.if_icmp .ne 7, 3)) (by decide) (fun _ => ?_) (fun _ => ?_)
    · exact lv_iconst (v := 0) hx hb (by decide +kernel : decode prog_14_method_50_code 50 = .ok (.iconst 0, 1)) rfl (go 0)
    · exact lv_iconst (v := 1) hx hb (by decide +kernel : decode prog_14_method_50_code 46 = .ok (.iconst 1, 1)) rfl (lv_goto (tgt := 51) hx hb (by decide +kernel : decode prog_14_method_50_code 47 = .ok (.goto 4, 3)) (by decide) (go 1))
end ZWX
end
