/-! WORTH, by hand: from its start to its returns -/
noncomputable section
/-- a call of work, in worth -/
def zq_HW (p : Program) (l : Launch) (e : Env) (R : Room) (s : State) (m : MethodId) (args : Array Value) (below : List Frame) (meth : Method) (c : Code) (Q : State → Prop) (D : zk_D) (base : Nat) (Hb : Heap) (cells slots a bc bp bl : Nat) (cc0 : Cell) (tot : Nat) : Prop :=
  ∀ {B B' : Int} {G : Nat → Nat} {H : Heap} {locs : List Loc} {ls : Array Slot} {pc pos : Nat} {rd : Int32}, ((B = 1000 ∧ B' = 4000) ∨ (B = 4000 ∧ B' = 0)) → (pc = 63 ∨ pc = 77) → pos ≤ tot → rd.toInt = (pos : Int) → zq_run B (zq_seg cc0 pos (tot - pos)) = 0 → zq_wk D base Hb a bc bp bl cc0 G H rd → (∀ q ∈ locs, base ≤ q.base) → ls.size = 6 → (∀ (w rd1 : Int32) (pos1 : Nat) (G1 : Nat → Nat) (H1 : Heap) (locs1 : List Loc), zq_wk D base Hb a bc bp bl cc0 G1 H1 rd1 → zk_ev qK D zq_wE G H G1 H1 → (∀ q ∈ locs1, base ≤ q.base) → rd1.toInt = (pos1 : Int) → pos < pos1 → pos1 ≤ tot → zq_run B' (zq_seg cc0 pos1 (tot - pos1)) = 0 → W p l e R s m args below meth c H1 locs1 cells slots Q (F0 m (pc + 3) ls [.int w])) → W p l e R s m args below meth c H locs cells slots Q (F0 m pc ls [.ref a])
def zq_woY (x : zk_S) : zk_S := zk_pu (zk_st (zk_ex qK zq_vE x false) []) [] zk_I [] []
theorem zq_wo1 {t n : Int32} {i : Int} (h : i ≤ n.toInt + -1) (e : i = t.toInt) : t.toInt < n.toInt := by omega
theorem zq_wo2 {tN : Nat} {t n : Int32} (h : t.toInt = (tN : Int)) (h2 : t.toInt < n.toInt) : (tN : Int) < n.toInt := by omega
section ZWF
variable {p : Program} {l : Launch} {e : Env} {R : Room} {s : State} {m : MethodId} {args : Array Value} {below : List Frame} {meth : Method} {c : Code} {Q : State → Prop} {D : zk_D} {base : Nat} {Hb : Heap} {G0 : Nat → Nat} {H0 : Heap}
variable {P : zk_P} {AT : List FieldType} {C : zk_C}
set_option maxHeartbeats 4000000 in
set_option maxRecDepth 100000 in
theorem zq_wo_x (hx : p.tables.exec = Jvm.exec) (hb : c.code = prog_14_method_50_code) {rt : Option FieldType} {x : zk_S} {fuel : Nat} {v : Nat → Value} (hw : zk_wd s qK D AT) (hok : zk_ok p l e R s m args below meth c Q qK D base Hb 6 prog_14_method_50_code P C.2.2.2.2) (hR1 : R.cells = C.2.2.2.1) (hR2 : R.slots = C.2.2.2.2) (hr : meth.sig.returnType = rt) (hlocks : meth.locks = false) (hQ : ∀ t : State, MQ below (zk_Qf qK D base Hb C v G0 H0) args s C.2.2.2.1 C.2.2.2.2 (fun q => base ≤ q) t → Q t) (hA : zq_all qK D qn_M qn_saying qn_codes qn_textSize qn_SC qn_pickAt) (hC : zk_sb zq_vE C.2.2.1 = true)
    (g38 : zk_gok p l e R s m args below meth c Q D prog_14_method_50_code 38 12 19) (g328 : zk_gok p l e R s m args below meth c Q D prog_14_method_50_code 328 12 29) (p328 : zk_pok p l e R s m args below meth c Q D prog_14_method_50_code 328 12 29 0) (g41 : zk_gok p l e R s m args below meth c Q D prog_14_method_50_code 41 12 20) (g335 : zk_gok p l e R s m args below meth c Q D prog_14_method_50_code 335 12 30) (p335 : zk_pok p l e R s m args below meth c Q D prog_14_method_50_code 335 12 30 0)
    (hwork : ∀ (a bc bp bl : Nat) (cc0 : Cell) (tot : Nat), tot ≤ cc0.slots.size → cc0.slots.size ≤ 90000 → (∀ j : Nat, j < cc0.slots.size → ∃ q : Int32, cc0.slots[j]? = some (.int q)) → zq_HW p l e R s m args below meth c Q D base Hb 0 0 a bc bp bl cc0 tot)
    (c1 : x.2.2.1 = []) (c2 : x.2.1 = [(0, 0), (1, 1), (2, 2)]) (hn0 : 0 < x.1) (c3 : (0, 26, 3) ∈ x.2.2.2.2.2.1) (c4 : (0, 1002, 4) ∈ x.2.2.2.2.2.1) (t0 : zk_lk x.2.2.2.1 0 = (2, (qn_M : Int), 0)) (t1 : zk_lk x.2.2.2.1 1 = (0, 0, 19)) (t2 : (zk_lk x.2.2.2.1 2).1 = 0) (t3 : (zk_lk x.2.2.2.1 3).1 = 0) (hle : zk_le x.2.2.2.1 x.2.2.2.2.1 3 1 3 (-1) = true)
    (h93 : zk_chf qK P prog_14_method_50_code 6 C rt [] [] (93, zq_woY x, [], 0, 0) fuel 1 = true) (h113 : zk_chf qK P prog_14_method_50_code 6 C rt [] [] (113, zq_woY x, [], 0, 0) fuel 1 = true)
    {G : Nat → Nat} {H : Heap} {locs : List Loc} {ls : Array Slot} {vs : List Value} {v' : Nat → Value} (hp : zk_hp qK D base Hb G H) (he : zk_ev qK D C.2.2.1 G0 H0 G H) (hl : ∀ z ∈ locs, base ≤ z.base) (hF : zk_F qK D G H v' x) (hL : zk_LS C.1.1 v 6 ls vs v' x) : W p l e R s m args below meth c H locs 0 0 Q (F0 m 0 ls vs) := by
  have ty0 := zk_F_ty hF 0
  rw [t0] at ty0
  obtain ⟨a, ea, hga, hg0⟩ := zk_gr ty0 rfl rfl
  have hga : G a = qn_M := by rw [hga]; exact Int.toNat_natCast _
  have ty1 := zk_F_ty hF 1
  rw [t1] at ty1
  obtain ⟨t, et, tt0, tt1⟩ := zk_gi ty1 rfl
  have tt0 : 0 ≤ t.toInt := tt0
  have tt1 : t.toInt ≤ 19 := tt1
  obtain ⟨lab, eLab, -, -⟩ := zk_gi (zk_F_ty hF 2) t2
  obtain ⟨n, en, -, -⟩ := zk_gi (zk_F_ty hF 3) t3
  have hlt := zk_F_le hF hle
  rw [et, en] at hlt
  have hlt : t.toInt < n.toInt := zq_wo1 hlt rfl
  obtain ⟨tN, htN⟩ := zq_nat tt0
  have htN19 := zq_le19 htN tt1
  obtain ⟨-, -, f26⟩ := zk_F_fl hF _ c3
  obtain ⟨a1, cell, q1, -, -, -, hca, h26⟩ := zk_fl_real f26 rfl
  rw [ea] at q1; cases q1
  have hsl : ∀ f, zk_sl qK D (G a) f = D.2.1 12 f := fun f => by unfold zk_sl; rw [hga]; rfl
  rw [hsl] at h26
  have h26 : cell.slots[D.2.1 12 26]? = some (v' 3) := h26
  rw [en] at h26
  have h2 : zq_1002 qK D.2.1 qn_M qn_codes qn_textSize G H a (v' 4) := by
    obtain ⟨-, fw, a2, cell2, r1, r2, r3, r4, r5⟩ := zk_F_fl hF _ c4
    rw [ea] at r1; cases r1
    rcases r5 with ⟨z, -⟩ | ⟨-, z⟩
    · have z : 1002 < (zk_kd qK (G a)).2.2.1.length := z
      rw [hga] at z
      exact absurd z (by decide +kernel)
    · exact zq_at2 hA z
  obtain ⟨bc, ccc, h19, hgc, hc0, hcc⟩ := zq_refM (f := 19) (k := qn_codes) hp hga hca (by decide +kernel)
  obtain ⟨bt, ct, h20, hgt, ht0, hct⟩ := zq_refM (f := 20) (k := qn_textSize) hp hga hca (by decide +kernel)
  obtain ⟨bl, cl, h27, hgl, hl0, hcl⟩ := zq_refM (f := 27) (k := qn_letters) hp hga hca (by decide +kernel)
  obtain ⟨bp, cp, h28, hgp, hp0, hcp⟩ := zq_refM (f := 28) (k := qn_pile) hp hga hca (by decide +kernel)
  obtain ⟨r0, h29, -, -⟩ := zq_intM (f := 29) (t := zk_I) hp hga hca (by decide +kernel) rfl
  obtain ⟨cellx, cc2, ct2, b1, b2, nx, z3, w0, w1, w2, w3, w4, w5, w6, w7, w8, w9, hold⟩ := h2
  rw [hca] at w2; cases w2
  have w3 : cell.slots[D.2.1 12 26]? = some (.int nx) := w3
  rw [h26] at w3; cases w3
  have w4 : cell.slots[D.2.1 12 19]? = some (.ref b1) := w4
  rw [h19] at w4; cases w4
  rw [hcc] at w6; cases w6
  have w7 : cell.slots[D.2.1 12 20]? = some (.ref b2) := w7
  rw [h20] at w7; cases w7
  rw [hct] at w9; cases w9
  obtain ⟨T, k1, k2, k3, k4, k5⟩ := hold tN (zq_wo2 htN hlt)
  obtain ⟨TN, hTN⟩ := zq_nat k2
  rw [hTN, show ((TN : Int)).toNat = TN from rfl] at k5
  have hTN4 : TN ≤ 420 := by omega
  obtain ⟨-, -, -, szc⟩ := zq_cls hp zq_rC hgc hcc
  have szc : (ccc.slots.size : Int) ≤ 8400 := Int.le_trans szc (by decide +kernel)
  have szc : ccc.slots.size ≤ 90000 := by omega
  have hint : ∀ j : Nat, j < ccc.slots.size → ∃ q : Int32, ccc.slots[j]? = some (.int q) := fun j hj => by
    obtain ⟨q, -, h, -⟩ := zq_el hp zq_rC hgc hcc hj
    exact ⟨q, h⟩
  have hvs : vs = [] := by rw [(zk_LS_stk hL).1, c1]; rfl
  subst hvs
  have hloc := (zk_LS_loc hL).1
  rw [c2] at hloc
  have hls : lv_has ls 6 [(0, .ref a), (1, .int t), (2, .int lab)] := by
    have h2 : lv_has ls 6 [(0, v' 0), (1, v' 1), (2, v' 2)] := hloc
    rw [ea, et, eLab] at h2
    exact h2
  obtain ⟨t1', t2', t3', t4'⟩ := zq_v1 htN htN19 hTN hTN4
  have hwk : zq_wk D base Hb a bc bp bl ccc G H r0 := ⟨hp, hga, hgc, hgp, hgl, ⟨cell, hca, h19, h28, h27, h29⟩, ccc, hcc, rfl⟩
  refine lv_aload_n hx hb (by decide +kernel : decode prog_14_method_50_code 0 = .ok (.aload_n 0, 1)) rfl (lv_at hls 0 rfl) ?_
  refine lv_sipush (v := 420) hx hb (by decide +kernel : decode prog_14_method_50_code 1 = .ok (.sipush 420, 3)) rfl (lv_iload_n hx hb (by decide +kernel : decode prog_14_method_50_code 4 = .ok (.iload_n 1, 1)) rfl (lv_at hls 1 rfl) (lv_imul hx hb (by decide +kernel : decode prog_14_method_50_code 5 = .ok (.imul, 1)) ?_))
  refine zq_wk_pr (pc := 6) (iR := 328) hx hb hw.2.1 p328 (by decide +kernel) hwk hl (fun H1 locs1 hw1 he1 hl1 => ?_)
  refine lv_aload_n hx hb (by decide +kernel : decode prog_14_method_50_code 9 = .ok (.aload_n 0, 1)) rfl (lv_at hls 0 rfl) (lv_iconst (v := 0) hx hb (by decide +kernel : decode prog_14_method_50_code 10 = .ok (.iconst 0, 1)) rfl ?_)
  refine zq_wk_py (pc := 11) (iY := 335) hx hb hw.2.1 p335 (by decide +kernel) hw1 hl1 (fun H2 locs2 hw2 he2 hl2 => ?_)
  have he12 := zk_ev_tr hw.1 (zk_ev_sb (E := zq_vE) (by decide +kernel) he1) (zk_ev_sb (E := zq_vE) (by decide +kernel) he2)
  refine zq_wo_loop (Gi := G) (Hi := H) (cell0 := cell) (ct0 := ct) (bt := bt) (T := T) hx hb hw.1 hw.2.1 (hw.2.2.1 0 _ hw.2.2.2.1) g38 g328 p328 g41 g335 p335 htN htN19 hTN hTN4 k1 k4 szc hint hga hca h20 hgt hct (fun b1 b2 b3 b4 b5 b6 b7 b8 b9 => hwork a bc bp bl ccc (420 * tN + TN) (by omega) szc hint b1 b2 b3 b4 b5 b6 b7 b8 b9) (fun pc G1 H3 locs3 ls3 w hpc hp3 he3 hl3 hls3 => ?_) TN TN (420 * tN) G H2 locs2 ls (420 * t) (Nat.le_refl _) rfl t1' k5 hw2 he12 hl2 hls
  have hF1 := zk_F_st [] (zk_F_ev (keep := false) hw.1 hF he3 (fun z => by cases z))
  have hls4 : lv_has ls3 6 (x.2.1.map fun q => (q.1, v' q.2)) := by
    rw [c2]
    simp only [List.map_cons, List.map_nil, ea, et, eLab]
    exact hls3
  have hL1 : zk_LS C.1.1 v 6 ls3 [] v' (zk_st (zk_ex qK zq_vE x false) []) := zk_LS_st (stk' := []) (zk_LS_ex (zk_LS_ls hL hls4)) (fun q hq => absurd hq List.not_mem_nil)
  have hn1 : (zk_st (zk_ex qK zq_vE x false) []).1 = x.1 := rfl
  have hup := zk_F_up (w := .int w) (stk' := []) (t := zk_I) (rs := []) (ms := []) hF1 (zk_tv_I w) (fun q hq => absurd hq List.not_mem_nil) (fun q hq => absurd hq List.not_mem_nil)
  have hLu := zk_LS_up (w := .int w) (stk' := []) (t := zk_I) (rs := []) (ms := []) hL1 (fun q hq => absurd hq List.not_mem_nil)
  rw [hn1] at hup hLu
  rcases hpc with rfl | rfl
  · exact zk_from (q0 := (93, zq_woY x, [], 0, 0)) (hd := []) (xs := []) hx hb hw hok hR1 hR2 hr hlocks hQ h93 (fun q hq => absurd hq List.not_mem_nil) hp3 (zk_ev_tr hw.1 he (zk_ev_sb hC he3)) hl3 hup hLu
  · exact zk_from (q0 := (113, zq_woY x, [], 0, 0)) (hd := []) (xs := []) hx hb hw hok hR1 hR2 hr hlocks hQ h113 (fun q hq => absurd hq List.not_mem_nil) hp3 (zk_ev_tr hw.1 he (zk_ev_sb hC he3)) hl3 hup hLu
end ZWF
end
