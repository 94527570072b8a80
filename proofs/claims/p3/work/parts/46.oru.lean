/-! RULES, by hand, 7: from the good end of ruleFault to the last return -/
noncomputable section
def zq_ruP : List (Nat × Nat × Nat × Nat) := [(38, 12, 19, 4), (35, 12, 18, 4), (41, 12, 20, 4), (44, 12, 21, 4), (47, 12, 22, 4), (50, 12, 23, 4), (53, 12, 24, 4), (240, 12, 25, 0), (301, 12, 26, 0), (156, 12, 0, 0), (181, 12, 9, 0)]
section ZR9
variable {p : Program} {l : Launch} {e : Env} {R : Room} {s : State} {m : MethodId} {args : Array Value} {below : List Frame} {meth : Method} {c : Code} {Q : State → Prop} {D : zk_D} {base : Nat} {Hb : Heap} {n0 nL : Nat} {v0 : Nat → Value} {E : List (Nat × Nat)} {G0 : Nat → Nat} {H0 : Heap}
variable {P : zk_P} {AT : List FieldType} {C : zk_C}
/-- an array that a field of the reference's object holds -/
theorem zq_refM {f k : Nat} {G : Nat → Nat} {H : Heap} {a : Nat} {cell : Cell} (hp : zk_hp qK D base Hb G H) (hga : G a = qn_M) (hca : H[a]? = some cell) (ht : (zk_kd qK qn_M).2.2.1[f]? = some (2, (k : Int), 0)) : ∃ b cb, cell.slots[D.2.1 12 f]? = some (.ref b) ∧ G b = k ∧ k ≠ 0 ∧ H[b]? = some cb := by
  obtain ⟨w, h1, h2⟩ := zq_fld (ci := 12) hp (by decide) (by decide +kernel) (by decide +kernel) hga hca ht
  obtain ⟨b, eb, g1, g2⟩ := zk_gr h2 rfl rfl
  rw [eb] at h1
  have g1 : G b = k := by rw [g1]; exact Int.toNat_natCast _
  obtain ⟨-, cb, hcb, -, -⟩ := hp.2.2 b g2
  exact ⟨b, cb, h1, g1, by rw [← g1]; exact g2, hcb⟩
theorem zq_intM {f : Nat} {t : zk_T} {G : Nat → Nat} {H : Heap} {a : Nat} {cell : Cell} (hp : zk_hp qK D base Hb G H) (hga : G a = qn_M) (hca : H[a]? = some cell) (ht : (zk_kd qK qn_M).2.2.1[f]? = some t) (h0 : t.1 = 0) : ∃ i : Int32, cell.slots[D.2.1 12 f]? = some (.int i) ∧ t.2.1 ≤ i.toInt ∧ i.toInt ≤ t.2.2 := by
  obtain ⟨w, h1, h2⟩ := zq_fld (ci := 12) hp (by decide) (by decide +kernel) (by decide +kernel) hga hca ht
  obtain ⟨i, ei, g1, g2⟩ := zk_gi h2 h0
  rw [ei] at h1
  exact ⟨i, h1, g1, g2⟩
theorem zq_nat {i : Int32} (h : 0 ≤ i.toInt) : ∃ N : Nat, i.toInt = (N : Int) := ⟨i.toInt.toNat, by omega⟩
theorem zq_le19 {N : Nat} {i : Int} (h : i = (N : Int)) (h1 : i ≤ 19) : N ≤ 19 := by omega
theorem zq_le420 {N : Nat} {i : Int} (h : i = (N : Int)) (h1 : i ≤ 321) : N ≤ 420 := by omega
theorem zq_nsq {S : Nat} {i : Int} {s : Nat} (h : i = (S : Int)) (h2 : i = (s : Int)) : s = S := by omega
theorem zq_lt1 {r : Nat} {n : Int32} {m : Int} (h : (n + 1).toInt = n.toInt + 1) (h2 : (r : Int) < (n + 1).toInt) : (r : Int) < n.toInt + 1 := by omega
theorem zq_rng20 {k : Nat} {t : zk_T} {lo hi : Int} (h : zq_row qK k) (h2 : (20 : Int) ≤ (zk_kd qK k).2.2.2.1) (ht : (zk_kd qK k).2.2.1[0]? = some t) (h3 : t.2.1 ≤ lo) (h4 : hi ≤ t.2.2) : zq_r20 qK k lo hi := ⟨h, h2, t, ht, h3, h4⟩
set_option maxHeartbeats 4000000 in
set_option maxRecDepth 100000 in
theorem zq_ru_x (hx : p.tables.exec = Jvm.exec) (hb : c.code = prog_14_method_44_code) {rt : Option FieldType} {x : zk_S} {fuel sy nn gz g2 : Nat} {v : Nat → Value} (hw : zk_wd s qK D AT) (hok : zk_ok p l e R s m args below meth c Q qK D base Hb 5 prog_14_method_44_code P C.2.2.2.2) (hR1 : R.cells = C.2.2.2.1) (hR2 : R.slots = C.2.2.2.2) (hr : meth.sig.returnType = rt) (hlocks : meth.locks = false) (hQ : ∀ t : State, MQ below (zk_Qf qK D base Hb C v G0 H0) args s C.2.2.2.1 C.2.2.2.2 (fun q => base ≤ q) t → Q t) (hA : zq_all qK D qn_M qn_saying qn_codes qn_textSize qn_SC qn_pickAt) (hC : zk_sb (zq_ruE qn_M qn_codes qn_textSize qn_ruleOf qn_ruleList qn_ruleFrom qn_ruleTold) C.2.2.1 = true) (hPs : ∀ q ∈ zq_ruP, q ∈ P.1)
    (c1 : x.2.2.1 = []) (c2 : x.2.1 = [(0, 0), (1, 1), (2, 2), (3, 3)]) (hn0 : 0 < x.1) (c3 : (0, 25, sy) ∈ x.2.2.2.2.2.1) (c4 : (0, 26, nn) ∈ x.2.2.2.2.2.1) (c5 : (0, 1001, gz) ∈ x.2.2.2.2.2.1) (c6 : (0, 1002, g2) ∈ x.2.2.2.2.2.1) (t0 : zk_lk x.2.2.2.1 0 = (2, (qn_M : Int), 0)) (t1 : (zk_lk x.2.2.2.1 1).1 = 0) (t2 : zk_lk x.2.2.2.1 2 = (0, 0, 1)) (t3 : (zk_lk x.2.2.2.1 3).1 = 0) (tsy : zk_lk x.2.2.2.1 sy = (0, 7, 321)) (tn : zk_lk x.2.2.2.1 nn = (0, 0, 19)) (tgz : zk_lk x.2.2.2.1 gz = (0, 0, 0))
    (hchk : zk_chf qK P prog_14_method_44_code 5 C rt [] [] (176, zq_ruY qK (zq_ruE qn_M qn_codes qn_textSize qn_ruleOf qn_ruleList qn_ruleFrom qn_ruleTold) x, [], 0, 0) fuel 1 = true)
    {G : Nat → Nat} {H : Heap} {locs : List Loc} {ls : Array Slot} {vs : List Value} {v' : Nat → Value} (hp : zk_hp qK D base Hb G H) (he : zk_ev qK D C.2.2.1 G0 H0 G H) (hl : ∀ z ∈ locs, base ≤ z.base) (hF : zk_F qK D G H v' x) (hL : zk_LS C.1.1 v 5 ls vs v' x) : W p l e R s m args below meth c H locs 0 0 Q (F0 m 58 ls vs) := by
  have ty0 := zk_F_ty hF 0
  rw [t0] at ty0
  obtain ⟨a, ea, hga, hg0⟩ := zk_gr ty0 rfl rfl
  have hga : G a = qn_M := by rw [hga]; exact Int.toNat_natCast _
  obtain ⟨o1, eo1, -, -⟩ := zk_gi (zk_F_ty hF 1) t1
  have ty2 := zk_F_ty hF 2
  rw [t2] at ty2
  obtain ⟨o2, eo2, z1, z2⟩ := zk_gi ty2 rfl
  obtain ⟨o3, eo3, -, -⟩ := zk_gi (zk_F_ty hF 3) t3
  have tys := zk_F_ty hF sy
  rw [tsy] at tys
  obtain ⟨sd, es, s1, s2⟩ := zk_gi tys rfl
  have s1 : 7 ≤ sd.toInt := s1
  have s2 : sd.toInt ≤ 321 := s2
  have tyn := zk_F_ty hF nn
  rw [tn] at tyn
  obtain ⟨n, en, n1, n2⟩ := zk_gi tyn rfl
  have n1 : 0 ≤ n.toInt := n1
  have n2 : n.toInt ≤ 19 := n2
  have tyg := zk_F_ty hF gz
  rw [tgz] at tyg
  obtain ⟨zg, eg, gz1, gz2⟩ := zk_gi tyg rfl
  have hzg : zg.toInt = 0 := Int.le_antisymm gz2 gz1
  have s0 : 0 ≤ sd.toInt := Int.le_trans (by decide) s1
  obtain ⟨N, hN⟩ := zq_nat n1
  have hN19 := zq_le19 hN n2
  obtain ⟨S, hS⟩ := zq_nat s0
  have hS420 := zq_le420 hS s2
  obtain ⟨-, -, f25⟩ := zk_F_fl hF _ c3
  obtain ⟨a1, cell, q1, -, -, -, hca, h25⟩ := zk_fl_real f25 rfl
  rw [ea] at q1; cases q1
  have hsl : ∀ f, zk_sl qK D (G a) f = D.2.1 12 f := fun f => by unfold zk_sl; rw [hga]; rfl
  rw [hsl] at h25
  have h25 : cell.slots[D.2.1 12 25]? = some (v' sy) := h25
  rw [es] at h25
  obtain ⟨-, -, f26⟩ := zk_F_fl hF _ c4
  obtain ⟨a1, cell1, q1, -, -, -, hca1, h26⟩ := zk_fl_real f26 rfl
  rw [ea] at q1; cases q1
  rw [hca] at hca1; cases hca1
  rw [hsl] at h26
  have h26 : cell.slots[D.2.1 12 26]? = some (v' nn) := h26
  rw [en] at h26
  have gh : ∀ f w, (0, f, w) ∈ x.2.2.2.2.2.1 → 1000 < f → zk_gh qK D G H a f (v' w) := fun f w hm hf => by
    obtain ⟨-, fw, a2, cell2, r1, r2, r3, r4, r5⟩ := zk_F_fl hF _ hm
    rw [ea] at r1; cases r1
    rcases r5 with ⟨z, -⟩ | ⟨-, z⟩
    · have z : f < (zk_kd qK (G a)).2.2.1.length := z
      rw [hga] at z
      exact absurd (Nat.lt_of_lt_of_le z (by decide +kernel : (zk_kd qK qn_M).2.2.1.length ≤ 1000)) (Nat.not_lt.mpr (Nat.le_of_lt hf))
    · exact z
  have h1 := zq_at1 hA (gh 1001 gz c5 (by decide))
  have h2 := zq_at2 hA (gh 1002 g2 c6 (by decide))
  rw [eg] at h1
  obtain ⟨bs, cb, h18, hgs, hs0, hcb⟩ := zq_refM (f := 18) (k := qn_saying) hp hga hca (by decide +kernel)
  obtain ⟨bc, ccc, h19, hgc, hc0, hcc⟩ := zq_refM (f := 19) (k := qn_codes) hp hga hca (by decide +kernel)
  obtain ⟨bt, ct, h20, hgt, ht0, hct⟩ := zq_refM (f := 20) (k := qn_textSize) hp hga hca (by decide +kernel)
  obtain ⟨bo, cO, h21, hgo, ho0, hcO⟩ := zq_refM (f := 21) (k := qn_ruleOf) hp hga hca (by decide +kernel)
  obtain ⟨bl, cL, h22, hgl, hl0, hcL⟩ := zq_refM (f := 22) (k := qn_ruleList) hp hga hca (by decide +kernel)
  obtain ⟨bf, cF, h23, hgf, hf0, hcF⟩ := zq_refM (f := 23) (k := qn_ruleFrom) hp hga hca (by decide +kernel)
  obtain ⟨bu, cU, h24, hgu, hu0, hcU⟩ := zq_refM (f := 24) (k := qn_ruleTold) hp hga hca (by decide +kernel)
  obtain ⟨nw, hN0, -, -⟩ := zq_intM (f := 0) (t := zk_I) hp hga hca (by decide +kernel) rfl
  obtain ⟨z9, h9, -, -⟩ := zq_intM (f := 9) (t := (0, 0, 160)) hp hga hca (by decide +kernel) rfl
  -- what is said is well formed
  obtain ⟨cb1, sN, zz1, ⟨cellx, bx, nx, x1, x2, x3, x4, x5, x6, x7, x8⟩, y2, y3, y4⟩ := h1
  rw [hca] at x2; cases x2
  have x3 : cell.slots[D.2.1 12 25]? = some (.int nx) := x3
  rw [h25] at x3; cases x3
  have x5 : cell.slots[D.2.1 12 18]? = some (.ref bx) := x5
  rw [h18] at x5; cases x5
  rw [hcb] at x7; cases x7
  cases y2
  have hsS := zq_nsq hS x4
  subst hsS
  rw [hzg] at y4
  -- the rows that stand
  obtain ⟨cellx, cc2, ct2, b1, b2, nx, z3, w0, w1, w2, w3, w4, w5, w6, w7, w8, w9, hold⟩ := h2
  rw [hca] at w2; cases w2
  have w3 : cell.slots[D.2.1 12 26]? = some (.int nx) := w3
  rw [h26] at w3; cases w3
  have w4 : cell.slots[D.2.1 12 19]? = some (.ref b1) := w4
  rw [h19] at w4; cases w4
  rw [hcc] at w6; cases w6
  have w7 : cell.slots[D.2.1 12 20]? = some (.ref b2) := w7
  rw [h20] at w7; cases w7
  rw [hct] at w9; cases w9
  have hvs : vs = [] := by rw [(zk_LS_stk hL).1, c1]; rfl
  subst hvs
  have hloc := (zk_LS_loc hL).1
  rw [c2] at hloc
  have hls : lv_has ls 5 [(0, .ref a), (1, .int o1), (2, .int o2), (3, .int o3)] := by
    have h2 : lv_has ls 5 [(0, v' 0), (1, v' 1), (2, v' 2), (3, v' 3)] := hloc
    rw [ea, eo1, eo2, eo3] at h2
    exact h2
  have hg := fun q (h : q ∈ zq_ruP) => hok.1 q (hPs q h)
  have rC : zq_row qK qn_codes := ⟨by decide, by decide +kernel, by decide +kernel, by decide +kernel, by decide +kernel, zk_I, by decide +kernel, rfl⟩
  have rS : zq_row qK qn_saying := ⟨by decide, by decide +kernel, by decide +kernel, by decide +kernel, by decide +kernel, zk_I, by decide +kernel, rfl⟩
  have rT : zq_row qK qn_textSize := ⟨by decide, by decide +kernel, by decide +kernel, by decide +kernel, by decide +kernel, (0, 0, 400), by decide +kernel, rfl⟩
  have rO : zq_row qK qn_ruleOf := ⟨by decide, by decide +kernel, by decide +kernel, by decide +kernel, by decide +kernel, zk_I, by decide +kernel, rfl⟩
  have rF : zq_row qK qn_ruleFrom := ⟨by decide, by decide +kernel, by decide +kernel, by decide +kernel, by decide +kernel, zk_I, by decide +kernel, rfl⟩
  have rU : zq_row qK qn_ruleTold := ⟨by decide, by decide +kernel, by decide +kernel, by decide +kernel, by decide +kernel, zk_I, by decide +kernel, rfl⟩
  have hAT := hw.2.2.1 0 _ hw.2.2.2.1
  have hAZ := hw.2.2.1 2 _ hw.2.2.2.2.2.1
  have o1r := zk_rng o1
  have o3r := zk_rng o3
  have nwr := zk_rng nw
  have ne : ∀ {k k' u u' : Nat}, G u = k → G u' = k' → k ≠ k' → u ≠ u' := fun h h' hk e => hk (by rw [← h, ← h', e])
  refine lv_iconst (v := 0) hx hb (by decide +kernel : decode prog_14_method_44_code 58 = .ok (.iconst 0, 1)) rfl ?_
  refine lv_istore (lv' := [(4, .int 0), (0, .ref a), (1, .int o1), (2, .int o2), (3, .int o3)]) hx hb (by decide +kernel : decode prog_14_method_44_code 59 = .ok (.istore 4, 2)) hls (by decide) rfl (fun ls1 hls1 => ?_)
  refine zq_ru_loop (KT := qK) (kM := qn_M) (kS := qn_saying) (kC := qn_codes) (ci := 12) (ccc := ccc) hx hb hw.1 hAT (hg (38, 12, 19, 4) (by decide)).1 (hg (35, 12, 18, 4) (by decide)).1 (hg (240, 12, 25, 0) (by decide)).1 (hg (301, 12, 26, 0) (by decide)).1 rS rC (by decide +kernel) (by decide +kernel) (by decide) (by decide) (by decide +kernel) (by decide +kernel)
    (by decide +kernel) (by decide +kernel) (by decide +kernel) (by decide +kernel) (by decide +kernel) (by decide +kernel) (by decide +kernel) (by decide +kernel) (by decide +kernel) (by decide +kernel) (by decide +kernel) (by decide +kernel) (by decide +kernel) (by decide +kernel) (by decide +kernel) (by decide +kernel) (by decide +kernel) (by decide +kernel) (by decide +kernel) rfl
    hga hgc hgs h19 h18 h25 h26 hN hN19 hS hS420 x8 (fun H1 locs1 ls2 cc1 i hp1 ev1 hz1 ha1 hb1 hc1 hcp hl1 hls2 => ?_) sN 0 H locs ls1 ccc 0 (Nat.zero_add _) rfl hp zk_ev_rf rfl hca hcb hcc ⟨rfl, fun _ _ => rfl, fun j hj => absurd hj (Nat.not_lt_zero j)⟩ hl hls1
  obtain ⟨-, ct', hct', hcts⟩ := zq_arr ev1 hgt ht0 (by decide +kernel) hct (by decide +kernel) (by decide +kernel)
  refine zq_ru_t1 (KT := qK) (kM := qn_M) (kC := qn_codes) (kT := qn_textSize) (kO := qn_ruleOf) (kL := qn_ruleList) (kF := qn_ruleFrom) (kU := qn_ruleTold) (ci := 12) (N := N) (S := sN) (lo1 := zk_I.2.1) (hi1 := zk_I.2.2) (lo3 := zk_I.2.1) (hi3 := zk_I.2.2) (loN := zk_I.2.1) (hiN := zk_I.2.2) (fN := 0) (loT := 7) (hiT := 321) (E := zq_ruE qn_M qn_codes qn_textSize qn_ruleOf qn_ruleList qn_ruleFrom qn_ruleTold) (H0 := H) hx hb hw.1 hAT hAZ (hg (41, 12, 20, 4) (by decide)).1 (hg (44, 12, 21, 4) (by decide)).1 (hg (47, 12, 22, 4) (by decide)).1 (hg (50, 12, 23, 4) (by decide)).1 (hg (53, 12, 24, 4) (by decide)).1 (hg (156, 12, 0, 0) (by decide)).1 (hg (301, 12, 26, 0) (by decide)).1 (hg (240, 12, 25, 0) (by decide)).1
    (zq_rng20 rT (by decide +kernel) (t := (0, 0, 400)) (by decide +kernel) (by decide) (by decide)) (zq_rng20 rO (by decide +kernel) (t := zk_I) (by decide +kernel) (Int.le_refl _) (Int.le_refl _)) ⟨by decide, by decide +kernel, by decide +kernel, by decide +kernel, by decide +kernel, by decide +kernel⟩ (by decide +kernel) (zq_rng20 rF (by decide +kernel) (t := zk_I) (by decide +kernel) (Int.le_refl _) (Int.le_refl _)) (zq_rng20 rU (by decide +kernel) (t := zk_I) (by decide +kernel) (Int.le_refl _) (Int.le_refl _)) (by decide) (by decide +kernel) (by decide +kernel) (by decide +kernel)
    (by decide +kernel) (by decide +kernel) (by decide +kernel) (by decide +kernel) (by decide +kernel) (by decide +kernel) (by decide +kernel) (by decide +kernel) (by decide +kernel) (by decide +kernel) (by decide +kernel) (by decide +kernel) (by decide +kernel) (by decide +kernel) (by decide +kernel) (by decide +kernel) (by decide +kernel) (by decide +kernel) (by decide +kernel) (by decide +kernel) (by decide +kernel) (by decide +kernel) (by decide +kernel) (by decide +kernel) (by decide +kernel) (by decide +kernel) (by decide +kernel) (by decide +kernel) (by decide +kernel) (by decide +kernel) (by decide +kernel) (by decide +kernel)
    hga hgc hgt hgo hgl hgf hgu h20 h21 h22 h23 h24 h25 h26 hN0 hN hN19 s1 s2 o1r.1 o1r.2 z1 z2 o3r.1 o3r.2 nwr.1 nwr.2 (by decide +kernel) (by decide +kernel) (by decide +kernel) (by decide +kernel) (by decide +kernel) (ne hgc hgt (by decide)) (ne hgc hgo (by decide)) (ne hgc hgl (by decide)) (ne hgc hgf (by decide)) (ne hgc hgu (by decide)) (ne hgt hgo (by decide)) (ne hgt hgl (by decide)) (ne hgt hgf (by decide)) (ne hgt hgu (by decide)) (ne hga hgt (by decide)) (ne hga hgl (by decide)) (ne hga hgu (by decide))
    ⟨hp1, zk_ev_sb (by decide +kernel) ev1, hz1, ha1, hc1, hct', hl1⟩ hls2 (fun H2 locs2 ct1 S2 htN hto => ?_)
  refine zq_ru_t2 (KT := qK) (kM := qn_M) (ci := 12) (N := N) (t9 := (0, 0, 160)) (E := zq_ruE qn_M qn_codes qn_textSize qn_ruleOf qn_ruleList qn_ruleFrom qn_ruleTold) (H0 := H) hx hb hw.1 hw.2.1 (hg (181, 12, 9, 0) (by decide)).2 (hg (301, 12, 26, 0) (by decide)).1 (hg (301, 12, 26, 0) (by decide)).2 (by decide) (by decide +kernel) (by decide +kernel) (by decide +kernel) (by decide +kernel) (by decide +kernel) ⟨rfl, by decide, by decide⟩ (by decide +kernel) (hw.2.1 qn_M 9 26 (by decide +kernel) (by decide +kernel) (by decide +kernel) (by decide))
    (by decide +kernel) (by decide +kernel) (by decide +kernel) (by decide +kernel) (by decide +kernel) (by decide +kernel) (by decide +kernel) (by decide +kernel) (by decide +kernel) (by decide +kernel) (by decide +kernel) (by decide +kernel) (by decide +kernel)
    hga h9 h26 hN hN19 (by decide +kernel) (by decide +kernel) (ne hgc hga (by decide)) (ne hgt hga (by decide)) S2 hls2 (ip := 1) rfl (fun H3 locs3 S3 => ?_)
  obtain ⟨hp3, ev3, hz3, ha3, hc3, ht3, hl3⟩ := S3
  obtain ⟨m1, -, -, -, -, -, -, -⟩ := zq_ru2 hN hN19
  obtain ⟨-, -, szc, -⟩ := zq_cls hp3 rC hgc hc3
  have hn9 : ∀ f, f < 71 → f ≠ 9 → f ≠ 26 → ((cell.setSlot (D.2.1 12 9) (.int 0)).setSlot (D.2.1 12 26) (.int (n + 1))).slots[D.2.1 12 f]? = cell.slots[D.2.1 12 f]? := fun f hf h9 h26 => zq_set2 (hw.2.1 qn_M 26 f (by decide +kernel) (by decide +kernel) hf (fun z => h26 z.symm)) (hw.2.1 qn_M 9 f (by decide +kernel) (by decide +kernel) hf (fun z => h9 z.symm))
  have s26 : (cell.setSlot (D.2.1 12 9) (.int 0)).slots[D.2.1 12 26]? = some (.int n) := by
    have hne : D.2.1 12 9 ≠ D.2.1 12 26 := hw.2.1 qn_M 9 26 (by decide +kernel) (by decide +kernel) (by decide +kernel) (by decide)
    rw [slot_ne _ _ hne]; exact h26
  have hall := zq_ru_all hcp hN hN19 hS hS420 (Int.le_trans (by decide +kernel) szc) y4.symm htN (fun j hj => by rw [hto j hj, hcts]) hold
  refine zq_ru_fin (kM := qn_M) (kS := qn_saying) (kC := qn_codes) (kT := qn_textSize) (kP := qn_SC) (kA := qn_pickAt) (x := x) (E2 := zq_ruE qn_M qn_codes qn_textSize qn_ruleOf qn_ruleList qn_ruleFrom qn_ruleTold) (zz := 0) hx hb hw hok hR1 hR2 hr hlocks hQ hA hC (by decide) (by decide +kernel) hn0 hchk he hF hL ea hga n1 n2 hp3 ev3 hz3 ⟨_, cc1, ct1, bc, bt, n + 1, 0, rfl, hga, ha3, Cell.slots_setSlot_self _ (k2_hasslot s26), (hn9 19 (by decide) (by decide) (by decide)).trans h19, hgc, hc3, (hn9 20 (by decide) (by decide) (by decide)).trans h20, hgt, ht3, fun r hr => hall r (zq_lt1 (m := 0) m1 hr)⟩ ha3 hl3 (by
    rw [c2]
    simp only [List.map_cons, List.map_nil, ea, eo1, eo2, eo3]
    exact lv_sub hls2 [1, 2, 3, 4] rfl)
end ZR9
end
