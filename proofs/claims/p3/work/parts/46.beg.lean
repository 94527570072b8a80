/-! BY HAND: where ghosts begin, where they are read, a loop's first turn -/
theorem zq_seg0 (cb : Cell) (o : Nat) : zq_seg cb o 0 = [] := by unfold zq_seg; rw [List.take_zero, List.map_nil]
theorem zq_ar7 {q z : Int} (h : q < z) (h2 : z ≤ 160) : q ≤ 159 ∧ q ≤ z + -1 := by omega
theorem zq_ar8 {a n : Int} (h : a ≤ n + -1) : a < n := by omega
section ZG
variable {p : Program} {l : Launch} {e : Env} {R : Room} {s : State} {m : MethodId} {args : Array Value} {below : List Frame} {meth : Method} {c : Code} {Q : State → Prop} {KT : List zk_K} {D : zk_D} {base : Nat} {Hb : Heap} {n0 nL : Nat} {v0 : Nat → Value} {E : List (Nat × Nat)} {G0 : Nat → Nat} {H0 : Heap} {cc : ByteArray}
variable {P : zk_P} {AT : List FieldType} {C : zk_C}
/-- the field of an object, as the kinds say -/
theorem zq_fld {k ci f : Nat} {t : zk_T} {G : Nat → Nat} {H : Heap} {a : Nat} {cell : Cell} (hp : zk_hp KT D base Hb G H) (hk : k ≠ 0) (h0 : (zk_kd KT k).1 = 0) (hci : (zk_kd KT k).2.1 = ci) (hga : G a = k) (hca : H[a]? = some cell) (ht : (zk_kd KT k).2.2.1[f]? = some t) : ∃ w, cell.slots[D.2.1 ci f]? = some w ∧ zk_tv G w t := by
  obtain ⟨-, cl, r1, r2, -⟩ := hp.2.2 a (by rw [hga]; exact hk)
  rw [hca] at r1; cases r1
  obtain ⟨w, w1, w2⟩ := (r2.2.1 (by rw [hga]; exact h0)).2 f t (by rw [hga]; exact ht)
  unfold zk_sl at w1
  rw [hga, hci] at w1
  exact ⟨w, w1, w2.1⟩
theorem zq_beg1 {x : zk_S} {sy kM kS kC kT kP kA ci : Nat} {hi : Int} {G : Nat → Nat} {H : Heap} {v : Nat → Value} (hA : zq_all KT D kM kS kC kT kP kA) (hM : zq_kM KT kM ci hi) (h18t : (zk_kd KT kM).2.2.1[18]? = some (2, (kS : Int), 0)) (c3 : (0, 25, sy) ∈ x.2.2.2.2.2.1) (t0 : zk_lk x.2.2.2.1 0 = (2, (kM : Int), 0)) (tsy : zk_lk x.2.2.2.1 sy = (0, 0, 0)) (hp : zk_hp KT D base Hb G H) (hF : zk_F KT D G H v x) : zk_F KT D G H v (zk_af x [(0, 1001, sy)] [] []) := by
  have ty0 := zk_F_ty hF 0
  rw [t0] at ty0
  obtain ⟨a, ea, hga, hg0⟩ := zk_gr ty0 rfl rfl
  have hga : G a = kM := by rw [hga]; exact Int.toNat_natCast _
  have tys := zk_F_ty hF sy
  rw [tsy] at tys
  obtain ⟨z, ez, z1, z2⟩ := zk_gi tys rfl
  have hz : z.toInt = 0 := Int.le_antisymm z2 z1
  obtain ⟨f0, fs, f25⟩ := zk_F_fl hF _ c3
  obtain ⟨a1, cell, q1, -, -, -, hca, h25⟩ := zk_fl_real f25 rfl
  rw [ea] at q1; cases q1
  unfold zk_sl at h25
  rw [hga] at h25
  have h25 : cell.slots[D.2.1 (zk_kd KT kM).2.1 25]? = some (v sy) := h25
  rw [ez] at h25
  obtain ⟨w, w1, w2⟩ := zq_fld hp hM.1 hM.2.1 hM.2.2.1 hga hca h18t
  obtain ⟨b, eb, hgb, hgb0⟩ := zk_gr w2 rfl rfl
  have hgb : G b = kS := by rw [hgb]; exact Int.toNat_natCast _
  obtain ⟨-, cb, hcb, -, -⟩ := hp.2.2 b hgb0
  rw [eb] at w1
  refine zk_F_gb (o := 0) (f := 1001) (w := sy) hF f0 fs (by decide) ea hg0 (by rw [hga]; exact hM.2.1) hca (zq_mk1 hA ⟨cb, 0, z, ⟨cell, b, z, hga, hca, h25, hz, by rw [hM.2.2.1]; exact w1, hgb, hcb, Nat.zero_le _⟩, ez, by rw [hz]; exact Int.le_refl _, by rw [zq_seg0, hz]; rfl⟩)
theorem zq_beg3 {x : zk_S} {sy kM kS kC kT kP kA ci : Nat} {G : Nat → Nat} {H : Heap} {v : Nat → Value} (hA : zq_all KT D kM kS kC kT kP kA) (hP0 : kP ≠ 0) (hP1 : (zk_kd KT kP).1 = 0) (hP2 : (zk_kd KT kP).2.1 = ci) (h1t : (zk_kd KT kP).2.2.1[1]? = some (2, (kA : Int), 0)) (c3 : (0, 2, sy) ∈ x.2.2.2.2.2.1) (t0 : zk_lk x.2.2.2.1 0 = (2, (kP : Int), 0)) (tsy : zk_lk x.2.2.2.1 sy = (0, 0, 0)) (hp : zk_hp KT D base Hb G H) (hF : zk_F KT D G H v x) : zk_F KT D G H v (zk_af x [(0, 1003, sy)] [] []) := by
  have ty0 := zk_F_ty hF 0
  rw [t0] at ty0
  obtain ⟨a, ea, hga, hg0⟩ := zk_gr ty0 rfl rfl
  have hga : G a = kP := by rw [hga]; exact Int.toNat_natCast _
  have tys := zk_F_ty hF sy
  rw [tsy] at tys
  obtain ⟨z, ez, z1, z2⟩ := zk_gi tys rfl
  have hz : z.toInt = 0 := Int.le_antisymm z2 z1
  obtain ⟨f0, fs, f2⟩ := zk_F_fl hF _ c3
  obtain ⟨a1, cell, q1, -, -, -, hca, h2⟩ := zk_fl_real f2 rfl
  rw [ea] at q1; cases q1
  unfold zk_sl at h2
  rw [hga] at h2
  have h2 : cell.slots[D.2.1 (zk_kd KT kP).2.1 2]? = some (v sy) := h2
  rw [ez] at h2
  obtain ⟨w, w1, w2⟩ := zq_fld hp hP0 hP1 hP2 hga hca h1t
  obtain ⟨b, eb, hgb, hgb0⟩ := zk_gr w2 rfl rfl
  have hgb : G b = kA := by rw [hgb]; exact Int.toNat_natCast _
  obtain ⟨-, cb, hcb, -, -⟩ := hp.2.2 b hgb0
  rw [eb] at w1
  exact zk_F_gb (o := 0) (f := 1003) (w := sy) hF f0 fs (by decide) ea hg0 (by rw [hga]; exact hP1) hca (zq_mk3 hA ⟨cell, cb, b, z, z, ez, hga, hca, h2, by rw [hP2]; exact w1, hgb, hcb, fun j hj => by rw [hz] at hj; exact absurd hj (Int.not_lt.mpr (Int.natCast_nonneg j))⟩)
set_option maxHeartbeats 1000000 in
theorem zq_dec_x (hx : p.tables.exec = Jvm.exec) (hb : c.code = cc) {rt : Option FieldType} {x : zk_S} {i pa fa sc n w kM kS kC kT kP kA fuel : Nat} {v : Nat → Value} (hw : zk_wd s KT D AT) (hok : zk_ok p l e R s m args below meth c Q KT D base Hb nL cc P C.2.2.2.2) (hR1 : R.cells = C.2.2.2.1) (hR2 : R.slots = C.2.2.2.2) (hr : meth.sig.returnType = rt) (hlocks : meth.locks = false) (hQ : ∀ t : State, MQ below (zk_Qf KT D base Hb C v G0 H0) args s C.2.2.2.1 C.2.2.2.2 (fun q => base ≤ q) t → Q t)
    (hA : zq_all KT D kM kS kC kT kP kA) (hlen : (zk_kd KT kP).2.2.1.length ≤ 1000) (hrow : zq_row KT kA) (d81 : decode cc 81 = .ok (.iaload, 1))
    (c1 : x.2.2.1 = [i, pa, fa]) (c2 : (sc, 1, pa) ∈ x.2.2.2.2.2.1) (c3 : (sc, 2, n) ∈ x.2.2.2.2.2.1) (c4 : (sc, 1003, w) ∈ x.2.2.2.2.2.1) (tsc : zk_lk x.2.2.2.1 sc = (2, (kP : Int), 0)) (tpa : zk_lk x.2.2.2.1 pa = (2, (kA : Int), 0)) (ti : (zk_lk x.2.2.2.1 i).1 = 0) (hlb : zk_lb x.2.2.2.1 x.2.2.2.2.1 3 i 0 = true) (hle : zk_le x.2.2.2.1 x.2.2.2.2.1 3 i n (-1) = true) (hhi : zk_hi (zk_lk x.2.2.2.1 w) = some 160)
    (hchk : zk_chf KT P cc nL C rt [] [] (82, zk_pu x [fa] (0, 0, 159) [(x.1, w, -1)] [], [], 0, 0) fuel 1 = true)
    {G : Nat → Nat} {H : Heap} {locs : List Loc} {ls : Array Slot} {vs : List Value} {v' : Nat → Value} (hp : zk_hp KT D base Hb G H) (he : zk_ev KT D C.2.2.1 G0 H0 G H) (hl : ∀ q ∈ locs, base ≤ q.base) (hF : zk_F KT D G H v' x) (hL : zk_LS C.1.1 v nL ls vs v' x) : W p l e R s m args below meth c H locs 0 0 Q (F0 m 81 ls vs) := by
  obtain ⟨e1, hlt⟩ := zk_LS_stk hL
  have tyc := zk_F_ty hF sc
  rw [tsc] at tyc
  obtain ⟨a, ea, hga, hg0⟩ := zk_gr tyc rfl rfl
  have hga : G a = kP := by rw [hga]; exact Int.toNat_natCast _
  have typ := zk_F_ty hF pa
  rw [tpa] at typ
  obtain ⟨b, eb, hgb, hgb0⟩ := zk_gr typ rfl rfl
  have hgb : G b = kA := by rw [hgb]; exact Int.toNat_natCast _
  obtain ⟨iv, ei, -, -⟩ := zk_gi (zk_F_ty hF i) ti
  have i0 : 0 ≤ iv.toInt := by
    have : 0 ≤ zk_i (v' i) := by
      obtain ⟨n', loc, stk, tys, rel, fld, len, pf, msc, la⟩ := x
      exact zk_lb_ok (fun q hq => (hF.1 q hq).2) hF.2.1 hlb
    rw [ei] at this; exact this
  have i1 := zk_F_le hF hle
  obtain ⟨-, -, fp⟩ := zk_F_fl hF _ c2
  obtain ⟨-, -, fn⟩ := zk_F_fl hF _ c3
  obtain ⟨-, fw, a2, cell2, r1, r2, r3, r4, r5⟩ := zk_F_fl hF _ c4
  rw [ea] at r1; cases r1
  have hgh : zk_gh KT D G H a 1003 (v' w) := by
    rcases r5 with ⟨z, -⟩ | ⟨-, z⟩
    · have z : 1003 < (zk_kd KT (G a)).2.2.1.length := z
      rw [hga] at z
      exact absurd (Nat.lt_of_lt_of_le z hlen) (by decide)
    · exact z
  obtain ⟨cell, ca, b', nv, z, hw3, -, g2, g3, g4, g5, g6, g7⟩ := zq_at3 hA hgh
  obtain ⟨a1, cl1, q1, -, -, -, hc1, hn1⟩ := zk_fl_real fn rfl
  rw [ea] at q1; cases q1
  rw [g2] at hc1; cases hc1
  obtain ⟨a1, cl1, q1, -, -, -, hc1, hp1⟩ := zk_fl_real fp rfl
  rw [ea] at q1; cases q1
  rw [g2] at hc1; cases hc1
  unfold zk_sl at hn1 hp1
  rw [hga] at hn1 hp1
  have hn1 : cell.slots[D.2.1 (zk_kd KT kP).2.1 2]? = some (v' n) := hn1
  have hp1 : cell.slots[D.2.1 (zk_kd KT kP).2.1 1]? = some (v' pa) := hp1
  rw [g3] at hn1
  rw [g4, eb] at hp1
  have en : v' n = .int nv := (Option.some.inj hn1).symm
  have ebb : b' = b := Value.ref.inj (Option.some.inj hp1)
  subst ebb
  rw [ei, en] at i1
  have i1 : iv.toInt ≤ nv.toInt + -1 := i1
  have hnn := zq_nc i0
  obtain ⟨q, k1, k2, k3⟩ := g7 iv.toNatClampNeg (by rw [hnn]; exact zq_ar8 i1)
  have hsz : iv.toInt < ca.slots.size := by rw [← hnn]; exact Int.ofNat_lt.mpr (Array.getElem?_eq_some_iff.mp k1).1
  have hz := zk_hi_ok (zk_F_ty hF w) hhi
  rw [hw3] at hz
  have hz : z.toInt ≤ 160 := hz
  obtain ⟨j1, j2⟩ := zq_ar7 k3 hz
  have hvs : vs = [.int iv, .ref b', v' fa] := by rw [e1, c1, List.map_cons, List.map_cons, List.map_cons, List.map_nil, ei, eb]
  have lfa : fa < x.1 := hlt fa (by rw [c1]; simp)
  have hL0 := zk_LS_up (w := .int q) (stk' := [fa]) (t := (0, 0, 159)) (rs := [(x.1, w, -1)]) (ms := []) hL (fun y hy => by rw [List.mem_singleton.mp hy]; exact lfa)
  have hF0 := zk_F_up (w := .int q) (stk' := [fa]) (t := (0, 0, 159)) (rs := [(x.1, w, -1)]) (ms := []) hF (zk_tv_int k2 j1) (fun r hr => by
    rw [List.mem_singleton.mp hr]
    refine ⟨Nat.lt_succ_self _, Nat.lt_succ_of_lt fw, ?_⟩
    show zk_i (zk_up v' x.1 (.int q) x.1) ≤ zk_i (zk_up v' x.1 (.int q) w) + -1
    rw [zk_up_at, zk_up_lt fw, hw3]
    exact j2) (fun q hq => absurd hq List.not_mem_nil)
  rw [hvs]
  refine zq_ild hx hb (hw.2.2.1 0 _ hw.2.2.2.1) hp hrow hgb g6 i0 hsz d81 (fun q2 tq k4 _ _ _ => ?_)
  rw [k1] at k4; cases k4
  exact zk_from (q0 := (82, zk_pu x [fa] (0, 0, 159) [(x.1, w, -1)] [], [], 0, 0)) (hd := []) (xs := []) hx hb hw hok hR1 hR2 hr hlocks hQ hchk (fun q hq => absurd hq List.not_mem_nil) hp he hl hF0 hL0
end ZG
