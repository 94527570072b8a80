/-! SAY, by hand, 2: from a checker's state at its store to one at its return -/
noncomputable section
def zq_y0 (KT : List zk_K) (kS kM : Nat) (x : zk_S) : zk_S := zk_af (zk_st (zk_pu (zk_st (zk_ex KT [(kS, 0), (kM, 25)] x true) []) [] (0, 1, 420) [(x.1, 2, 1), (2, x.1, -1)] []) []) [(0, 25, x.1)] [] []
def zq_y1 (KT : List zk_K) (kS kM : Nat) (x : zk_S) (l h d : Int) : zk_S := zk_af (zk_st (zk_pu (zq_y0 KT kS kM x) [] (0, l + d, h + d) [(x.1 + 1, 3, d), (3, x.1 + 1, -d)] []) []) [(0, 1001, x.1 + 1)] [] []
theorem zq_y0n (KT : List zk_K) (kS kM : Nat) (x : zk_S) : (zq_y0 KT kS kM x).1 = x.1 + 1 := rfl
theorem zq_y1n (KT : List zk_K) (kS kM : Nat) (x : zk_S) (l h d : Int) : (zq_y1 KT kS kM x l h d).1 = x.1 + 2 := rfl
/-- what is said goes on where it stood -/
theorem zq_say1 {KT : List zk_K} {ds : Nat → Nat → Nat} {kM kS ci : Nat} (hci : (zk_kd KT kM).2.1 = ci) (hne : ds ci 18 ≠ ds ci 25) {G : Nat → Nat} {H H2 : Heap} {a b : Nat} {cv sd z z' : Int32} {cell cb : Cell} (hga : G a = kM) (hca : H[a]? = some cell) (h25 : cell.slots[ds ci 25]? = some (.int sd)) (h18 : cell.slots[ds ci 18]? = some (.ref b)) (hgb : G b = kS) (hcb : H[b]? = some cb) (h0 : 0 ≤ sd.toInt) (h1 : sd.toInt < cb.slots.size) (hb : sd.toInt + 1 ≤ 2147483647) (e1 : H2[b]? = some (cb.setSlot sd.toNatClampNeg (.int cv))) (e2 : H2[a]? = some (cell.setSlot (ds ci 25) (.int (sd + 1))))
    (hg : zq_1001 KT ds kM kS G H a (.int z)) (hz : z'.toInt = zq_st z.toInt cv.toInt) (hz0 : 0 ≤ z'.toInt) : zq_1001 KT ds kM kS G H2 a (.int z') ∧ z.toInt = zq_run 0 (zq_seg cb 0 sd.toNatClampNeg) := by
  obtain ⟨cb', s, z1, ⟨cell', b', n, g1, g2, g3, g4, g5, g6, g7, g8⟩, hw, h2, h3⟩ := hg
  cases hw
  rw [hca] at g2; cases g2
  rw [hci, h25] at g3; cases g3
  rw [hci, h18] at g5; cases g5
  rw [hcb] at g7; cases g7
  have hs : sd.toNatClampNeg = s := by rw [Int32.toNatClampNeg]; omega
  obtain ⟨q1, q2, -⟩ := zq_said (H := H) hci hne hga h25 h18 hgb h0 h1 hb e1 e2
  rw [← hs] at h3
  refine ⟨⟨_, _, z', q1, rfl, hz0, ?_⟩, h3⟩
  rw [q2, zq_run_one, ← h3, hz]
/-- a condition that is being said goes on -/
theorem zq_say4 {KT : List zk_K} {ds : Nat → Nat → Nat} {kM kS ci : Nat} (hci : (zk_kd KT kM).2.1 = ci) (hne : ds ci 18 ≠ ds ci 25) {G : Nat → Nat} {H H2 : Heap} {a b : Nat} {cv sd z : Int32} {t : Value} {cell cb : Cell} (hga : G a = kM) (hca : H[a]? = some cell) (h25 : cell.slots[ds ci 25]? = some (.int sd)) (h18 : cell.slots[ds ci 18]? = some (.ref b)) (hgb : G b = kS) (hcb : H[b]? = some cb) (h0 : 0 ≤ sd.toInt) (h1 : sd.toInt < cb.slots.size) (hb : sd.toInt + 1 ≤ 2147483647) (e1 : H2[b]? = some (cb.setSlot sd.toNatClampNeg (.int cv))) (e2 : H2[a]? = some (cell.setSlot (ds ci 25) (.int (sd + 1))))
    (hg : zq_1001 KT ds kM kS G H a (.int z)) (hg4 : zq_1004 KT ds kM kS G H a t) (hz : z.toInt < 4000 → 1000 ≤ zq_st z.toInt cv.toInt ∧ zq_st z.toInt cv.toInt < 4000) : zq_1004 KT ds kM kS G H2 a t := by
  obtain ⟨cb', s, z1, ⟨cell', b', n, g1, g2, g3, g4, g5, g6, g7, g8⟩, hw, h2, h3⟩ := hg
  cases hw
  rw [hca] at g2; cases g2
  rw [hci, h25] at g3; cases g3
  rw [hci, h18] at g5; cases g5
  rw [hcb] at g7; cases g7
  obtain ⟨cb', s', t', zt, ⟨cell', b', n, i1, i2, i3, i4, i5, i6, i7, i8⟩, ht, j1, j2, j3, j4, j5⟩ := hg4
  rw [hca] at i2; cases i2
  rw [hci, h25] at i3; cases i3
  rw [hci, h18] at i5; cases i5
  rw [hcb] at i7; cases i7
  have hs : sd.toNatClampNeg = s := by rw [Int32.toNatClampNeg]; omega
  have hs' : s' = s := by omega
  subst hs'
  obtain ⟨q1, q2, q3⟩ := zq_said (H := H) hci hne hga h25 h18 hgb h0 h1 hb e1 e2
  rw [hs] at q1 q2 q3
  have hz2 : z.toInt = zq_run 1000 (zq_seg cb t' (s' - t')) := by
    rw [h3, show zq_seg cb 0 s' = zq_seg cb 0 (t' + (s' - t')) from by rw [Nat.add_sub_cancel' j3], zq_seg_add, zq_run_add, j4, Nat.zero_add]
  have hlast := j5 (s' - t') (Nat.le_refl _)
  rw [← hz2] at hlast
  obtain ⟨z1, z2⟩ := hz hlast.2
  refine ⟨_, s' + 1, t', zt, q1, ht, j1, j2, by omega, by rw [q3 0 t' (by omega)]; exact j4, fun j hj => ?_⟩
  rcases Nat.lt_or_ge j (s' + 1 - t') with hj2 | hj2
  · rw [q3 t' j (by omega)]
    exact j5 j (by omega)
  · have ej : j = (s' - t') + 1 := by omega
    subst ej
    have el : zq_seg (cb.setSlot s' (.int cv)) t' (s' - t' + 1) = zq_seg cb t' (s' - t') ++ [cv.toInt] := by
      rw [zq_seg_one (w := .int cv) (by rw [Nat.add_sub_cancel' j3]; exact Cell.slots_setSlot_self _ (by omega)), q3 t' _ (by omega)]
      rfl
    rw [el, zq_run_one, ← hz2]
    exact ⟨z1, z2⟩
/-- a condition begins behind the label -/
theorem zq_say4L {KT : List zk_K} {ds : Nat → Nat → Nat} {kM kS ci : Nat} (hci : (zk_kd KT kM).2.1 = ci) (hne : ds ci 18 ≠ ds ci 25) {G : Nat → Nat} {H H2 : Heap} {a b : Nat} {cv sd z : Int32} {cell cb : Cell} (hga : G a = kM) (hca : H[a]? = some cell) (h25 : cell.slots[ds ci 25]? = some (.int sd)) (h18 : cell.slots[ds ci 18]? = some (.ref b)) (hgb : G b = kS) (hcb : H[b]? = some cb) (h0 : 0 ≤ sd.toInt) (h1 : sd.toInt < cb.slots.size) (hb : sd.toInt + 1 ≤ 2147483647) (e1 : H2[b]? = some (cb.setSlot sd.toNatClampNeg (.int cv))) (e2 : H2[a]? = some (cell.setSlot (ds ci 25) (.int (sd + 1))))
    (hg : zq_1001 KT ds kM kS G H a (.int z)) (hz : z.toInt = 0) : zq_1004 KT ds kM kS G H2 a (.int (sd + 1)) := by
  have hz' : (1000 : Int32).toInt = zq_st z.toInt cv.toInt := by rw [hz]; rfl
  obtain ⟨⟨cb', s, z1, hG, hw, -, h3⟩, -⟩ := zq_say1 hci hne hga hca h25 h18 hgb hcb h0 h1 hb e1 e2 hg hz' (by decide)
  cases hw
  have hG' := hG
  obtain ⟨cell', b', n, g1, g2, g3, g4, g5, g6, g7, g8⟩ := hG
  rw [e2] at g2; cases g2
  rw [hci, Cell.slots_setSlot_self _ (k2_hasslot h25)] at g3; cases g3
  have hr := zk_rng sd
  have e : (sd + 1).toInt = sd.toInt + 1 := by rw [Int32.toInt_add, show (1 : Int32).toInt = 1 from rfl, Int.bmod_eq_of_le (by omega) (by omega)]
  refine ⟨cb', s, s, sd + 1, hG', rfl, g4, by omega, Nat.le_refl _, by rw [← h3]; rfl, fun j hj => ?_⟩
  have : j = 0 := by omega
  subst this
  show 1000 ≤ zq_run 1000 (zq_seg cb' s 0) ∧ zq_run 1000 (zq_seg cb' s 0) < 4000
  have e0 : zq_seg cb' s 0 = [] := List.eq_nil_of_length_eq_zero (zq_seg_len (by omega))
  rw [e0]
  exact ⟨by decide, by decide⟩
section ZV
variable {p : Program} {l : Launch} {e : Env} {R : Room} {s : State} {m : MethodId} {args : Array Value} {below : List Frame} {meth : Method} {c : Code} {Q : State → Prop} {KT : List zk_K} {D : zk_D} {base : Nat} {Hb : Heap} {n0 nL : Nat} {v0 : Nat → Value} {E : List (Nat × Nat)} {G0 : Nat → Nat} {H0 : Heap} {cc : ByteArray}
variable {cells slots : Nat} {P : zk_P} {AT : List FieldType} {C : zk_C}
set_option maxHeartbeats 4000000 in
theorem zq_say_core (hx : p.tables.exec = Jvm.exec) (hb : c.code = cc) {x : zk_S} {sv kM kS ci i25 : Nat} {hi : Int} (hkt : zk_kt KT) (hdj : zk_dj KT D) (hAT : ArrOfT s (D.2.2.1 0) .int) (hg : zk_gok p l e R s m args below meth c Q D cc i25 ci 25) (hpk : zk_pok p l e R s m args below meth c Q D cc i25 ci 25 0) (hM : zq_kM KT kM ci hi) (hS : zq_kS KT kS)
    (d9 : decode cc 9 = .ok (.iastore, 1)) (d10 : decode cc 10 = .ok (.aload_n 0, 1)) (d11 : decode cc 11 = .ok (.dup, 1)) (d12 : decode cc 12 = .ok (.getfield i25, 3)) (d15 : decode cc 15 = .ok (.iconst 1, 1)) (d16 : decode cc 16 = .ok (.iadd, 1)) (d17 : decode cc 17 = .ok (.putfield i25, 3))
    (c1 : x.2.2.1 = [1, 2, sv]) (c2 : x.2.1 = [(0, 0), (1, 1)]) (c3 : (0, 25, 2) ∈ x.2.2.2.2.2.1) (c4 : (0, 18, sv) ∈ x.2.2.2.2.2.1) (t0 : zk_lk x.2.2.2.1 0 = (2, (kM : Int), 0)) (t1 : (zk_lk x.2.2.2.1 1).1 = 0) (t2 : zk_lk x.2.2.2.1 2 = (0, 0, 419)) (tsv : zk_lk x.2.2.2.1 sv = (2, (kS : Int), 0)) (hlo : 420 ≤ (zk_kd KT kS).2.2.2.1) (hhi : 420 ≤ hi ∧ hi ≤ 2147483647)
    {G : Nat → Nat} {H : Heap} {locs : List Loc} {ls : Array Slot} {vs : List Value} {v : Nat → Value} (hp : zk_hp KT D base Hb G H) (hl : ∀ q ∈ locs, base ≤ q.base) (hF : zk_F KT D G H v x) (hL : zk_LS n0 v0 nL ls vs v x)
    (kk : ∀ (a b : Nat) (cv sd : Int32) (cell cb : Cell) (H2 : Heap) (locs2 : List Loc), v 0 = .ref a → v 1 = .int cv → v 2 = .int sd → G a = kM → H[a]? = some cell → cell.slots[D.2.1 ci 25]? = some (.int sd) → cell.slots[D.2.1 ci 18]? = some (.ref b) → G b = kS → H[b]? = some cb → 0 ≤ sd.toInt → sd.toInt ≤ 419 → sd.toInt < cb.slots.size → H2[a]? = some (cell.setSlot (D.2.1 ci 25) (.int (sd + 1))) → H2[b]? = some (cb.setSlot sd.toNatClampNeg (.int cv)) → zk_hp KT D base Hb G H2 → zk_ev KT D [(kS, 0), (kM, 25)] G H G H2 → (∀ q ∈ locs2, base ≤ q.base) → zk_F KT D G H2 (zk_up v x.1 (.int (sd + 1))) (zq_y0 KT kS kM x) → zk_LS n0 v0 nL ls [] (zk_up v x.1 (.int (sd + 1))) (zq_y0 KT kS kM x) → W p l e R s m args below meth c H2 locs2 cells slots Q (F0 m 20 ls [])) : W p l e R s m args below meth c H locs cells slots Q (F0 m 9 ls vs) := by
  obtain ⟨e1, hlt⟩ := zk_LS_stk hL
  obtain ⟨hloc, -⟩ := zk_LS_loc hL
  have l1 : 1 < x.1 := hlt 1 (by rw [c1]; exact List.mem_cons_self)
  have l2 : 2 < x.1 := hlt 2 (by rw [c1]; exact List.mem_cons_of_mem _ List.mem_cons_self)
  have l0 : 0 < x.1 := by omega
  have ty0 := zk_F_ty hF 0
  have ty1 := zk_F_ty hF 1
  have ty2 := zk_F_ty hF 2
  have tys := zk_F_ty hF sv
  rw [t0] at ty0
  rw [t2] at ty2
  rw [tsv] at tys
  obtain ⟨a, ea, hga, hg0⟩ := zk_gr ty0 rfl rfl
  obtain ⟨b, eb, hgb, hgb0⟩ := zk_gr tys rfl rfl
  obtain ⟨cv, ec, -, -⟩ := zk_gi ty1 t1
  obtain ⟨sd, es, s1, s2⟩ := zk_gi ty2 rfl
  have hga : G a = kM := by rw [hga]; exact Int.toNat_natCast _
  have hgb : G b = kS := by rw [hgb]; exact Int.toNat_natCast _
  have s1 : 0 ≤ sd.toInt := s1
  have s2 : sd.toInt ≤ 419 := s2
  obtain ⟨-, -, f25⟩ := zk_F_fl hF _ c3
  obtain ⟨-, -, f18⟩ := zk_F_fl hF _ c4
  obtain ⟨a1, cell, q1, -, -, -, hca, h25⟩ := zk_fl_real f25 rfl
  rw [ea] at q1; cases q1
  obtain ⟨a2, cell2, q1, -, -, -, hca2, h18⟩ := zk_fl_real f18 rfl
  rw [ea] at q1; cases q1
  rw [hca] at hca2; cases hca2
  have hsl : ∀ f, zk_sl KT D (G a) f = D.2.1 ci f := fun f => by unfold zk_sl; rw [hga, hM.2.2.1]
  rw [hsl] at h25 h18
  have h25 : cell.slots[D.2.1 ci 25]? = some (v 2) := h25
  have h18 : cell.slots[D.2.1 ci 18]? = some (v sv) := h18
  rw [es] at h25
  rw [eb] at h18
  obtain ⟨-, cb, hcb, r2, -⟩ := hp.2.2 b hgb0
  have hsz : sd.toInt < cb.slots.size := by
    have := (r2.2.2 (by rw [hgb]; exact hS.2.1)).2.1
    rw [hgb] at this
    omega
  have hvs : vs = [.int cv, .int sd, .ref b] := by rw [e1, c1, List.map_cons, List.map_cons, List.map_cons, List.map_nil, ec, es, eb]
  rw [hvs]
  have hls : lv_has ls nL [(0, .ref a), (1, .int cv)] := by
    rw [c2] at hloc
    simp only [List.map_cons, List.map_nil, ea, ec] at hloc
    exact hloc
  refine zq_say_w hx hb hkt hdj hAT hg hpk hM hS d9 d10 d11 d12 d15 d16 d17 hp hl hga hca h25 hgb hcb s1 hsz (by omega) hhi.2 hls (fun H2 locs2 hp2 ev2 hz2 eb2 ea2 hl2 => ?_)
  have hF1 := zk_F_st [] (zk_F_ev (keep := true) hkt hF ev2 (fun _ => hz2))
  have hL1 : zk_LS n0 v0 nL ls [] v (zk_st (zk_ex KT [(kS, 0), (kM, 25)] x true) []) := zk_LS_st (stk' := []) (zk_LS_ex hL) (fun q hq => absurd hq List.not_mem_nil)
  have hs1 : (sd + 1).toInt = sd.toInt + 1 := by
    rw [Int32.toInt_add, show (1 : Int32).toInt = 1 from rfl, Int.bmod_eq_of_le (by omega) (by omega)]
  have hn1 : (zk_st (zk_ex KT [(kS, 0), (kM, 25)] x true) []).1 = x.1 := rfl
  have hup := zk_F_up (w := .int (sd + 1)) (stk' := []) (t := (0, 1, 420)) (rs := [(x.1, 2, 1), (2, x.1, -1)]) (ms := []) hF1 (zk_tv_int (by omega) (by omega)) (fun q hq => by
      rw [hn1]
      simp only [List.mem_cons, List.not_mem_nil, or_false] at hq
      rcases hq with rfl | rfl
      · refine ⟨Nat.lt_succ_self _, Nat.lt_succ_of_lt l2, ?_⟩
        show zk_i (zk_up v x.1 (.int (sd + 1)) x.1) ≤ zk_i (zk_up v x.1 (.int (sd + 1)) 2) + 1
        rw [zk_up_at, zk_up_lt l2, es]
        show (sd + 1).toInt ≤ sd.toInt + 1
        omega
      · refine ⟨Nat.lt_succ_of_lt l2, Nat.lt_succ_self _, ?_⟩
        show zk_i (zk_up v x.1 (.int (sd + 1)) 2) ≤ zk_i (zk_up v x.1 (.int (sd + 1)) x.1) + -1
        rw [zk_up_at, zk_up_lt l2, es]
        show sd.toInt ≤ (sd + 1).toInt + -1
        omega) (fun q hq => absurd hq List.not_mem_nil)
  have hLu := zk_LS_st (stk' := []) (zk_LS_up (w := .int (sd + 1)) (stk' := []) (t := (0, 1, 420)) (rs := [(x.1, 2, 1), (2, x.1, -1)]) (ms := []) hL1 (fun q hq => absurd hq List.not_mem_nil)) (fun q hq => absurd hq List.not_mem_nil)
  refine kk a b cv sd cell cb H2 locs2 ea ec es hga hca h25 h18 hgb hcb s1 s2 hsz ea2 eb2 hp2 ev2 hl2 (zk_F_af (zk_F_st [] hup) (fun q hq => ?_) (fun q hq => absurd hq List.not_mem_nil) (fun q hq => absurd hq List.not_mem_nil)) (zk_LS_af hLu)
  rw [List.mem_singleton.mp hq]
  refine ⟨Nat.lt_succ_of_lt l0, Nat.lt_succ_self _, zk_fl_mk ⟨a, _, ?_, hg0, by rw [hga]; exact hM.2.1, ?_, ea2, ?_⟩⟩
  · show zk_up v x.1 _ 0 = _; rw [zk_up_lt l0]; exact ea
  · rw [hga]; exact zk_lt_len hM.2.2.2.2.1
  · rw [hsl]
    show _ = some (zk_up v x.1 (.int (sd + 1)) x.1)
    rw [zk_up_at]
    exact Cell.slots_setSlot_self _ (k2_hasslot h25)
end ZV
end
