/-! RULES, by hand, 4: the stores, one behind another -/
section ZR6
variable {p : Program} {l : Launch} {e : Env} {R : Room} {s : State} {m : MethodId} {args : Array Value} {below : List Frame} {meth : Method} {c : Code} {Q : State → Prop} {KT : List zk_K} {D : zk_D} {base : Nat} {Hb : Heap} {n0 nL : Nat} {v0 : Nat → Value} {E : List (Nat × Nat)} {G0 : Nat → Nat} {H0 : Heap} {cc : ByteArray}
variable {cells slots : Nat}
set_option maxHeartbeats 1000000 in
theorem zq_ru_t1 (hx : p.tables.exec = Jvm.exec) (hb : c.code = cc) (hkt : zk_kt KT) (hAT : ArrOfT s (D.2.2.1 0) .int) (hAZ : ArrOfT s (D.2.2.1 2) .boolean) {kM kC kT kO kL kF kU ci iT iO iL iF iU iN iR iD N S : Nat} {lo1 hi1 lo3 hi3 loN hiN : Int} (hgT : zk_gok p l e R s m args below meth c Q D cc iT ci 20) (hgO : zk_gok p l e R s m args below meth c Q D cc iO ci 21) (hgL : zk_gok p l e R s m args below meth c Q D cc iL ci 22) (hgF : zk_gok p l e R s m args below meth c Q D cc iF ci 23) (hgU : zk_gok p l e R s m args below meth c Q D cc iU ci 24) {fN : Nat} (hgN : zk_gok p l e R s m args below meth c Q D cc iN ci fN) (hgR : zk_gok p l e R s m args below meth c Q D cc iR ci 26) (hgD : zk_gok p l e R s m args below meth c Q D cc iD ci 25)
    {loT hiT : Int} (hT : zq_r20 KT kT loT hiT) (hO : zq_r20 KT kO lo1 hi1) (hL : zq_zow KT kL) (hLl : (20 : Int) ≤ (zk_kd KT kL).2.2.2.1) (hFr : zq_r20 KT kF lo3 hi3) (hU : zq_r20 KT kU loN hiN) (hM0 : kM ≠ 0) (hM1 : (zk_kd KT kM).1 = 0) (hM2 : (zk_kd KT kM).2.1 = ci) (hC1 : (zk_kd KT kC).1 ≠ 0)
    (d99 : decode cc 99 = .ok (.aload_n 0, 1)) (d100 : decode cc 100 = .ok (.getfield iT, 3)) (d103 : decode cc 103 = .ok (.aload_n 0, 1)) (d104 : decode cc 104 = .ok (.getfield iR, 3)) (d107 : decode cc 107 = .ok (.aload_n 0, 1)) (d108 : decode cc 108 = .ok (.getfield iD, 3)) (d111 : decode cc 111 = .ok (.iastore, 1))
    (d112 : decode cc 112 = .ok (.aload_n 0, 1)) (d113 : decode cc 113 = .ok (.getfield iO, 3)) (d116 : decode cc 116 = .ok (.aload_n 0, 1)) (d117 : decode cc 117 = .ok (.getfield iR, 3)) (d120 : decode cc 120 = .ok (.iload_n 1, 1)) (d121 : decode cc 121 = .ok (.iastore, 1))
    (d122 : decode cc 122 = .ok (.aload_n 0, 1)) (d123 : decode cc 123 = .ok (.getfield iL, 3)) (d126 : decode cc 126 = .ok (.aload_n 0, 1)) (d127 : decode cc 127 = .ok (.getfield iR, 3)) (d130 : decode cc 130 = .ok (.iload_n 2, 1)) (d131 : decode cc 131 = .ok (.bastore, 1))
    (d132 : decode cc 132 = .ok (.aload_n 0, 1)) (d133 : decode cc 133 = .ok (.getfield iF, 3)) (d136 : decode cc 136 = .ok (.aload_n 0, 1)) (d137 : decode cc 137 = .ok (.getfield iR, 3)) (d140 : decode cc 140 = .ok (.iload_n 3, 1)) (d141 : decode cc 141 = .ok (.iastore, 1))
    (d142 : decode cc 142 = .ok (.aload_n 0, 1)) (d143 : decode cc 143 = .ok (.getfield iU, 3)) (d146 : decode cc 146 = .ok (.aload_n 0, 1)) (d147 : decode cc 147 = .ok (.getfield iR, 3)) (d150 : decode cc 150 = .ok (.aload_n 0, 1)) (d151 : decode cc 151 = .ok (.getfield iN, 3)) (d154 : decode cc 154 = .ok (.iastore, 1))
    {G : Nat → Nat} {H0 H : Heap} {a bc bt bo bl bf bu : Nat} {cell cc1 ct : Cell} {locs : List Loc} {ls : Array Slot} {n sd o1 o2 o3 nw i4 : Int32} (hga : G a = kM) (hgc : G bc = kC) (hgt : G bt = kT) (hgo : G bo = kO) (hgl : G bl = kL) (hgf : G bf = kF) (hgu : G bu = kU) (h20 : cell.slots[D.2.1 ci 20]? = some (.ref bt)) (h21 : cell.slots[D.2.1 ci 21]? = some (.ref bo)) (h22 : cell.slots[D.2.1 ci 22]? = some (.ref bl)) (h23 : cell.slots[D.2.1 ci 23]? = some (.ref bf)) (h24 : cell.slots[D.2.1 ci 24]? = some (.ref bu)) (h25 : cell.slots[D.2.1 ci 25]? = some (.int sd)) (h26 : cell.slots[D.2.1 ci 26]? = some (.int n)) (hN27 : cell.slots[D.2.1 ci fN]? = some (.int nw)) (hn : n.toInt = (N : Int)) (hN : N ≤ 19) (s0 : loT ≤ sd.toInt) (s1 : sd.toInt ≤ hiT) (w1 : lo1 ≤ o1.toInt) (w2 : o1.toInt ≤ hi1) (z1 : 0 ≤ o2.toInt) (z2 : o2.toInt ≤ 1) (v1 : lo3 ≤ o3.toInt) (v2 : o3.toInt ≤ hi3) (u1 : loN ≤ nw.toInt) (u2 : nw.toInt ≤ hiN)
    (eT : zk_sb [(kT, 0)] E = true) (eO : zk_sb [(kO, 0)] E = true) (eL : zk_sb [(kL, 0)] E = true) (eF : zk_sb [(kF, 0)] E = true) (eU : zk_sb [(kU, 0)] E = true) (q1 : bc ≠ bt) (q2 : bc ≠ bo) (q3 : bc ≠ bl) (q4 : bc ≠ bf) (q5 : bc ≠ bu) (r2 : bt ≠ bo) (r3 : bt ≠ bl) (r4 : bt ≠ bf) (r5 : bt ≠ bu) (na : a ≠ bt) (nal : a ≠ bl) (nau : a ≠ bu)
    (hS : zq_rs KT D base Hb E G H0 a bc bt cell cc1 ct H locs) (hls : lv_has ls nL [(4, .int i4), (0, .ref a), (1, .int o1), (2, .int o2), (3, .int o3)])
    (kk : ∀ (H1 : Heap) (locs1 : List Loc) (ct1 : Cell), zq_rs KT D base Hb E G H0 a bc bt cell cc1 ct1 H1 locs1 → ct1.slots[N]? = some (.int sd) → (∀ j : Nat, j ≠ N → ct1.slots[j]? = ct.slots[j]?) → W p l e R s m args below meth c H1 locs1 cells slots Q (F0 m 155 ls [])) : W p l e R s m args below meth c H locs cells slots Q (F0 m 99 ls []) := by
  have obj : ∀ {H : Heap}, zk_hp KT D base Hb G H → H[a]? = some cell → cell.cls = D.1 ci ∧ zk_vk cell := fun {H} hp hc => by
    obtain ⟨-, cl, x1, x2, -⟩ := hp.2.2 a (by rw [hga]; exact hM0)
    rw [hc] at x1; cases x1
    have := (x2.2.1 (by rw [hga]; exact hM1)).1
    rw [hga, hM2] at this
    exact ⟨this, x2.1.1⟩
  obtain ⟨hp, g2, g3, g4, g5, g6, hl⟩ := hS
  obtain ⟨c1, c2⟩ := obj hp g4
  refine lv_aload_n hx hb d99 rfl (lv_at hls 1 rfl) (hgT g4 c1 c2 h20 d100 ?_)
  refine lv_aload_n hx hb d103 rfl (lv_at hls 1 rfl) (hgR g4 c1 c2 h26 d104 ?_)
  refine lv_aload_n hx hb d107 rfl (lv_at hls 1 rfl) (hgD g4 c1 c2 h25 d108 ?_)
  refine zq_ru_st (kM := kM) (ci := ci) (f := 20) (a := a) (cell := cell) hx hb hAT hp hl hT hgt hn hN s0 s1 d111 (fun H1 locs1 cx ecx hp1 he1 hz1 e1 hlt eo hl1 => ?_)
  rw [g6] at ecx; cases ecx
  have S1 : zq_rs KT D base Hb E G H0 a bc bt cell cc1 (ct.setSlot N (.int sd)) H1 locs1 := ⟨hp1, zk_ev_tr hkt g2 (zk_ev_sb eT he1), hz1.trans g3, by rw [eo a na]; exact g4, by rw [eo bc q1]; exact g5, e1, hl1⟩
  refine zq_ru_sg (f := 21) (ip := 1) (iv := 2) (jv := 1) hx hb hkt hAT hgO hgR hO hM0 hM1 hM2 d112 d113 d116 d117 d120 d121 S1 hga hgo h21 h26 hn hN w1 w2 eO q2 r2 hls rfl rfl (fun H2 locs2 S2 => ?_)
  obtain ⟨hp2, k2, k3, k4, k5, k6, hl2⟩ := S2
  obtain ⟨c3, c4⟩ := obj hp2 k4
  refine lv_aload_n hx hb d122 rfl (lv_at hls 1 rfl) (hgL k4 c3 c4 h22 d123 ?_)
  refine lv_aload_n hx hb d126 rfl (lv_at hls 1 rfl) (hgR k4 c3 c4 h26 d127 ?_)
  refine lv_iload_n hx hb d130 rfl (lv_at hls 3 rfl) ?_
  obtain ⟨-, -, -, -, n0, n19, nc, n20⟩ := zq_ru2 hn hN
  obtain ⟨-, cl, hcl, y2, -⟩ := hp2.2.2 bl (by rw [hgl]; exact hL.1)
  have szl := (y2.2.2 (by rw [hgl]; exact hL.2.1)).2.1
  rw [hgl] at szl
  refine zq_zst hx hb hAZ hp2 hl2 hL hgl hcl n0 (zq_ru3 n20 (Int.le_trans hLl szl)) z1 z2 d131 (fun H3 locs3 hp3 he3 hz3 e3 eo3 hl3 => ?_)
  have S3 := zq_rs_st hkt ⟨hp2, k2, k3, k4, k5, k6, hl2⟩ hp3 he3 hz3 eo3 hl3 eL nal q3 r3
  refine zq_ru_sg (f := 23) (ip := 1) (iv := 4) (jv := 3) hx hb hkt hAT hgF hgR hFr hM0 hM1 hM2 d132 d133 d136 d137 d140 d141 S3 hga hgf h23 h26 hn hN v1 v2 eF q4 r4 hls rfl rfl (fun H4 locs4 S4 => ?_)
  obtain ⟨hp4, t2, t3, t4, t5, t6, hl4⟩ := S4
  obtain ⟨c5, c6⟩ := obj hp4 t4
  refine lv_aload_n hx hb d142 rfl (lv_at hls 1 rfl) (hgU t4 c5 c6 h24 d143 ?_)
  refine lv_aload_n hx hb d146 rfl (lv_at hls 1 rfl) (hgR t4 c5 c6 h26 d147 ?_)
  refine lv_aload_n hx hb d150 rfl (lv_at hls 1 rfl) (hgN t4 c5 c6 hN27 d151 ?_)
  refine zq_ru_st (kM := kM) (ci := ci) (f := 24) (a := a) (cell := cell) hx hb hAT hp4 hl4 hU hgu hn hN u1 u2 d154 (fun H5 locs5 cx5 _ hp5 he5 hz5 _ _ eo5 hl5 => ?_)
  have S5 := zq_rs_st hkt ⟨hp4, t2, t3, t4, t5, t6, hl4⟩ hp5 he5 hz5 eo5 hl5 eU nau q5 r5
  exact kk H5 locs5 _ S5 (Cell.slots_setSlot_self _ hlt) (fun j hj => slot_ne _ _ (fun z => hj z.symm))
end ZR6
