/-! RULES, by hand, 5: its last words -/
theorem zq_ar9 (n : Int32) {N : Nat} (hn : n.toInt = (N : Int)) (hN : N ≤ 19) : n + 1 - 1 = n := by
  obtain ⟨-, -, -, h, -⟩ := zq_ru2 hn hN
  exact Int32.toInt_inj.mp h
section ZR7
variable {p : Program} {l : Launch} {e : Env} {R : Room} {s : State} {m : MethodId} {args : Array Value} {below : List Frame} {meth : Method} {c : Code} {Q : State → Prop} {KT : List zk_K} {D : zk_D} {base : Nat} {Hb : Heap} {n0 nL : Nat} {v0 : Nat → Value} {E : List (Nat × Nat)} {G0 : Nat → Nat} {H0 : Heap} {cc : ByteArray}
variable {cells slots : Nat}
/-- an int field of the object is written -/
theorem zq_put (hx : p.tables.exec = Jvm.exec) (hb : c.code = cc) (hdj : zk_dj KT D) {kM ci i f pc : Nat} {t : zk_T} (hpk : zk_pok p l e R s m args below meth c Q D cc i ci f 0) (hM0 : kM ≠ 0) (hM1 : (zk_kd KT kM).1 = 0) (hM2 : (zk_kd KT kM).2.1 = ci) (hMr : (zk_kd KT kM).2.2.2.2.2.2.2 = 0) (hMi : (zk_kd KT kM).2.2.2.2.2.1 = []) (ht : (zk_kd KT kM).2.2.1[f]? = some t) (ht0 : t.1 = 0) {G : Nat → Nat} {H : Heap} {locs : List Loc} {ls : Array Slot} {a : Nat} {cell : Cell} {w old : Int32} {rv : List Value} (hp : zk_hp KT D base Hb G H) (hl : ∀ q ∈ locs, base ≤ q.base) (hga : G a = kM) (hca : H[a]? = some cell) (hold : cell.slots[D.2.1 ci f]? = some (.int old)) (w1 : t.2.1 ≤ w.toInt) (w2 : w.toInt ≤ t.2.2) (d : decode cc pc = .ok (.putfield i, 3))
    (kk : ∀ (H1 : Heap) (locs1 : List Loc), zk_hp KT D base Hb G H1 → zk_ev KT D [(kM, f)] G H G H1 → H1.size = H.size → H1[a]? = some (cell.setSlot (D.2.1 ci f) (.int w)) → (∀ q : Nat, q ≠ a → H1[q]? = H[q]?) → (∀ q ∈ locs1, base ≤ q.base) → W p l e R s m args below meth c H1 locs1 cells slots Q (F0 m (pc + 3) ls rv)) : W p l e R s m args below meth c H locs cells slots Q (F0 m pc ls (.int w :: .ref a :: rv)) := by
  obtain ⟨-, cl, x1, x2, -⟩ := hp.2.2 a (by rw [hga]; exact hM0)
  rw [hca] at x1; cases x1
  have hcla := (x2.2.1 (by rw [hga]; exact hM1)).1
  rw [hga, hM2] at hcla
  have hvm : cell.vm = .none := x2.1.2 (by rw [hga]; exact hMr)
  refine hpk hca hcla hvm hold (⟨w, rfl⟩ : zk_fv 0 (.int w)) d (fun H1 f1 f2 f3 => ?_)
  have f1' : H1[a]? = some (cell.setSlot (zk_sl KT D (G a) f) (.int w)) := by unfold zk_sl; rw [hga, hM2]; exact f1
  have hty : zk_tv G (.int w) t := by unfold zk_tv; rw [if_pos ht0]; exact ⟨w, rfl, w1, w2⟩
  obtain ⟨hp1, ev1, -, hb1⟩ := zk_hp_put hdj hp (by rw [hga]; exact hM0) (by rw [hga]; exact hM1) (by rw [hga]; exact hMr) hca (by rw [hga]; exact ht) (w := .int w) ⟨hty, fun z => by rw [ht0] at z; cases z⟩ (fun q hq => by rw [hga, hMi] at hq; exact absurd hq List.not_mem_nil) f1' f2 f3
  rw [hga] at ev1
  exact kk H1 _ hp1 ev1 f2 f1 f3 (zk_locs hl hb1)
set_option maxHeartbeats 1000000 in
theorem zq_ru_t2 (hx : p.tables.exec = Jvm.exec) (hb : c.code = cc) (hkt : zk_kt KT) (hdj : zk_dj KT D) {kM ci iZ iR N : Nat} {t9 : zk_T} (hpZ : zk_pok p l e R s m args below meth c Q D cc iZ ci 9 0) (hgR : zk_gok p l e R s m args below meth c Q D cc iR ci 26) (hpR : zk_pok p l e R s m args below meth c Q D cc iR ci 26 0) (hM0 : kM ≠ 0) (hM1 : (zk_kd KT kM).1 = 0) (hM2 : (zk_kd KT kM).2.1 = ci) (hMr : (zk_kd KT kM).2.2.2.2.2.2.2 = 0) (hMi : (zk_kd KT kM).2.2.2.2.2.1 = []) (ht9 : (zk_kd KT kM).2.2.1[9]? = some t9) (h9 : t9.1 = 0 ∧ t9.2.1 ≤ 0 ∧ 0 ≤ t9.2.2) (ht26 : (zk_kd KT kM).2.2.1[26]? = some (0, 0, 20)) (hne : D.2.1 ci 9 ≠ D.2.1 ci 26)
    (d155 : decode cc 155 = .ok (.aload_n 0, 1)) (d156 : decode cc 156 = .ok (.iconst 0, 1)) (d157 : decode cc 157 = .ok (.putfield iZ, 3)) (d160 : decode cc 160 = .ok (.aload_n 0, 1)) (d161 : decode cc 161 = .ok (.dup, 1)) (d162 : decode cc 162 = .ok (.getfield iR, 3)) (d165 : decode cc 165 = .ok (.iconst 1, 1)) (d166 : decode cc 166 = .ok (.iadd, 1)) (d167 : decode cc 167 = .ok (.putfield iR, 3)) (d170 : decode cc 170 = .ok (.aload_n 0, 1)) (d171 : decode cc 171 = .ok (.getfield iR, 3)) (d174 : decode cc 174 = .ok (.iconst 1, 1)) (d175 : decode cc 175 = .ok (.isub, 1))
    {G : Nat → Nat} {H0 H : Heap} {a bc bt : Nat} {cell cc1 ct1 : Cell} {locs : List Loc} {ls : Array Slot} {lv : List (Nat × Value)} {n z9 : Int32} (hga : G a = kM) (hz : cell.slots[D.2.1 ci 9]? = some (.int z9)) (h26 : cell.slots[D.2.1 ci 26]? = some (.int n)) (hn : n.toInt = (N : Int)) (hN : N ≤ 19) (e9 : zk_sb [(kM, 9)] E = true) (e26 : zk_sb [(kM, 26)] E = true) (q1 : bc ≠ a) (q2 : bt ≠ a) (hS : zq_rs KT D base Hb E G H0 a bc bt cell cc1 ct1 H locs) (hls : lv_has ls nL lv) {ip : Nat} (ha : lv[ip]? = some (0, .ref a))
    (kk : ∀ (H1 : Heap) (locs1 : List Loc), zq_rs KT D base Hb E G H0 a bc bt ((cell.setSlot (D.2.1 ci 9) (.int 0)).setSlot (D.2.1 ci 26) (.int (n + 1))) cc1 ct1 H1 locs1 → W p l e R s m args below meth c H1 locs1 cells slots Q (F0 m 176 ls [.int n])) : W p l e R s m args below meth c H locs cells slots Q (F0 m 155 ls []) := by
  obtain ⟨hp, g2, g3, g4, g5, g6, hl⟩ := hS
  obtain ⟨m1, m2, m3, -, -, -, -, -⟩ := zq_ru2 hn hN
  refine lv_aload_n hx hb d155 rfl (lv_at hls ip ha) (lv_iconst (v := 0) hx hb d156 rfl ?_)
  refine zq_put hx hb hdj hpZ hM0 hM1 hM2 hMr hMi ht9 h9.1 hp hl hga g4 hz h9.2.1 h9.2.2 d157 (fun H1 locs1 hp1 he1 hz1 e1 eo1 hl1 => ?_)
  have s26 : (cell.setSlot (D.2.1 ci 9) (.int 0)).slots[D.2.1 ci 26]? = some (.int n) := by rw [slot_ne _ _ hne]; exact h26
  obtain ⟨-, cl, x1, x2, -⟩ := hp1.2.2 a (by rw [hga]; exact hM0)
  rw [e1] at x1; cases x1
  have hcla := (x2.2.1 (by rw [hga]; exact hM1)).1
  rw [hga, hM2] at hcla
  refine lv_aload_n hx hb d160 rfl (lv_at hls ip ha) (lv_dup hx hb d161 rfl (hgR e1 hcla x2.1.1 s26 d162 ?_))
  refine lv_iconst (v := 1) hx hb d165 rfl (lv_iadd hx hb d166 ?_)
  refine zq_put hx hb hdj hpR hM0 hM1 hM2 hMr hMi ht26 rfl hp1 hl1 hga e1 s26 m2 m3 d167 (fun H2 locs2 hp2 he2 hz2 e2 eo2 hl2 => ?_)
  have s26' : ((cell.setSlot (D.2.1 ci 9) (.int 0)).setSlot (D.2.1 ci 26) (.int (n + 1))).slots[D.2.1 ci 26]? = some (.int (n + 1)) := Cell.slots_setSlot_self _ (k2_hasslot s26)
  obtain ⟨-, cl, x1, x3, -⟩ := hp2.2.2 a (by rw [hga]; exact hM0)
  rw [e2] at x1; cases x1
  have hcla2 := (x3.2.1 (by rw [hga]; exact hM1)).1
  rw [hga, hM2] at hcla2
  refine lv_aload_n hx hb d170 rfl (lv_at hls ip ha) (hgR e2 hcla2 x3.1.1 s26' d171 ?_)
  refine lv_iconst (v := 1) hx hb d174 rfl (lv_isub hx hb d175 ?_)
  rw [zq_ar9 n hn hN]
  exact kk H2 locs2 ⟨hp2, zk_ev_tr hkt g2 (zk_ev_tr hkt (zk_ev_sb e9 he1) (zk_ev_sb e26 he2)), hz2.trans (hz1.trans g3), e2, by rw [eo2 bc q1, eo1 bc q1]; exact g5, by rw [eo2 bt q2, eo1 bt q2]; exact g6, hl2⟩
end ZR7
