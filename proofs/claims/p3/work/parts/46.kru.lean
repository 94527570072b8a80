/-! RULES, by hand, 3: the stores behind the copying -/
noncomputable section
section ZR5
variable {p : Program} {l : Launch} {e : Env} {R : Room} {s : State} {m : MethodId} {args : Array Value} {below : List Frame} {meth : Method} {c : Code} {Q : State → Prop} {KT : List zk_K} {D : zk_D} {base : Nat} {Hb : Heap} {n0 nL : Nat} {v0 : Nat → Value} {E : List (Nat × Nat)} {G0 : Nat → Nat} {H0 : Heap} {cc : ByteArray}
variable {cells slots : Nat}
/-- what stands while the last words are being done -/
def zq_rs (KT : List zk_K) (D : zk_D) (base : Nat) (Hb : Heap) (E : List (Nat × Nat)) (G : Nat → Nat) (H0 : Heap) (a bc bt : Nat) (cell cc1 ct1 : Cell) (H : Heap) (locs : List Loc) : Prop :=
  zk_hp KT D base Hb G H ∧ zk_ev KT D E G H0 G H ∧ H.size = H0.size ∧ H[a]? = some cell ∧ H[bc]? = some cc1 ∧ H[bt]? = some ct1 ∧ ∀ q ∈ locs, base ≤ q.base
theorem zq_rs_st {KT : List zk_K} {D : zk_D} {base : Nat} {Hb : Heap} {E : List (Nat × Nat)} {G : Nat → Nat} {H0 H H1 : Heap} {a bc bt bx kX : Nat} {cell cc1 ct1 : Cell} {locs locs1 : List Loc} (hkt : zk_kt KT) (h : zq_rs KT D base Hb E G H0 a bc bt cell cc1 ct1 H locs) (hp1 : zk_hp KT D base Hb G H1) (he1 : zk_ev KT D [(kX, 0)] G H G H1) (hz1 : H1.size = H.size) (eo : ∀ q : Nat, q ≠ bx → H1[q]? = H[q]?) (hl1 : ∀ q ∈ locs1, base ≤ q.base) (hE : zk_sb [(kX, 0)] E = true) (na : a ≠ bx) (nc : bc ≠ bx) (nt : bt ≠ bx) : zq_rs KT D base Hb E G H0 a bc bt cell cc1 ct1 H1 locs1 := by
  obtain ⟨-, g2, g3, g4, g5, g6, -⟩ := h
  exact ⟨hp1, zk_ev_tr hkt g2 (zk_ev_sb hE he1), hz1.trans g3, by rw [eo a na]; exact g4, by rw [eo bc nc]; exact g5, by rw [eo bt nt]; exact g6, hl1⟩
theorem zq_ru_sg (hx : p.tables.exec = Jvm.exec) (hb : c.code = cc) (hkt : zk_kt KT) (hAT : ArrOfT s (D.2.2.1 0) .int) {kM kX ci f iX iR pc N : Nat} {lo hi : Int} (hgX : zk_gok p l e R s m args below meth c Q D cc iX ci f) (hgR : zk_gok p l e R s m args below meth c Q D cc iR ci 26) (hX : zq_r20 KT kX lo hi) (hM0 : kM ≠ 0) (hM1 : (zk_kd KT kM).1 = 0) (hM2 : (zk_kd KT kM).2.1 = ci) {jv : Fin 4}
    (d0 : decode cc pc = .ok (.aload_n 0, 1)) (d1 : decode cc (pc + 1) = .ok (.getfield iX, 3)) (d2 : decode cc (pc + 1 + 3) = .ok (.aload_n 0, 1)) (d3 : decode cc (pc + 1 + 3 + 1) = .ok (.getfield iR, 3)) (d4 : decode cc (pc + 1 + 3 + 1 + 3) = .ok (.iload_n jv, 1)) (d5 : decode cc (pc + 1 + 3 + 1 + 3 + 1) = .ok (.iastore, 1))
    {G : Nat → Nat} {H0 H : Heap} {a bc bt bx ip iv : Nat} {cell cc1 ct1 : Cell} {locs : List Loc} {ls : Array Slot} {lv : List (Nat × Value)} {n w : Int32} (hS : zq_rs KT D base Hb E G H0 a bc bt cell cc1 ct1 H locs) (hga : G a = kM) (hgx : G bx = kX) (hf : cell.slots[D.2.1 ci f]? = some (.ref bx)) (h26 : cell.slots[D.2.1 ci 26]? = some (.int n)) (hn : n.toInt = (N : Int)) (hN : N ≤ 19) (w1 : lo ≤ w.toInt) (w2 : w.toInt ≤ hi) (hE : zk_sb [(kX, 0)] E = true) (nc : bc ≠ bx) (nt : bt ≠ bx) (hls : lv_has ls nL lv) (ha : lv[ip]? = some (0, .ref a)) (hv : lv[iv]? = some ((jv : Nat), .int w))
    (kk : ∀ (H1 : Heap) (locs1 : List Loc), zq_rs KT D base Hb E G H0 a bc bt cell cc1 ct1 H1 locs1 → W p l e R s m args below meth c H1 locs1 cells slots Q (F0 m (pc + 1 + 3 + 1 + 3 + 1 + 1) ls [])) : W p l e R s m args below meth c H locs cells slots Q (F0 m pc ls []) := by
  obtain ⟨hp, g2, g3, g4, g5, g6, hl⟩ := hS
  obtain ⟨-, cl, r1, r2, -⟩ := hp.2.2 a (by rw [hga]; exact hM0)
  rw [g4] at r1; cases r1
  have hcla := (r2.2.1 (by rw [hga]; exact hM1)).1
  rw [hga, hM2] at hcla
  have na : a ≠ bx := fun e => by rw [← e, hga] at hgx; rw [← hgx] at hX; exact hX.1.2.1 hM1
  refine lv_aload_n hx hb d0 rfl (lv_at hls ip ha) (hgX g4 hcla r2.1.1 hf d1 ?_)
  refine lv_aload_n hx hb d2 rfl (lv_at hls ip ha) (hgR g4 hcla r2.1.1 h26 d3 ?_)
  refine lv_iload_n hx hb d4 rfl (lv_at hls iv hv) ?_
  exact zq_ru_st (kM := kM) (ci := ci) (f := f) (a := a) (cell := cell) hx hb hAT hp hl hX hgx hn hN w1 w2 d5 (fun H1 locs1 cx _ hp1 he1 hz1 _ _ eo hl1 => kk H1 locs1 (zq_rs_st hkt ⟨hp, g2, g3, g4, g5, g6, hl⟩ hp1 he1 hz1 eo hl1 hE na nc nt))
end ZR5
end
