/-! RULES, by hand, 2: from the copying to the end -/
noncomputable section
/-- a kind: a row of booleans -/
def zq_zow (KT : List zk_K) (k : Nat) : Prop := k ≠ 0 ∧ (zk_kd KT k).1 ≠ 0 ∧ (zk_kd KT k).2.1 = 2 ∧ (zk_kd KT k).2.2.2.2.2.2.2 = 0 ∧ (zk_kd KT k).2.2.2.2.2.1 = [] ∧ (zk_kd KT k).2.2.1[0]? = some (0, 0, 1)
section ZB2
variable {p : Program} {l : Launch} {e : Env} {R : Room} {s : State} {m : MethodId} {args : Array Value} {below : List Frame} {meth : Method} {c : Code} {Q : State → Prop} {KT : List zk_K} {D : zk_D} {base : Nat} {Hb : Heap} {n0 nL : Nat} {v0 : Nat → Value} {E : List (Nat × Nat)} {G0 : Nat → Nat} {H0 : Heap} {cc : ByteArray}
variable {cells slots pc : Nat} {ls : Array Slot} {rv : List Value}
theorem zq_zst (hx : p.tables.exec = Jvm.exec) (hb : c.code = cc) (hAT : ArrOfT s (D.2.2.1 2) .boolean) {k b : Nat} {cb : Cell} {i w : Int32} {G : Nat → Nat} {H : Heap} {locs : List Loc} (hp : zk_hp KT D base Hb G H) (hl : ∀ q ∈ locs, base ≤ q.base) (hk : zq_zow KT k) (hg : G b = k) (hc : H[b]? = some cb) (h0 : 0 ≤ i.toInt) (h1 : i.toInt < cb.slots.size) (hw1 : 0 ≤ w.toInt) (hw2 : w.toInt ≤ 1) (d : decode cc pc = .ok (.bastore, 1))
    (kk : ∀ (H1 : Heap) (locs1 : List Loc), zk_hp KT D base Hb G H1 → zk_ev KT D [(k, 0)] G H G H1 → H1.size = H.size → H1[b]? = some (cb.setSlot i.toNatClampNeg (.int w)) → (∀ q : Nat, q ≠ b → H1[q]? = H[q]?) → (∀ q ∈ locs1, base ≤ q.base) → W p l e R s m args below meth c H1 locs1 cells slots Q (F0 m (pc + 1) ls rv)) : W p l e R s m args below meth c H locs cells slots Q (F0 m pc ls (.int w :: .int i :: .ref b :: rv)) := by
  obtain ⟨k1, k2, k3, k4, k5, k6⟩ := hk
  obtain ⟨-, cb', r1, r2, -⟩ := hp.2.2 b (by rw [hg]; exact k1)
  rw [hc] at r1; cases r1
  obtain ⟨a1, -, -, -⟩ := r2.2.2 (by rw [hg]; exact k2)
  rw [hg, k3] at a1
  have hn := zq_nc h0
  have hlt : i.toNatClampNeg < cb.slots.size := by rw [← hn] at h1; exact Int.ofNat_lt.mp h1
  refine W.zast hx hb hc (zk_isa hAT a1 r2.1.1) (zk_unk r2.1.1) (zq_ix h0 h1) rfl rfl d (fun H1 e1 e2 e3 => ?_)
  rw [zk_nb hw1 hw2] at e1
  have hct : zk_ct G b (.int w) (0, 0, 1) := ⟨zk_tv_int hw1 hw2, fun z => by cases z⟩
  obtain ⟨hp1, ev1, hbb, -⟩ := zk_hp_arr hp (by rw [hg]; exact k1) (by rw [hg]; exact k2) (by rw [hg]; exact k4) (by rw [hg]; exact k5) hc (by rw [hg]; exact k6) hlt (w := .int w) hct (fun z => by cases z) e1 e2 e3
  rw [hg] at ev1
  exact kk H1 _ hp1 ev1 e2 e1 e3 (zk_locs hl hbb)
end ZB2
/-- the rows that stand, and the newest -/
theorem zq_ru_all {cb cc cc1 ct ct1 : Cell} {N S : Nat} {n sd : Int32} (hcp : zq_cp cb cc cc1 (420 * N) S) (hn : n.toInt = (N : Int)) (hN : N ≤ 19) (hs : sd.toInt = (S : Int)) (hS : S ≤ 420) (hsz : (8400 : Int) ≤ cc1.slots.size) (hrun : zq_run 0 (zq_seg cb 0 S) = 0) (htN : ct1.slots[N]? = some (.int sd)) (hto : ∀ j : Nat, j ≠ N → ct1.slots[j]? = ct.slots[j]?) (hold : ∀ r : Nat, (r : Int) < n.toInt → ∃ t : Int32, ct.slots[r]? = some (.int t) ∧ 0 ≤ t.toInt ∧ t.toInt ≤ 420 ∧ 420 * r + 420 ≤ cc.slots.size ∧ zq_run 0 (zq_seg cc (420 * r) t.toInt.toNat) = 0) : ∀ r : Nat, (r : Int) < n.toInt + 1 → ∃ t : Int32, ct1.slots[r]? = some (.int t) ∧ 0 ≤ t.toInt ∧ t.toInt ≤ 420 ∧ 420 * r + 420 ≤ cc1.slots.size ∧ zq_run 0 (zq_seg cc1 (420 * r) t.toInt.toNat) = 0 := by
  obtain ⟨g1, g2, g3⟩ := hcp
  intro r hr
  by_cases e : r = N
  · subst e
    refine ⟨sd, htN, by omega, by omega, by omega, ?_⟩
    rw [hs, show ((S : Int)).toNat = S from rfl, zq_seg_ext (c2 := cb) (o2 := 0) (fun i hi => by rw [Nat.zero_add]; exact g3 i hi)]
    exact hrun
  · obtain ⟨t, t1, t2, t3, t4, t5⟩ := hold r (by omega)
    refine ⟨t, by rw [hto r e]; exact t1, t2, t3, by omega, ?_⟩
    rw [zq_seg_ext (c2 := cc) (o2 := 420 * r) (fun i hi => g2 _ (by omega))]
    exact t5
theorem zq_ru2 {n : Int32} {N : Nat} (hn : n.toInt = (N : Int)) (hN : N ≤ 19) : (n + 1).toInt = n.toInt + 1 ∧ 0 ≤ (n + 1).toInt ∧ (n + 1).toInt ≤ 20 ∧ (n + 1 - 1).toInt = n.toInt ∧ 0 ≤ n.toInt ∧ n.toInt ≤ 19 ∧ n.toNatClampNeg = N ∧ n.toInt < 20 := by
  have e1 : (n + 1).toInt = n.toInt + 1 := by
    rw [Int32.toInt_add, show (1 : Int32).toInt = 1 from rfl]
    exact Int.bmod_eq_of_le (by omega) (by omega)
  have e2 : (n + 1 - 1).toInt = (n + 1).toInt - 1 := by
    rw [Int32.toInt_sub, show (1 : Int32).toInt = 1 from rfl]
    exact Int.bmod_eq_of_le (by omega) (by omega)
  have k2 := zq_nc (i := n) (by omega)
  omega
theorem zq_ru3 {x : Int} {sz : Nat} (h : x < 20) (h2 : (20 : Int) ≤ sz) : x < sz := by omega
section ZR4
variable {p : Program} {l : Launch} {e : Env} {R : Room} {s : State} {m : MethodId} {args : Array Value} {below : List Frame} {meth : Method} {c : Code} {Q : State → Prop} {KT : List zk_K} {D : zk_D} {base : Nat} {Hb : Heap} {n0 nL : Nat} {v0 : Nat → Value} {E : List (Nat × Nat)} {G0 : Nat → Nat} {H0 : Heap} {cc : ByteArray}
variable {cells slots : Nat}
/-- a row of ints that has 20 places, and takes lo .. hi -/
def zq_r20 (KT : List zk_K) (k : Nat) (lo hi : Int) : Prop := zq_row KT k ∧ (20 : Int) ≤ (zk_kd KT k).2.2.2.1 ∧ ∃ t, (zk_kd KT k).2.2.1[0]? = some t ∧ t.2.1 ≤ lo ∧ hi ≤ t.2.2
/-- the object's fields that a change of two of them leaves -/
theorem zq_set2 {cell : Cell} {i j f : Nat} {u w : Value} (h1 : j ≠ f) (h2 : i ≠ f) : ((cell.setSlot i u).setSlot j w).slots[f]? = cell.slots[f]? := by rw [slot_ne _ _ h1, slot_ne _ _ h2]
/-- one store into a row of the object, at the place that rules says -/
theorem zq_ru_st (hx : p.tables.exec = Jvm.exec) (hb : c.code = cc) (hAT : ArrOfT s (D.2.2.1 0) .int) {kM kX ci f N pc : Nat} {lo hi : Int} {G : Nat → Nat} {H : Heap} {locs : List Loc} {ls : Array Slot} {a bx : Nat} {cell : Cell} {n w : Int32} (hp : zk_hp KT D base Hb G H) (hl : ∀ q ∈ locs, base ≤ q.base) (hX : zq_r20 KT kX lo hi) (hgx : G bx = kX) (hn : n.toInt = (N : Int)) (hN : N ≤ 19) (w1 : lo ≤ w.toInt) (w2 : w.toInt ≤ hi) (d : decode cc pc = .ok (.iastore, 1))
    (kk : ∀ (H1 : Heap) (locs1 : List Loc) (cx : Cell), H[bx]? = some cx → zk_hp KT D base Hb G H1 → zk_ev KT D [(kX, 0)] G H G H1 → H1.size = H.size → H1[bx]? = some (cx.setSlot N (.int w)) → N < cx.slots.size → (∀ q : Nat, q ≠ bx → H1[q]? = H[q]?) → (∀ q ∈ locs1, base ≤ q.base) → W p l e R s m args below meth c H1 locs1 cells slots Q (F0 m (pc + 1) ls [])) : W p l e R s m args below meth c H locs cells slots Q (F0 m pc ls [.int w, .int n, .ref bx]) := by
  obtain ⟨hrow, hlen, t, ht, t1, t2⟩ := hX
  obtain ⟨-, -, -, -, n0, n19, nc, n20⟩ := zq_ru2 hn hN
  obtain ⟨-, cx, hcx, -, -⟩ := hp.2.2 bx (by rw [hgx]; exact hrow.1)
  obtain ⟨-, -, sz1, -⟩ := zq_cls hp hrow hgx hcx
  have hlt := zq_ru3 n20 (Int.le_trans hlen sz1)
  refine zq_ist hx hb hAT (t := t) hp hl hrow hgx hcx n0 hlt ht (Int.le_trans t1 w1) (Int.le_trans w2 t2) d (fun H1 locs1 hp1 he1 hz1 e1 eo hl1 => ?_)
  rw [nc] at e1
  exact kk H1 locs1 cx hcx hp1 he1 hz1 e1 (by rw [hn] at hlt; exact Int.ofNat_lt.mp hlt) eo hl1
end ZR4
end
