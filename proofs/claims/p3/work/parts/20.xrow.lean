/-! BY HAND: rows of ints, read and written -/
noncomputable section
/-- a kind: a row of ints, at least lo long -/
def zq_row (KT : List zk_K) (k : Nat) : Prop := k ≠ 0 ∧ (zk_kd KT k).1 ≠ 0 ∧ (zk_kd KT k).2.1 = 0 ∧ (zk_kd KT k).2.2.2.2.2.2.2 = 0 ∧ (zk_kd KT k).2.2.2.2.2.1 = [] ∧ ∃ t, (zk_kd KT k).2.2.1[0]? = some t ∧ t.1 = 0
theorem zq_row_S {KT : List zk_K} {k : Nat} (h : zq_kS KT k) : zq_row KT k := ⟨h.1, h.2.1, h.2.2.1, h.2.2.2.1, h.2.2.2.2.1, zk_I, h.2.2.2.2.2, rfl⟩
theorem zq_nc {i : Int32} (h : 0 ≤ i.toInt) : (i.toNatClampNeg : Int) = i.toInt := by rw [Int32.toNatClampNeg]; omega
theorem zq_ix {i : Int32} {n : Nat} (h0 : 0 ≤ i.toInt) (h1 : i.toInt < n) : ¬ (i < 0 ∨ n ≤ i.toNatClampNeg) := by
  have := zq_nc h0
  intro q
  rcases q with q | q
  · have q := Int32.lt_iff_toInt_lt.mp q
    rw [show (0 : Int32).toInt = 0 from rfl] at q
    omega
  · omega
theorem zq_el {KT : List zk_K} {D : zk_D} {base : Nat} {Hb : Heap} {G : Nat → Nat} {H : Heap} {k b : Nat} {cb : Cell} (hp : zk_hp KT D base Hb G H) (hk : zq_row KT k) (hg : G b = k) (hc : H[b]? = some cb) {j : Nat} (hj : j < cb.slots.size) : ∃ (q : Int32) (t : zk_T), cb.slots[j]? = some (.int q) ∧ (zk_kd KT k).2.2.1[0]? = some t ∧ t.2.1 ≤ q.toInt ∧ q.toInt ≤ t.2.2 := by
  obtain ⟨k1, k2, k3, k4, k5, t, k6, k7⟩ := hk
  obtain ⟨-, cb', r1, r2, -⟩ := hp.2.2 b (by rw [hg]; exact k1)
  rw [hc] at r1; cases r1
  have := (r2.2.2 (by rw [hg]; exact k2)).2.2.2 t (by rw [hg]; exact k6) j _ (Array.getElem?_eq_getElem hj)
  obtain ⟨q, q1, q2, q3⟩ := zk_gi this.1 k7
  exact ⟨q, t, by rw [Array.getElem?_eq_getElem hj, q1], k6, q2, q3⟩
theorem zq_cls {KT : List zk_K} {D : zk_D} {base : Nat} {Hb : Heap} {G : Nat → Nat} {H : Heap} {k b : Nat} {cb : Cell} (hp : zk_hp KT D base Hb G H) (hk : zq_row KT k) (hg : G b = k) (hc : H[b]? = some cb) : cb.cls = D.2.2.1 0 ∧ zk_vk cb ∧ (zk_kd KT k).2.2.2.1 ≤ (cb.slots.size : Int) ∧ (cb.slots.size : Int) ≤ (zk_kd KT k).2.2.2.2.1 := by
  obtain ⟨k1, k2, k3, k4, k5, t, k6, k7⟩ := hk
  obtain ⟨-, cb', r1, r2, -⟩ := hp.2.2 b (by rw [hg]; exact k1)
  rw [hc] at r1; cases r1
  obtain ⟨a1, a2, a3, -⟩ := r2.2.2 (by rw [hg]; exact k2)
  rw [hg] at a1 a2 a3
  rw [k3] at a1
  exact ⟨a1, r2.1.1, a2, a3⟩
section ZB
variable {p : Program} {l : Launch} {e : Env} {R : Room} {s : State} {m : MethodId} {args : Array Value} {below : List Frame} {meth : Method} {c : Code} {Q : State → Prop} {KT : List zk_K} {D : zk_D} {base : Nat} {Hb : Heap} {n0 nL : Nat} {v0 : Nat → Value} {E : List (Nat × Nat)} {G0 : Nat → Nat} {H0 : Heap} {cc : ByteArray}
variable {cells slots pc : Nat} {ls : Array Slot} {rv : List Value}
theorem zq_ild (hx : p.tables.exec = Jvm.exec) (hb : c.code = cc) (hAT : ArrOfT s (D.2.2.1 0) .int) {k b : Nat} {cb : Cell} {i : Int32} {G : Nat → Nat} {H : Heap} {locs : List Loc} (hp : zk_hp KT D base Hb G H) (hk : zq_row KT k) (hg : G b = k) (hc : H[b]? = some cb) (h0 : 0 ≤ i.toInt) (h1 : i.toInt < cb.slots.size) (d : decode cc pc = .ok (.iaload, 1))
    (kk : ∀ (q : Int32) (t : zk_T), cb.slots[i.toNatClampNeg]? = some (.int q) → (zk_kd KT k).2.2.1[0]? = some t → t.2.1 ≤ q.toInt → q.toInt ≤ t.2.2 → W p l e R s m args below meth c H locs cells slots Q (F0 m (pc + 1) ls (.int q :: rv))) : W p l e R s m args below meth c H locs cells slots Q (F0 m pc ls (.int i :: .ref b :: rv)) := by
  obtain ⟨a1, a2, -, -⟩ := zq_cls hp hk hg hc
  have hn := zq_nc h0
  obtain ⟨q, t, q1, q2, q3, q4⟩ := zq_el hp hk hg hc (j := i.toNatClampNeg) (by omega)
  exact W.iald hx hb hc (zk_isa hAT a1 a2) (zk_unk a2) (zq_ix h0 h1) q1 rfl rfl d (kk q t q1 q2 q3 q4)
theorem zq_ist (hx : p.tables.exec = Jvm.exec) (hb : c.code = cc) (hAT : ArrOfT s (D.2.2.1 0) .int) {k b : Nat} {cb : Cell} {i w : Int32} {G : Nat → Nat} {H : Heap} {locs : List Loc} {t : zk_T} (hp : zk_hp KT D base Hb G H) (hl : ∀ q ∈ locs, base ≤ q.base) (hk : zq_row KT k) (hg : G b = k) (hc : H[b]? = some cb) (h0 : 0 ≤ i.toInt) (h1 : i.toInt < cb.slots.size) (ht : (zk_kd KT k).2.2.1[0]? = some t) (hw1 : t.2.1 ≤ w.toInt) (hw2 : w.toInt ≤ t.2.2) (d : decode cc pc = .ok (.iastore, 1))
    (kk : ∀ (H1 : Heap) (locs1 : List Loc), zk_hp KT D base Hb G H1 → zk_ev KT D [(k, 0)] G H G H1 → H1.size = H.size → H1[b]? = some (cb.setSlot i.toNatClampNeg (.int w)) → (∀ q : Nat, q ≠ b → H1[q]? = H[q]?) → (∀ q ∈ locs1, base ≤ q.base) → W p l e R s m args below meth c H1 locs1 cells slots Q (F0 m (pc + 1) ls rv)) : W p l e R s m args below meth c H locs cells slots Q (F0 m pc ls (.int w :: .int i :: .ref b :: rv)) := by
  obtain ⟨a1, a2, -, -⟩ := zq_cls hp hk hg hc
  have hn := zq_nc h0
  obtain ⟨k1, k2, k3, k4, k5, t', k6, k7⟩ := hk
  rw [ht] at k6; cases k6
  refine W.iast hx hb hc (zk_isa hAT a1 a2) (zk_unk a2) (zq_ix h0 h1) rfl rfl d (fun H1 e1 e2 e3 => ?_)
  have hct : zk_ct G b (.int w) t := ⟨by unfold zk_tv; rw [if_pos k7]; exact ⟨w, rfl, hw1, hw2⟩, fun z => by rw [k7] at z; cases z⟩
  obtain ⟨hp1, ev1, hbb, -⟩ := zk_hp_arr hp (by rw [hg]; exact k1) (by rw [hg]; exact k2) (by rw [hg]; exact k4) (by rw [hg]; exact k5) hc (by rw [hg]; exact ht) (by omega : i.toNatClampNeg < cb.slots.size) (w := .int w) hct (fun z => by cases z) e1 e2 e3
  rw [hg] at ev1
  exact kk H1 _ hp1 ev1 e2 e1 e3 (zk_locs hl hbb)
end ZB
/-! THE SHIFT: a sum's codes, said as a condition's, are a value's -/
theorem zq_sh {c a : Int} (h1 : 1000 ≤ a) (h2 : a < 4000) (h3 : 1000 ≤ zq_st a c) (h4 : zq_st a c < 4000) : zq_st (a + 3000) c = zq_st a c + 3000 := by
  obtain ⟨r, hr⟩ : ∃ r, zq_st a c = r := ⟨_, rfl⟩
  rw [hr] at h3 h4 ⊢
  unfold zq_st zq_ex at hr ⊢
  repeat' split at hr
  all_goals (first | omega | skip)
  all_goals (repeat' split)
  all_goals omega
theorem zq_run_sh : ∀ (l : List Int) (a : Int), (∀ j, j ≤ l.length → 1000 ≤ zq_run a (l.take j) ∧ zq_run a (l.take j) < 4000) → zq_run (a + 3000) l = zq_run a l + 3000
  | [], a, _ => rfl
  | c :: l, a, h => by
    have h0 := h 0 (Nat.zero_le _)
    have h1 := h 1 (by rw [List.length_cons]; omega)
    have e1 : zq_run a ((c :: l).take 1) = zq_st a c := rfl
    rw [e1] at h1
    have e0 : zq_run a ((c :: l).take 0) = a := rfl
    rw [e0] at h0
    show zq_run (zq_st (a + 3000) c) l = zq_run (zq_st a c) l + 3000
    rw [zq_sh h0.1 h0.2 h1.1 h1.2]
    exact zq_run_sh l (zq_st a c) fun j hj => h (j + 1) (by rw [List.length_cons]; omega)
theorem zq_seg_take {cell : Cell} {o n j : Nat} (h : j ≤ n) : (zq_seg cell o n).take j = zq_seg cell o j := by
  unfold zq_seg
  rw [← List.map_take, List.take_take, Nat.min_eq_left h]
/-- behind the shift three codes stand before the sum -/
theorem zq_shifted {cb cb' : Cell} {s t : Nat} {z : Int} (hs : s ≤ cb.slots.size) (hs' : s + 3 ≤ cb'.slots.size) (hts : t ≤ s) (h1 : zq_run 0 (zq_seg cb 0 t) = 1000) (h2 : ∀ j, j ≤ s - t → 1000 ≤ zq_run 1000 (zq_seg cb t j) ∧ zq_run 1000 (zq_seg cb t j) < 4000) (hz : z = zq_run 0 (zq_seg cb 0 s))
    (e0 : ∀ j, j < t → cb'.slots[j]? = cb.slots[j]?) (e1 : cb'.slots[t]? = some (.int 0)) (e2 : cb'.slots[t + 1]? = some (.int 1)) (e3 : cb'.slots[t + 2]? = some (.int 2)) (e4 : ∀ j, t ≤ j → j < s → cb'.slots[j + 3]? = cb.slots[j]?) : zq_run 0 (zq_seg cb' 0 (s + 3)) = z + 3000 := by
  have a1 : s + 3 = t + (1 + (1 + (1 + (s - t)))) := by omega
  have b0 : zq_seg cb' 0 t = zq_seg cb 0 t := zq_seg_ext fun i hi => by rw [Nat.zero_add]; exact e0 i hi
  have b4 : zq_seg cb' (t + 1 + 1 + 1) (s - t) = zq_seg cb t (s - t) := zq_seg_ext fun i hi => by
    rw [show t + 1 + 1 + 1 + i = (t + i) + 3 by omega]; exact e4 (t + i) (by omega) (by omega)
  have one : ∀ (o : Nat) (w : Int32), cb'.slots[o]? = some (.int w) → zq_seg cb' o 1 = [w.toInt] := fun o w h => by
    have := zq_seg_one (cell := cb') (o := o) (n := 0) (w := .int w) h
    have e0 : zq_seg cb' o 0 = [] := List.eq_nil_of_length_eq_zero (zq_seg_len (by have := (Array.getElem?_eq_some_iff.mp h).1; omega))
    rw [e0] at this
    exact this
  rw [a1, zq_seg_add, zq_seg_add, zq_seg_add, zq_seg_add, Nat.zero_add, b0, b4, one t 0 e1, one (t + 1) 1 e2, one (t + 1 + 1) 2 e3, zq_run_add, h1, zq_run_add, zq_run_add, zq_run_add]
  have c1 : zq_run (zq_run (zq_run 1000 [(0 : Int32).toInt]) [(1 : Int32).toInt]) [(2 : Int32).toInt] = 1000 + 3000 := by decide
  rw [c1, zq_run_sh _ 1000 (fun j hj => ?_)]
  · rw [hz, show zq_seg cb 0 s = zq_seg cb 0 (t + (s - t)) from by rw [Nat.add_sub_cancel' hts], zq_seg_add, zq_run_add, h1, Nat.zero_add]
  · rw [zq_seg_len (by omega)] at hj
    rw [zq_seg_take hj]
    exact h2 j hj
end
