/-! GHOSTS: what the rows of codes say, read as a stack machine's program -/
noncomputable section
/-- behind one more code: 0 a label is due; 1000 + h the condition with h values on the pile, 2000 + h behind a 0, 3000 + h behind a 1; 4000 + h the value, 5000 + h, 6000 + h; -1 not well formed -/
def zq_ex (b h c : Int) : Int :=
  if c = 0 then b + 1000 + h
  else if c = 1 then b + 2000 + h
  else if c = 2 then (if b = 1000 ∧ h = 1 then 4000 else -1)
  else if c = 3 then (if b = 4000 ∧ h = 1 then 0 else -1)
  else if c = 33 then (if 1 ≤ h then b + h else -1)
  else (if 2 ≤ h then b + h - 1 else -1)
def zq_st (a c : Int) : Int :=
  if a < 0 then -1
  else if a = 0 then 1000
  else if 1000 ≤ a ∧ a < 1200 then zq_ex 1000 (a - 1000) c
  else if 2000 ≤ a ∧ a < 2199 then a - 999
  else if 3000 ≤ a ∧ a < 3199 ∧ 0 ≤ c ∧ c ≤ 127 then a - 1999
  else if 4000 ≤ a ∧ a < 4200 then zq_ex 4000 (a - 4000) c
  else if 5000 ≤ a ∧ a < 5199 then a - 999
  else if 6000 ≤ a ∧ a < 6199 ∧ 0 ≤ c ∧ c ≤ 127 then a - 1999
  else -1
def zq_run (a : Int) (l : List Int) : Int := l.foldl zq_st a
theorem zq_run_add (a : Int) (l m : List Int) : zq_run a (l ++ m) = zq_run (zq_run a l) m := List.foldl_append
theorem zq_run_one (a : Int) (l : List Int) (c : Int) : zq_run a (l ++ [c]) = zq_st (zq_run a l) c := by rw [zq_run_add]; rfl
theorem zq_st_neg {a c : Int} (h : a < 0) : zq_st a c = -1 := if_pos h
theorem zq_run_neg {a : Int} (h : a < 0) : ∀ l : List Int, zq_run a l < 0
  | [] => h
  | c :: l => by
    show zq_run (zq_st a c) l < 0
    exact zq_run_neg (by rw [zq_st_neg h]; decide) l
/-- n values of a row from o on -/
def zq_seg (cell : Cell) (o n : Nat) : List Int := ((cell.slots.toList.drop o).take n).map zk_i
theorem zq_seg_len {cell : Cell} {o n : Nat} (h : o + n ≤ cell.slots.size) : (zq_seg cell o n).length = n := by
  unfold zq_seg
  rw [List.length_map, List.length_take, List.length_drop, Array.length_toList]; omega
theorem zq_seg_get {cell : Cell} {o n i : Nat} (h : i < n) : (zq_seg cell o n)[i]? = (cell.slots[o + i]?).map zk_i := by
  unfold zq_seg
  rw [List.getElem?_map, List.getElem?_take_of_lt h, List.getElem?_drop, Array.getElem?_toList]
theorem zq_seg_ext {c1 c2 : Cell} {o1 o2 n : Nat} (h : ∀ i, i < n → c1.slots[o1 + i]? = c2.slots[o2 + i]?) : zq_seg c1 o1 n = zq_seg c2 o2 n := by
  refine List.ext_getElem? fun i => ?_
  by_cases hi : i < n
  · rw [zq_seg_get hi, zq_seg_get hi, h i hi]
  · have e : ∀ c : Cell, ∀ o : Nat, (zq_seg c o n)[i]? = none := fun c o => List.getElem?_eq_none (by
      unfold zq_seg
      rw [List.length_map, List.length_take]; omega)
    rw [e, e]
theorem zq_seg_one {cell : Cell} {o n : Nat} {w : Value} (h : cell.slots[o + n]? = some w) : zq_seg cell o (n + 1) = zq_seg cell o n ++ [zk_i w] := by
  have hl : o + n < cell.slots.size := (Array.getElem?_eq_some_iff.mp h).1
  refine List.ext_getElem? fun i => ?_
  by_cases hi : i < n
  · rw [zq_seg_get (by omega), List.getElem?_append_left (by rw [zq_seg_len (by omega)]; exact hi), zq_seg_get hi]
  · by_cases hi2 : i = n
    · subst hi2
      rw [zq_seg_get (by omega), List.getElem?_append_right (by rw [zq_seg_len (by omega)]; exact Nat.le_refl _), zq_seg_len (by omega), Nat.sub_self, h]
      rfl
    · rw [List.getElem?_eq_none (by rw [zq_seg_len (by omega)]; omega), List.getElem?_eq_none (by rw [List.length_append, zq_seg_len (by omega), List.length_singleton]; omega)]
theorem zq_seg_add {cell : Cell} {o n m : Nat} : zq_seg cell o (n + m) = zq_seg cell o n ++ zq_seg cell (o + n) m := by
  unfold zq_seg
  rw [← List.map_append, List.take_add, List.drop_drop]
/-- what the ghosts of the reference's object stand for: kM its kind, kS the kind of saying, kC of codes, kT of textSize; ds the fields' slots -/
def zq_G1 (KT : List zk_K) (ds : Nat → Nat → Nat) (kM kS : Nat) (G : Nat → Nat) (H : Heap) (a : Nat) (cb : Cell) (s : Nat) : Prop :=
  ∃ (cell : Cell) (b : Nat) (n : Int32), G a = kM ∧ H[a]? = some cell ∧ cell.slots[ds (zk_kd KT kM).2.1 25]? = some (.int n) ∧ n.toInt = (s : Int) ∧ cell.slots[ds (zk_kd KT kM).2.1 18]? = some (.ref b) ∧ G b = kS ∧ H[b]? = some cb ∧ s ≤ cb.slots.size
/-- the state behind what has been said -/
def zq_1001 (KT : List zk_K) (ds : Nat → Nat → Nat) (kM kS : Nat) (G : Nat → Nat) (H : Heap) (a : Nat) (w : Value) : Prop :=
  ∃ (cb : Cell) (s : Nat) (z : Int32), zq_G1 KT ds kM kS G H a cb s ∧ w = .int z ∧ 0 ≤ z.toInt ∧ z.toInt = zq_run 0 (zq_seg cb 0 s)
/-- where the condition began that is being said -/
def zq_1004 (KT : List zk_K) (ds : Nat → Nat → Nat) (kM kS : Nat) (G : Nat → Nat) (H : Heap) (a : Nat) (w : Value) : Prop :=
  ∃ (cb : Cell) (s t : Nat) (z : Int32), zq_G1 KT ds kM kS G H a cb s ∧ w = .int z ∧ z.toInt = (t : Int) ∧ 1 ≤ t ∧ t ≤ s ∧ zq_run 0 (zq_seg cb 0 t) = 1000 ∧ ∀ j, j ≤ s - t → 1000 ≤ zq_run 1000 (zq_seg cb t j) ∧ zq_run 1000 (zq_seg cb t j) < 4000
/-- each row of codes below rules is well formed -/
def zq_1002 (KT : List zk_K) (ds : Nat → Nat → Nat) (kM kC kT : Nat) (G : Nat → Nat) (H : Heap) (a : Nat) (w : Value) : Prop :=
  ∃ (cell cc ct : Cell) (b b2 : Nat) (n z : Int32), w = .int z ∧ G a = kM ∧ H[a]? = some cell ∧ cell.slots[ds (zk_kd KT kM).2.1 26]? = some (.int n) ∧ cell.slots[ds (zk_kd KT kM).2.1 19]? = some (.ref b) ∧ G b = kC ∧ H[b]? = some cc ∧ cell.slots[ds (zk_kd KT kM).2.1 20]? = some (.ref b2) ∧ G b2 = kT ∧ H[b2]? = some ct ∧
    ∀ r : Nat, (r : Int) < n.toInt → ∃ t : Int32, ct.slots[r]? = some (.int t) ∧ 0 ≤ t.toInt ∧ t.toInt ≤ 420 ∧ 420 * r + 420 ≤ cc.slots.size ∧ zq_run 0 (zq_seg cc (420 * r) t.toInt.toNat) = 0
/-- the places picked are below w -/
def zq_1003 (KT : List zk_K) (ds : Nat → Nat → Nat) (kP kA : Nat) (G : Nat → Nat) (H : Heap) (a : Nat) (w : Value) : Prop :=
  ∃ (cell ca : Cell) (b : Nat) (n z : Int32), w = .int z ∧ G a = kP ∧ H[a]? = some cell ∧ cell.slots[ds (zk_kd KT kP).2.1 2]? = some (.int n) ∧ cell.slots[ds (zk_kd KT kP).2.1 1]? = some (.ref b) ∧ G b = kA ∧ H[b]? = some ca ∧
    ∀ j : Nat, (j : Int) < n.toInt → ∃ q : Int32, ca.slots[j]? = some (.int q) ∧ 0 ≤ q.toInt ∧ q.toInt < z.toInt
def zq_gh (KT : List zk_K) (ds : Nat → Nat → Nat) (kM kS kC kT kP kA : Nat) (f : Nat) (G : Nat → Nat) (H : Heap) (a : Nat) (w : Value) : Prop :=
  if f = 1001 then zq_1001 KT ds kM kS G H a w else if f = 1002 then zq_1002 KT ds kM kC kT G H a w else if f = 1003 then zq_1003 KT ds kP kA G H a w else if f = 1004 then zq_1004 KT ds kM kS G H a w else if f = 1005 then zq_1005 ds G H a w else False
/-- what a change leaves alone -/
theorem zq_gu {KT : List zk_K} {E : List (Nat × Nat)} {f k h : Nat} (hu : zk_gu KT E f = true) (hm : (f, k, h) ∈ (zk_kd KT 0).2.2.2.2.2.1) : zk_wr KT E k h = false ∧ zk_me E k 1000 = false := by
  have := List.all_eq_true.mp hu _ hm
  dsimp only at this
  rw [Nat.beq_refl] at this
  simpa using this
theorem zq_obj {KT : List zk_K} {D : zk_D} {E : List (Nat × Nat)} {G G' : Nat → Nat} {H H' : Heap} (he : zk_ev KT D E G H G' H') {a k : Nat} {cell : Cell} (hg : G a = k) (hk : k ≠ 0) (hs : (zk_kd KT k).1 = 0) (hc : H[a]? = some cell) (hm : zk_me E k 1000 = false) : G' a = k ∧ ∃ cell', H'[a]? = some cell' ∧ ∀ f, f < (zk_kd KT k).2.2.1.length → zk_wr KT E k f = false → cell'.slots[D.2.1 (zk_kd KT k).2.1 f]? = cell.slots[D.2.1 (zk_kd KT k).2.1 f]? := by
  subst hg
  refine ⟨?_, ?_⟩
  · rcases he.2.2.1 a hk with e | ⟨e, -⟩
    · exact e
    · rw [hm] at e; cases e
  · obtain ⟨c', q, w⟩ := he.2.2.2 a cell hk hc
    exact ⟨c', q, fun f hf hw => w.2.1 hs f hf hw⟩
theorem zq_arr {KT : List zk_K} {D : zk_D} {E : List (Nat × Nat)} {G G' : Nat → Nat} {H H' : Heap} (he : zk_ev KT D E G H G' H') {a k : Nat} {cell : Cell} (hg : G a = k) (hk : k ≠ 0) (hs : (zk_kd KT k).1 ≠ 0) (hc : H[a]? = some cell) (hw : zk_wr KT E k 0 = false) (hm : zk_me E k 1000 = false) : G' a = k ∧ ∃ cell', H'[a]? = some cell' ∧ cell'.slots = cell.slots := by
  subst hg
  refine ⟨?_, ?_⟩
  · rcases he.2.2.1 a hk with e | ⟨e, -⟩
    · exact e
    · rw [hm] at e; cases e
  · obtain ⟨c', q, w⟩ := he.2.2.2 a cell hk hc
    exact ⟨c', q, (w.2.2 hs).1 hw⟩
theorem zq_seg_slots {c1 c2 : Cell} (h : c1.slots = c2.slots) (o n : Nat) : zq_seg c1 o n = zq_seg c2 o n := by unfold zq_seg; rw [h]
section ZQ
variable {KT : List zk_K} {D : zk_D} {kM kS kC kT kP kA : Nat} {G : Nat → Nat} {H : Heap} {a : Nat} {w : Value}
/-- the guards that must stand in the kind 0 -/
def zq_gs1 (KT : List zk_K) (kM kS f : Nat) : Prop := kM ≠ 0 ∧ kS ≠ 0 ∧ (zk_kd KT kM).1 = 0 ∧ (zk_kd KT kS).1 ≠ 0 ∧ 26 < (zk_kd KT kM).2.2.1.length ∧ (f, kS, 0) ∈ (zk_kd KT 0).2.2.2.2.2.1 ∧ (f, kM, 25) ∈ (zk_kd KT 0).2.2.2.2.2.1 ∧ (f, kM, 18) ∈ (zk_kd KT 0).2.2.2.2.2.1
theorem zq_G1_ev {f : Nat} (hs : zq_gs1 KT kM kS f) {E : List (Nat × Nat)} {G' : Nat → Nat} {H' : Heap} (hu : zk_gu KT E f = true) (he : zk_ev KT D E G H G' H') {cb : Cell} {s : Nat} (h : zq_G1 KT D.2.1 kM kS G H a cb s) : ∃ cb', zq_G1 KT D.2.1 kM kS G' H' a cb' s ∧ cb'.slots = cb.slots := by
  obtain ⟨cell, b, n, h1, h2, h3, h4, h5, h6, h7, h8⟩ := h
  obtain ⟨s1, s2, s3, s4, s5, g1, g2, g3⟩ := hs
  obtain ⟨w1, m1⟩ := zq_gu hu g1
  obtain ⟨w2, m2⟩ := zq_gu hu g2
  obtain ⟨w3, -⟩ := zq_gu hu g3
  obtain ⟨e1, c', e2, e3⟩ := zq_obj he h1 s1 s3 h2 m2
  obtain ⟨e4, cb', e5, e6⟩ := zq_arr he h6 s2 s4 h7 w1 m1
  exact ⟨cb', ⟨c', b, n, e1, e2, by rw [e3 25 (by omega) w2]; exact h3, h4, by rw [e3 18 (by omega) w3]; exact h5, e4, e5, by rw [e6]; exact h8⟩, e6⟩
theorem zq_1001_ev (hs : zq_gs1 KT kM kS 1001) {E : List (Nat × Nat)} {G' : Nat → Nat} {H' : Heap} (hu : zk_gu KT E 1001 = true) (he : zk_ev KT D E G H G' H') (h : zq_1001 KT D.2.1 kM kS G H a w) : zq_1001 KT D.2.1 kM kS G' H' a w := by
  obtain ⟨cb, s, z, h1, h2, h3, h4⟩ := h
  obtain ⟨cb', i1, i2⟩ := zq_G1_ev hs hu he h1
  exact ⟨cb', s, z, i1, h2, h3, by rw [zq_seg_slots i2]; exact h4⟩
theorem zq_1004_ev (hs : zq_gs1 KT kM kS 1004) {E : List (Nat × Nat)} {G' : Nat → Nat} {H' : Heap} (hu : zk_gu KT E 1004 = true) (he : zk_ev KT D E G H G' H') (h : zq_1004 KT D.2.1 kM kS G H a w) : zq_1004 KT D.2.1 kM kS G' H' a w := by
  obtain ⟨cb, s, t, z, h1, h2, h3, h4, h5, h6, h7⟩ := h
  obtain ⟨cb', i1, i2⟩ := zq_G1_ev hs hu he h1
  exact ⟨cb', s, t, z, i1, h2, h3, h4, h5, by rw [zq_seg_slots i2]; exact h6, fun j hj => by rw [zq_seg_slots i2]; exact h7 j hj⟩
def zq_gs2 (KT : List zk_K) (kM kC kT : Nat) : Prop := kM ≠ 0 ∧ kC ≠ 0 ∧ kT ≠ 0 ∧ (zk_kd KT kM).1 = 0 ∧ (zk_kd KT kC).1 ≠ 0 ∧ (zk_kd KT kT).1 ≠ 0 ∧ 26 < (zk_kd KT kM).2.2.1.length ∧ (1002, kC, 0) ∈ (zk_kd KT 0).2.2.2.2.2.1 ∧ (1002, kT, 0) ∈ (zk_kd KT 0).2.2.2.2.2.1 ∧ (1002, kM, 26) ∈ (zk_kd KT 0).2.2.2.2.2.1 ∧ (1002, kM, 19) ∈ (zk_kd KT 0).2.2.2.2.2.1 ∧ (1002, kM, 20) ∈ (zk_kd KT 0).2.2.2.2.2.1
theorem zq_1002_ev (hs : zq_gs2 KT kM kC kT) {E : List (Nat × Nat)} {G' : Nat → Nat} {H' : Heap} (hu : zk_gu KT E 1002 = true) (he : zk_ev KT D E G H G' H') (h : zq_1002 KT D.2.1 kM kC kT G H a w) : zq_1002 KT D.2.1 kM kC kT G' H' a w := by
  obtain ⟨cell, cc, ct, b, b2, n, z, h1, h2, h3, h4, h5, h6, h7, h8, h9, h10, h11⟩ := h
  obtain ⟨s1, s2, s2b, s3, s4, s4b, s5, g1, g2, g3, g4, g5⟩ := hs
  obtain ⟨w1, m1⟩ := zq_gu hu g1
  obtain ⟨w2, m2⟩ := zq_gu hu g2
  obtain ⟨w3, m3⟩ := zq_gu hu g3
  obtain ⟨w4, -⟩ := zq_gu hu g4
  obtain ⟨w5, -⟩ := zq_gu hu g5
  obtain ⟨e1, c', e2, e3⟩ := zq_obj he h2 s1 s3 h3 m3
  obtain ⟨e4, cc', e5, e6⟩ := zq_arr he h6 s2 s4 h7 w1 m1
  obtain ⟨e7, ct', e8, e9⟩ := zq_arr he h9 s2b s4b h10 w2 m2
  refine ⟨c', cc', ct', b, b2, n, z, h1, e1, e2, by rw [e3 26 (by omega) w3]; exact h4, by rw [e3 19 (by omega) w4]; exact h5, e4, e5, by rw [e3 20 (by omega) w5]; exact h8, e7, e8, fun r hr => ?_⟩
  obtain ⟨t, t1, t2, t3, t4, t5⟩ := h11 r hr
  exact ⟨t, by rw [e9]; exact t1, t2, t3, by rw [e6]; exact t4, by rw [zq_seg_slots e6]; exact t5⟩
def zq_gs3 (KT : List zk_K) (kP kA : Nat) : Prop := kP ≠ 0 ∧ kA ≠ 0 ∧ (zk_kd KT kP).1 = 0 ∧ (zk_kd KT kA).1 ≠ 0 ∧ 2 < (zk_kd KT kP).2.2.1.length ∧ (1003, kA, 0) ∈ (zk_kd KT 0).2.2.2.2.2.1 ∧ (1003, kP, 2) ∈ (zk_kd KT 0).2.2.2.2.2.1 ∧ (1003, kP, 1) ∈ (zk_kd KT 0).2.2.2.2.2.1
theorem zq_1003_ev (hs : zq_gs3 KT kP kA) {E : List (Nat × Nat)} {G' : Nat → Nat} {H' : Heap} (hu : zk_gu KT E 1003 = true) (he : zk_ev KT D E G H G' H') (h : zq_1003 KT D.2.1 kP kA G H a w) : zq_1003 KT D.2.1 kP kA G' H' a w := by
  obtain ⟨cell, ca, b, n, z, h1, h2, h3, h4, h5, h6, h7, h8⟩ := h
  obtain ⟨s1, s2, s3, s4, s5, g1, g2, g3⟩ := hs
  obtain ⟨w1, m1⟩ := zq_gu hu g1
  obtain ⟨w2, m2⟩ := zq_gu hu g2
  obtain ⟨w3, -⟩ := zq_gu hu g3
  obtain ⟨e1, c', e2, e3⟩ := zq_obj he h2 s1 s3 h3 m2
  obtain ⟨e4, ca', e5, e6⟩ := zq_arr he h6 s2 s4 h7 w1 m1
  exact ⟨c', ca', b, n, z, h1, e1, e2, by rw [e3 2 (by omega) w2]; exact h4, by rw [e3 1 (by omega) w3]; exact h5, e4, e5, fun j hj => by rw [e6]; exact h8 j hj⟩
/-- the ghosts of the state are these -/
def zq_all (KT : List zk_K) (D : zk_D) (kM kS kC kT kP kA : Nat) : Prop := zq_gs1 KT kM kS 1001 ∧ zq_gs1 KT kM kS 1004 ∧ zq_gs2 KT kM kC kT ∧ zq_gs3 KT kP kA ∧ D.2.2.2.2.2 = zq_gh KT D.2.1 kM kS kC kT kP kA
theorem zq_mk1 (hA : zq_all KT D kM kS kC kT kP kA) (h : zq_1001 KT D.2.1 kM kS G H a w) : zk_gh KT D G H a 1001 w := fun E G' H' hu he => by
  rw [hA.2.2.2.2]; exact zq_1001_ev hA.1 hu he h
theorem zq_mk4 (hA : zq_all KT D kM kS kC kT kP kA) (h : zq_1004 KT D.2.1 kM kS G H a w) : zk_gh KT D G H a 1004 w := fun E G' H' hu he => by
  rw [hA.2.2.2.2]; exact zq_1004_ev hA.2.1 hu he h
theorem zq_mk2 (hA : zq_all KT D kM kS kC kT kP kA) (h : zq_1002 KT D.2.1 kM kC kT G H a w) : zk_gh KT D G H a 1002 w := fun E G' H' hu he => by
  rw [hA.2.2.2.2]; exact zq_1002_ev hA.2.2.1 hu he h
theorem zq_mk3 (hA : zq_all KT D kM kS kC kT kP kA) (h : zq_1003 KT D.2.1 kP kA G H a w) : zk_gh KT D G H a 1003 w := fun E G' H' hu he => by
  rw [hA.2.2.2.2]; exact zq_1003_ev hA.2.2.2.1 hu he h
theorem zq_at1 (hA : zq_all KT D kM kS kC kT kP kA) (h : zk_gh KT D G H a 1001 w) : zq_1001 KT D.2.1 kM kS G H a w := by
  have := zk_gh_at h; rw [hA.2.2.2.2] at this; exact this
theorem zq_at2 (hA : zq_all KT D kM kS kC kT kP kA) (h : zk_gh KT D G H a 1002 w) : zq_1002 KT D.2.1 kM kC kT G H a w := by
  have := zk_gh_at h; rw [hA.2.2.2.2] at this; exact this
theorem zq_at3 (hA : zq_all KT D kM kS kC kT kP kA) (h : zk_gh KT D G H a 1003 w) : zq_1003 KT D.2.1 kP kA G H a w := by
  have := zk_gh_at h; rw [hA.2.2.2.2] at this; exact this
theorem zq_at4 (hA : zq_all KT D kM kS kC kT kP kA) (h : zk_gh KT D G H a 1004 w) : zq_1004 KT D.2.1 kM kS G H a w := by
  have := zk_gh_at h; rw [hA.2.2.2.2] at this; exact this
end ZQ
end
