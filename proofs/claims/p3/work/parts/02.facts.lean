/-! ENGINE, 1: symbols, types, facts. A state of the checker names values by symbols 0 .. n-1; a valuation v gives each its value. -/
noncomputable section
def zk_i : Value → Int
  | .int x => x.toInt
  | .long x => x.toInt
  | .ref a => (a : Int)
  | _ => -1
/-- a type: (0, lo, hi) an int, (1, lo, hi) a long, (2, kind, z) a reference of a kind (z ≠ 0: or null; z = 2: in a cell, of a lower address than the cell's own), else anything -/
abbrev zk_T : Type := Nat × Int × Int
def zk_tv (G : Nat → Nat) (v : Value) (t : zk_T) : Prop :=
  if t.1 = 0 then ∃ x : Int32, v = .int x ∧ t.2.1 ≤ x.toInt ∧ x.toInt ≤ t.2.2
  else if t.1 = 1 then ∃ x : Int64, v = .long x ∧ t.2.1 ≤ x.toInt ∧ x.toInt ≤ t.2.2
  else if t.1 = 2 then (∃ a : Nat, v = .ref a ∧ (G a : Int) = t.2.1 ∧ G a ≠ 0) ∨ (t.2.2 ≠ 0 ∧ v = .null)
  else True
/-- a kind: sort (0 object, 1 array), type or array tag, types (of the fields; of the elements), least and greatest length, invariants (tag, reference field, int field), the kind that it may become, read-only (1) -/
abbrev zk_K : Type := Nat × Nat × List zk_T × Int × Int × List (Nat × Nat × Nat) × Nat × Nat
def zk_K0 : zk_K := (9, 0, [], 0, 0, [], 0, 0)
def zk_kd (KT : List zk_K) (k : Nat) : zk_K := KT.getD k zk_K0
/-- n, locals, stack, types, x ≤ y + c, fields, lengths, non-null below x + c, others, the last made -/
abbrev zk_S : Type := Nat × List (Nat × Nat) × List Nat × List (Nat × zk_T) × List (Nat × Nat × Int) × List (Nat × Nat × Nat) × List (Nat × Nat) × List (Nat × Nat × Int) × List (Nat × Nat × Nat × Nat) × Option Nat
/-- type numbers, slots of fields, type numbers of arrays by tag, the one cell of a read-only kind -/
abbrev zk_D : Type := (Nat → ClassId) × (Nat → Nat → Nat) × (Nat → ClassId) × (Nat → Nat) × (Nat → Nat → Value) × (Nat → (Nat → Nat) → Heap → Nat → Value → Prop)
def zk_rl (n : Nat) (v : Nat → Value) (q : Nat × Nat × Int) : Prop := q.1 < n ∧ q.2.1 < n ∧ zk_i (v q.1) ≤ zk_i (v q.2.1) + q.2.2
def zk_sl (KT : List zk_K) (D : zk_D) (k f : Nat) : Nat := D.2.1 (zk_kd KT k).2.1 f
def zk_fin (KT : List zk_K) (k : Nat) : Nat := (zk_kd KT k).2.2.2.2.2.2.1
noncomputable def zk_any {α : Type} (l : List α) (p : α → Bool) : Bool := @List.rec α (fun _ => Bool) false (fun q _ ih => @Bool.rec (fun _ => Bool) ih true (p q)) l
theorem zk_any_eq {α : Type} {l : List α} {p p' : α → Bool} (h : ∀ q, p q = p' q) : zk_any l p = l.any p' := by
  induction l with
  | nil => rfl
  | cons q r ih =>
    show @Bool.rec (fun _ => Bool) (zk_any r p) true (p q) = (p' q || r.any p')
    rw [ih, h q]
    cases p' q <;> rfl
noncomputable def zk_me (E : List (Nat × Nat)) (k f : Nat) : Bool := zk_any E fun q => @Bool.rec (fun _ => Bool) false (Nat.beq q.2 f) (Nat.beq q.1 k)
theorem zk_me_eq (E : List (Nat × Nat)) (k f : Nat) : zk_me E k f = E.any fun q => Nat.beq q.1 k && Nat.beq q.2 f := zk_any_eq (fun q => by cases Nat.beq q.1 k <;> rfl)
def zk_wr (KT : List zk_K) (E : List (Nat × Nat)) (k f : Nat) : Bool := zk_me E k f || zk_me E (zk_fin KT k) f
def zk_ec (KT : List zk_K) (D : zk_D) (E : List (Nat × Nat)) (k : Nat) (cell cell' : Cell) : Prop :=
  cell'.slots.size = cell.slots.size ∧
  ((zk_kd KT k).1 = 0 → ∀ f, f < (zk_kd KT k).2.2.1.length → zk_wr KT E k f = false → cell'.slots[zk_sl KT D k f]? = cell.slots[zk_sl KT D k f]?) ∧
  ((zk_kd KT k).1 ≠ 0 → (zk_wr KT E k 0 = false → cell'.slots = cell.slots) ∧ ∀ j : Nat, cell.slots[j]? ≠ some .null → cell'.slots[j]? ≠ some .null)
def zk_ev (KT : List zk_K) (D : zk_D) (E : List (Nat × Nat)) (G : Nat → Nat) (H : Heap) (G' : Nat → Nat) (H' : Heap) : Prop :=
  H.size ≤ H'.size ∧ (∀ a : Nat, a < H.size → G a = 0 → G' a = 0 ∧ H'[a]? = H[a]?) ∧
  (∀ a : Nat, G a ≠ 0 → G' a = G a ∨ (zk_me E (G a) 1000 = true ∧ G' a = zk_fin KT (G a) ∧ G' a ≠ 0)) ∧
  ∀ (a : Nat) (cell : Cell), G a ≠ 0 → H[a]? = some cell → ∃ cell' : Cell, H'[a]? = some cell' ∧ zk_ec KT D E (G a) cell cell'
/-- a change that leaves alone what the ghost f of an object looks at (the guards stand in the kind 0) -/
def zk_gu (KT : List zk_K) (E : List (Nat × Nat)) (f : Nat) : Bool := (zk_kd KT 0).2.2.2.2.2.1.all fun q => !(Nat.beq q.1 f) || (!(zk_wr KT E q.2.1 q.2.2) && !(zk_me E q.2.1 1000))
/-- a ghost: what stands under every such change -/
def zk_gh (KT : List zk_K) (D : zk_D) (G : Nat → Nat) (H : Heap) (a f : Nat) (w : Value) : Prop :=
  ∀ (E : List (Nat × Nat)) (G' : Nat → Nat) (H' : Heap), zk_gu KT E f = true → zk_ev KT D E G H G' H' → D.2.2.2.2.2 f G' H' a w
def zk_fl (KT : List zk_K) (D : zk_D) (G : Nat → Nat) (H : Heap) (o : Value) (f : Nat) (w : Value) : Prop :=
  ∃ (a : Nat) (cell : Cell), o = .ref a ∧ G a ≠ 0 ∧ (zk_kd KT (G a)).1 = 0 ∧ H[a]? = some cell ∧ ((f < (zk_kd KT (G a)).2.2.1.length ∧ cell.slots[zk_sl KT D (G a) f]? = some w) ∨ (1000 ≤ f ∧ zk_gh KT D G H a f w))
theorem zk_fl_real {KT : List zk_K} {D : zk_D} {G : Nat → Nat} {H : Heap} {o : Value} {f : Nat} {w : Value} (h : zk_fl KT D G H o f w) (hf : Nat.blt f 1000 = true) : ∃ (a : Nat) (cell : Cell), o = .ref a ∧ G a ≠ 0 ∧ (zk_kd KT (G a)).1 = 0 ∧ f < (zk_kd KT (G a)).2.2.1.length ∧ H[a]? = some cell ∧ cell.slots[zk_sl KT D (G a) f]? = some w := by
  obtain ⟨a, cell, h1, h2, h3, h4, h5⟩ := h
  have hf : f < 1000 := by simpa using hf
  rcases h5 with ⟨h5, h6⟩ | ⟨h5, -⟩
  · exact ⟨a, cell, h1, h2, h3, h5, h4, h6⟩
  · omega
theorem zk_fl_mk {KT : List zk_K} {D : zk_D} {G : Nat → Nat} {H : Heap} {o : Value} {f : Nat} {w : Value} (h : ∃ (a : Nat) (cell : Cell), o = .ref a ∧ G a ≠ 0 ∧ (zk_kd KT (G a)).1 = 0 ∧ f < (zk_kd KT (G a)).2.2.1.length ∧ H[a]? = some cell ∧ cell.slots[zk_sl KT D (G a) f]? = some w) : zk_fl KT D G H o f w := by
  obtain ⟨a, cell, h1, h2, h3, h4, h5, h6⟩ := h
  exact ⟨a, cell, h1, h2, h3, h5, Or.inl ⟨h4, h6⟩⟩
def zk_ln (KT : List zk_K) (G : Nat → Nat) (H : Heap) (o w : Value) : Prop :=
  ∃ (a : Nat) (cell : Cell), o = .ref a ∧ G a ≠ 0 ∧ (zk_kd KT (G a)).1 ≠ 0 ∧ H[a]? = some cell ∧ zk_i w = (cell.slots.size : Int)
def zk_pf (KT : List zk_K) (G : Nat → Nat) (H : Heap) (o : Value) (z : Int) : Prop :=
  ∃ (a : Nat) (cell : Cell), o = .ref a ∧ G a ≠ 0 ∧ (zk_kd KT (G a)).1 ≠ 0 ∧ H[a]? = some cell ∧ ∀ j : Nat, (j : Int) < z → cell.slots[j]? ≠ some .null
/-- others: (0, x, y, r) r is the int sum of x and y; (1, x, y, r) r is lcmp of x and y; (2, x, c) x isn't c; (3, k, i, r) r stands at i in the read-only array of the kind k; (4, x, y, c) x + 1000 ≤ 2 y + c; (5, x, y, c) 2 x + 1000 ≤ y + c; (6, a, i, r) r stands at i in the array a; (7, x, y, z) x = y + z; (8, x, y, q) x + 2 b + 1000 ≤ 2 y + a + c, where a, b, c are packed in q -/
def zk_8a (q : Nat) : Nat := q / 4294967296
def zk_8b (q : Nat) : Nat := q / 65536 % 65536
def zk_8c (q : Nat) : Nat := q % 65536
def zk_ms (D : zk_D) (G : Nat → Nat) (H : Heap) (n : Nat) (v : Nat → Value) (q : Nat × Nat × Nat × Nat) : Prop :=
  if q.1 = 0 then q.2.1 < n ∧ q.2.2.1 < n ∧ q.2.2.2 < n ∧ ∃ a b : Int32, v q.2.1 = .int a ∧ v q.2.2.1 = .int b ∧ v q.2.2.2 = .int (a + b)
  else if q.1 = 1 then q.2.1 < n ∧ q.2.2.1 < n ∧ q.2.2.2 < n ∧ ∃ a b : Int64, v q.2.1 = .long a ∧ v q.2.2.1 = .long b ∧ v q.2.2.2 = .int (lg_cmp a b)
  else if q.1 = 2 then q.2.1 < n ∧ zk_i (v q.2.1) ≠ (q.2.2.1 : Int)
  else if q.1 = 3 then q.2.2.1 < n ∧ q.2.2.2 < n ∧ ∃ a : Int32, v q.2.2.1 = .int a ∧ v q.2.2.2 = D.2.2.2.2.1 q.2.1 a.toNatClampNeg
  else if q.1 = 4 then q.2.1 < n ∧ q.2.2.1 < n ∧ zk_i (v q.2.1) + 1000 ≤ 2 * zk_i (v q.2.2.1) + (q.2.2.2 : Int)
  else if q.1 = 5 then q.2.1 < n ∧ q.2.2.1 < n ∧ 2 * zk_i (v q.2.1) + 1000 ≤ zk_i (v q.2.2.1) + (q.2.2.2 : Int)
  else if q.1 = 6 then q.2.1 < n ∧ q.2.2.1 < n ∧ q.2.2.2 < n ∧ ∃ (a : Nat) (cell : Cell) (i : Int32), v q.2.1 = .ref a ∧ G a ≠ 0 ∧ H[a]? = some cell ∧ v q.2.2.1 = .int i ∧ cell.slots[i.toNatClampNeg]? = some (v q.2.2.2)
  else if q.1 = 7 then q.2.1 < n ∧ q.2.2.1 < n ∧ q.2.2.2 < n ∧ zk_i (v q.2.1) = zk_i (v q.2.2.1) + zk_i (v q.2.2.2)
  else if q.1 = 8 then q.2.1 < n ∧ q.2.2.1 < n ∧ zk_8a q.2.2.2 < n ∧ zk_8b q.2.2.2 < n ∧ zk_i (v q.2.1) + 2 * zk_i (v (zk_8b q.2.2.2)) + 1000 ≤ 2 * zk_i (v q.2.2.1) + zk_i (v (zk_8a q.2.2.2)) + (zk_8c q.2.2.2 : Int)
  else if q.1 = 11 then q.2.1 < n ∧ ∃ (a : Nat) (cell : Cell), v q.2.1 = .ref a ∧ G a ≠ 0 ∧ H[a]? = some cell ∧ ∀ (j : Nat) (w : Value), cell.slots[j]? = some w → w = .int 0
  else True
theorem zk_ms2 {D : zk_D} {G : Nat → Nat} {H : Heap} {n : Nat} {v : Nat → Value} {q : Nat × Nat × Nat × Nat} (h : zk_ms D G H n v q) (e : q.1 = 2) : q.2.1 < n ∧ zk_i (v q.2.1) ≠ (q.2.2.1 : Int) := by
  unfold zk_ms at h; rw [if_neg (by omega), if_neg (by omega), if_pos e] at h; exact h
theorem zk_ms4 {D : zk_D} {G : Nat → Nat} {H : Heap} {n : Nat} {v : Nat → Value} {q : Nat × Nat × Nat × Nat} (h : zk_ms D G H n v q) (e : q.1 = 4) : q.2.1 < n ∧ q.2.2.1 < n ∧ zk_i (v q.2.1) + 1000 ≤ 2 * zk_i (v q.2.2.1) + (q.2.2.2 : Int) := by
  unfold zk_ms at h; rw [if_neg (by omega), if_neg (by omega), if_neg (by omega), if_neg (by omega), if_pos e] at h; exact h
theorem zk_ms5 {D : zk_D} {G : Nat → Nat} {H : Heap} {n : Nat} {v : Nat → Value} {q : Nat × Nat × Nat × Nat} (h : zk_ms D G H n v q) (e : q.1 = 5) : q.2.1 < n ∧ q.2.2.1 < n ∧ 2 * zk_i (v q.2.1) + 1000 ≤ zk_i (v q.2.2.1) + (q.2.2.2 : Int) := by
  unfold zk_ms at h; rw [if_neg (by omega), if_neg (by omega), if_neg (by omega), if_neg (by omega), if_neg (by omega), if_pos e] at h; exact h
theorem zk_ms6 {D : zk_D} {G : Nat → Nat} {H : Heap} {n : Nat} {v : Nat → Value} {q : Nat × Nat × Nat × Nat} (h : zk_ms D G H n v q) (e : q.1 = 6) : q.2.1 < n ∧ q.2.2.1 < n ∧ q.2.2.2 < n ∧ ∃ (a : Nat) (cell : Cell) (i : Int32), v q.2.1 = .ref a ∧ G a ≠ 0 ∧ H[a]? = some cell ∧ v q.2.2.1 = .int i ∧ cell.slots[i.toNatClampNeg]? = some (v q.2.2.2) := by
  unfold zk_ms at h; rw [if_neg (by omega), if_neg (by omega), if_neg (by omega), if_neg (by omega), if_neg (by omega), if_neg (by omega), if_pos e] at h; exact h
theorem zk_ms7 {D : zk_D} {G : Nat → Nat} {H : Heap} {n : Nat} {v : Nat → Value} {q : Nat × Nat × Nat × Nat} (h : zk_ms D G H n v q) (e : q.1 = 7) : q.2.1 < n ∧ q.2.2.1 < n ∧ q.2.2.2 < n ∧ zk_i (v q.2.1) = zk_i (v q.2.2.1) + zk_i (v q.2.2.2) := by
  unfold zk_ms at h; rw [if_neg (by omega), if_neg (by omega), if_neg (by omega), if_neg (by omega), if_neg (by omega), if_neg (by omega), if_neg (by omega), if_pos e] at h; exact h
theorem zk_ms2i {D : zk_D} {G : Nat → Nat} {H : Heap} {n : Nat} {v : Nat → Value} {a b c : Nat} (h : a < n ∧ zk_i (v a) ≠ (b : Int)) : zk_ms D G H n v (2, a, b, c) := by
  unfold zk_ms; dsimp only; rw [if_neg (by decide), if_neg (by decide), if_pos rfl]; exact h
theorem zk_ms4i {D : zk_D} {G : Nat → Nat} {H : Heap} {n : Nat} {v : Nat → Value} {a b c : Nat} (h : a < n ∧ b < n ∧ zk_i (v a) + 1000 ≤ 2 * zk_i (v b) + (c : Int)) : zk_ms D G H n v (4, a, b, c) := by
  unfold zk_ms; dsimp only; rw [if_neg (by decide), if_neg (by decide), if_neg (by decide), if_neg (by decide), if_pos rfl]; exact h
theorem zk_ms5i {D : zk_D} {G : Nat → Nat} {H : Heap} {n : Nat} {v : Nat → Value} {a b c : Nat} (h : a < n ∧ b < n ∧ 2 * zk_i (v a) + 1000 ≤ zk_i (v b) + (c : Int)) : zk_ms D G H n v (5, a, b, c) := by
  unfold zk_ms; dsimp only; rw [if_neg (by decide), if_neg (by decide), if_neg (by decide), if_neg (by decide), if_neg (by decide), if_pos rfl]; exact h
theorem zk_ms6i {D : zk_D} {G : Nat → Nat} {H : Heap} {n : Nat} {v : Nat → Value} {x y z : Nat} (h : x < n ∧ y < n ∧ z < n ∧ ∃ (a : Nat) (cell : Cell) (i : Int32), v x = .ref a ∧ G a ≠ 0 ∧ H[a]? = some cell ∧ v y = .int i ∧ cell.slots[i.toNatClampNeg]? = some (v z)) : zk_ms D G H n v (6, x, y, z) := by
  unfold zk_ms; dsimp only; rw [if_neg (by decide), if_neg (by decide), if_neg (by decide), if_neg (by decide), if_neg (by decide), if_neg (by decide), if_pos rfl]; exact h
theorem zk_ms7i {D : zk_D} {G : Nat → Nat} {H : Heap} {n : Nat} {v : Nat → Value} {x y z : Nat} (h : x < n ∧ y < n ∧ z < n ∧ zk_i (v x) = zk_i (v y) + zk_i (v z)) : zk_ms D G H n v (7, x, y, z) := by
  unfold zk_ms; dsimp only; rw [if_neg (by decide), if_neg (by decide), if_neg (by decide), if_neg (by decide), if_neg (by decide), if_neg (by decide), if_neg (by decide), if_pos rfl]; exact h
theorem zk_ms8 {D : zk_D} {G : Nat → Nat} {H : Heap} {n : Nat} {v : Nat → Value} {q : Nat × Nat × Nat × Nat} (h : zk_ms D G H n v q) (e : q.1 = 8) : q.2.1 < n ∧ q.2.2.1 < n ∧ zk_8a q.2.2.2 < n ∧ zk_8b q.2.2.2 < n ∧ zk_i (v q.2.1) + 2 * zk_i (v (zk_8b q.2.2.2)) + 1000 ≤ 2 * zk_i (v q.2.2.1) + zk_i (v (zk_8a q.2.2.2)) + (zk_8c q.2.2.2 : Int) := by
  unfold zk_ms at h; rw [if_neg (by omega), if_neg (by omega), if_neg (by omega), if_neg (by omega), if_neg (by omega), if_neg (by omega), if_neg (by omega), if_neg (by omega), if_pos e] at h; exact h
theorem zk_ms8i {D : zk_D} {G : Nat → Nat} {H : Heap} {n : Nat} {v : Nat → Value} {x y z : Nat} (h : x < n ∧ y < n ∧ zk_8a z < n ∧ zk_8b z < n ∧ zk_i (v x) + 2 * zk_i (v (zk_8b z)) + 1000 ≤ 2 * zk_i (v y) + zk_i (v (zk_8a z)) + (zk_8c z : Int)) : zk_ms D G H n v (8, x, y, z) := by
  unfold zk_ms; dsimp only; rw [if_neg (by decide), if_neg (by decide), if_neg (by decide), if_neg (by decide), if_neg (by decide), if_neg (by decide), if_neg (by decide), if_neg (by decide), if_pos rfl]; exact h
/-- what says nothing -/
theorem zk_ms9i {D : zk_D} {G : Nat → Nat} {H : Heap} {n : Nat} {v : Nat → Value} {x y z : Nat} : zk_ms D G H n v (9, x, y, z) := by
  unfold zk_ms; dsimp only; rw [if_neg (by decide), if_neg (by decide), if_neg (by decide), if_neg (by decide), if_neg (by decide), if_neg (by decide), if_neg (by decide), if_neg (by decide), if_neg (by decide), if_neg (by decide)]; trivial
theorem zk_ms11 {D : zk_D} {G : Nat → Nat} {H : Heap} {n : Nat} {v : Nat → Value} {q : Nat × Nat × Nat × Nat} (h : zk_ms D G H n v q) (e : q.1 = 11) : q.2.1 < n ∧ ∃ (a : Nat) (cell : Cell), v q.2.1 = .ref a ∧ G a ≠ 0 ∧ H[a]? = some cell ∧ ∀ (j : Nat) (w : Value), cell.slots[j]? = some w → w = .int 0 := by
  unfold zk_ms at h; rw [if_neg (by omega), if_neg (by omega), if_neg (by omega), if_neg (by omega), if_neg (by omega), if_neg (by omega), if_neg (by omega), if_neg (by omega), if_neg (by omega), if_pos e] at h; exact h
theorem zk_ms11i {D : zk_D} {G : Nat → Nat} {H : Heap} {n : Nat} {v : Nat → Value} {x y z : Nat} (h : x < n ∧ ∃ (a : Nat) (cell : Cell), v x = .ref a ∧ G a ≠ 0 ∧ H[a]? = some cell ∧ ∀ (j : Nat) (w : Value), cell.slots[j]? = some w → w = .int 0) : zk_ms D G H n v (11, x, y, z) := by
  unfold zk_ms; dsimp only; rw [if_neg (by decide), if_neg (by decide), if_neg (by decide), if_neg (by decide), if_neg (by decide), if_neg (by decide), if_neg (by decide), if_neg (by decide), if_neg (by decide), if_pos rfl]; exact h
/-- all but the elements' facts say nothing of the heap -/
theorem zk_ms_gh {D : zk_D} {G G' : Nat → Nat} {H H' : Heap} {n : Nat} {v : Nat → Value} {q : Nat × Nat × Nat × Nat} (h : zk_ms D G H n v q) (hq : q.1 ≠ 6) (h11 : q.1 ≠ 11) : zk_ms D G' H' n v q := by
  unfold zk_ms at h ⊢
  rw [if_neg hq, if_neg h11] at h ⊢
  exact h
def zk_F (KT : List zk_K) (D : zk_D) (G : Nat → Nat) (H : Heap) (v : Nat → Value) : zk_S → Prop
  | (n, _, _, tys, rel, fld, len, pf, msc, la) =>
    (∀ q ∈ tys, q.1 < n ∧ zk_tv G (v q.1) q.2) ∧ (∀ q ∈ rel, zk_rl n v q) ∧
    (∀ q ∈ fld, q.1 < n ∧ q.2.2 < n ∧ zk_fl KT D G H (v q.1) q.2.1 (v q.2.2)) ∧
    (∀ q ∈ len, q.1 < n ∧ q.2 < n ∧ zk_ln KT G H (v q.1) (v q.2)) ∧
    (∀ q ∈ pf, q.1 < n ∧ q.2.1 < n ∧ zk_pf KT G H (v q.1) (zk_i (v q.2.1) + q.2.2)) ∧
    (∀ q ∈ msc, zk_ms D G H n v q) ∧ (∀ x, la = some x → x < n ∧ ∃ a : Nat, v x = .ref a ∧ H.size = a + 1)
/-- locals and stack; the first n0 symbols keep their values -/
def zk_LS (n0 : Nat) (v0 : Nat → Value) (nL : Nat) (ls : Array Slot) (vs : List Value) (v : Nat → Value) : zk_S → Prop
  | (n, loc, stk, _) => n0 ≤ n ∧ (∀ x, x < n0 → v x = v0 x) ∧ lv_has ls nL (loc.map fun q => (q.1, v q.2)) ∧ (∀ q ∈ loc, q.2 < n) ∧ vs = stk.map v ∧ ∀ x ∈ stk, x < n
def zk_up (v : Nat → Value) (n : Nat) (w : Value) : Nat → Value := fun x => if x = n then w else v x
theorem zk_up_at (v : Nat → Value) (n : Nat) (w : Value) : zk_up v n w n = w := if_pos rfl
theorem zk_up_lt {v : Nat → Value} {n x : Nat} {w : Value} (h : x < n) : zk_up v n w x = v x := if_neg (Nat.ne_of_lt h)
theorem zk_rl_ext {n n' : Nat} {v v' : Nat → Value} {q : Nat × Nat × Int} (hn : n ≤ n') (hv : ∀ x, x < n → v' x = v x) (h : zk_rl n v q) : zk_rl n' v' q :=
  ⟨Nat.lt_of_lt_of_le h.1 hn, Nat.lt_of_lt_of_le h.2.1 hn, by rw [hv _ h.1, hv _ h.2.1]; exact h.2.2⟩
theorem zk_ms_ext {D : zk_D} {G : Nat → Nat} {H : Heap} {n n' : Nat} {v v' : Nat → Value} {q : Nat × Nat × Nat × Nat} (hn : n ≤ n') (hv : ∀ x, x < n → v' x = v x) (h : zk_ms D G H n v q) : zk_ms D G H n' v' q := by
  have up : ∀ {x : Nat}, x < n → x < n' := fun h => Nat.lt_of_lt_of_le h hn
  by_cases e11 : q.1 = 11
  · obtain ⟨h1, a, cell, h2, h3, h4, h5⟩ := zk_ms11 h e11
    obtain ⟨q1, q2, q3, q4⟩ := q
    have e11 : q1 = 11 := e11
    subst e11
    exact zk_ms11i ⟨up h1, a, cell, by rw [hv _ h1]; exact h2, h3, h4, h5⟩
  unfold zk_ms at h ⊢
  rw [if_neg e11] at h ⊢
  split at h
  · rename_i e; rw [if_pos e]
    obtain ⟨h1, h2, h3, h4⟩ := h
    exact ⟨up h1, up h2, up h3, by rw [hv _ h1, hv _ h2, hv _ h3]; exact h4⟩
  · rename_i e; rw [if_neg e]
    split at h
    · rename_i e2; rw [if_pos e2]
      obtain ⟨h1, h2, h3, h4⟩ := h
      exact ⟨up h1, up h2, up h3, by rw [hv _ h1, hv _ h2, hv _ h3]; exact h4⟩
    · rename_i e2; rw [if_neg e2]
      split at h
      · rename_i e3; rw [if_pos e3]
        exact ⟨up h.1, by rw [hv _ h.1]; exact h.2⟩
      · rename_i e3; rw [if_neg e3]
        split at h
        · rename_i e4; rw [if_pos e4]
          obtain ⟨h1, h2, a, h3, h4⟩ := h
          exact ⟨up h1, up h2, a, by rw [hv _ h1]; exact h3, by rw [hv _ h2]; exact h4⟩
        · rename_i e4; rw [if_neg e4]
          split at h
          · rename_i e5; rw [if_pos e5]
            exact ⟨up h.1, up h.2.1, by rw [hv _ h.1, hv _ h.2.1]; exact h.2.2⟩
          · rename_i e5; rw [if_neg e5]
            split at h
            · rename_i e6; rw [if_pos e6]
              exact ⟨up h.1, up h.2.1, by rw [hv _ h.1, hv _ h.2.1]; exact h.2.2⟩
            · rename_i e6; rw [if_neg e6]
              split at h
              · rename_i e7; rw [if_pos e7]
                obtain ⟨h1, h2, h3, h4⟩ := h
                exact ⟨up h1, up h2, up h3, by rw [hv _ h1, hv _ h2, hv _ h3]; exact h4⟩
              · rename_i e7; rw [if_neg e7]
                split at h
                · rename_i e8; rw [if_pos e8]
                  obtain ⟨h1, h2, h3, h4⟩ := h
                  exact ⟨up h1, up h2, up h3, by rw [hv _ h1, hv _ h2, hv _ h3]; exact h4⟩
                · rename_i e8; rw [if_neg e8]
                  split at h
                  · rename_i e9; rw [if_pos e9]
                    obtain ⟨h1, h2, h3, h4, h5⟩ := h
                    exact ⟨up h1, up h2, up h3, up h4, by rw [hv _ h1, hv _ h2, hv _ h3, hv _ h4]; exact h5⟩
                  · rename_i e9; rw [if_neg e9]; trivial
/-- a new symbol: its value, type, relations -/
def zk_pu (s : zk_S) (stk' : List Nat) (t : zk_T) (rs : List (Nat × Nat × Int)) (ms : List (Nat × Nat × Nat × Nat)) : zk_S :=
  (s.1 + 1, s.2.1, s.1 :: stk', (s.1, t) :: s.2.2.2.1, rs ++ s.2.2.2.2.1, s.2.2.2.2.2.1, s.2.2.2.2.2.2.1, s.2.2.2.2.2.2.2.1, ms ++ s.2.2.2.2.2.2.2.2.1, s.2.2.2.2.2.2.2.2.2)
/-- the stack alone changes -/
def zk_st (s : zk_S) (stk' : List Nat) : zk_S := (s.1, s.2.1, stk', s.2.2.2)
theorem zk_F_up {KT : List zk_K} {D : zk_D} {G : Nat → Nat} {H : Heap} {v : Nat → Value} {s : zk_S} {w : Value} {stk' : List Nat} {t : zk_T} {rs : List (Nat × Nat × Int)} {ms : List (Nat × Nat × Nat × Nat)}
    (h : zk_F KT D G H v s) (ht : zk_tv G w t) (hr : ∀ q ∈ rs, zk_rl (s.1 + 1) (zk_up v s.1 w) q) (hm : ∀ q ∈ ms, zk_ms D G H (s.1 + 1) (zk_up v s.1 w) q) :
    zk_F KT D G H (zk_up v s.1 w) (zk_pu s stk' t rs ms) := by
  obtain ⟨n, loc, stk, tys, rel, fld, len, pf, msc, la⟩ := s
  obtain ⟨h1, h2, h3, h4, h5, h6, h7⟩ := h
  have hv : ∀ x, x < n → zk_up v n w x = v x := fun x hx => zk_up_lt hx
  refine ⟨fun q hq => ?_, fun q hq => ?_, fun q hq => ?_, fun q hq => ?_, fun q hq => ?_, fun q hq => ?_, fun x hx => ?_⟩
  · rcases List.mem_cons.mp hq with rfl | hq
    · exact ⟨Nat.lt_succ_self n, by show zk_tv G (zk_up v n w n) t; rw [zk_up_at]; exact ht⟩
    · obtain ⟨a, b⟩ := h1 q hq
      exact ⟨Nat.lt_succ_of_lt a, by show zk_tv G (zk_up v n w q.1) q.2; rw [hv _ a]; exact b⟩
  · rcases List.mem_append.mp hq with hq | hq
    · exact hr q hq
    · exact zk_rl_ext (Nat.le_succ n) hv (h2 q hq)
  · obtain ⟨a, b, c⟩ := h3 q hq
    exact ⟨Nat.lt_succ_of_lt a, Nat.lt_succ_of_lt b, by show zk_fl KT D G H (zk_up v n w q.1) q.2.1 (zk_up v n w q.2.2); rw [hv _ a, hv _ b]; exact c⟩
  · obtain ⟨a, b, c⟩ := h4 q hq
    exact ⟨Nat.lt_succ_of_lt a, Nat.lt_succ_of_lt b, by show zk_ln KT G H (zk_up v n w q.1) (zk_up v n w q.2); rw [hv _ a, hv _ b]; exact c⟩
  · obtain ⟨a, b, c⟩ := h5 q hq
    exact ⟨Nat.lt_succ_of_lt a, Nat.lt_succ_of_lt b, by show zk_pf KT G H (zk_up v n w q.1) (zk_i (zk_up v n w q.2.1) + q.2.2); rw [hv _ a, hv _ b]; exact c⟩
  · rcases List.mem_append.mp hq with hq | hq
    · exact hm q hq
    · exact zk_ms_ext (Nat.le_succ n) hv (h6 q hq)
  · obtain ⟨a, b, c⟩ := h7 x hx
    exact ⟨Nat.lt_succ_of_lt a, b, by show zk_up v n w x = _ ∧ _; rw [hv _ a]; exact c⟩
theorem zk_map_up {v : Nat → Value} {n : Nat} {w : Value} {l : List Nat} (h : ∀ x ∈ l, x < n) : l.map (zk_up v n w) = l.map v :=
  List.map_congr_left fun x hx => zk_up_lt (h x hx)
theorem zk_LS_up {n0 : Nat} {v0 : Nat → Value} {nL : Nat} {ls : Array Slot} {vs : List Value} {v : Nat → Value} {s : zk_S} {w : Value} {stk' : List Nat} {t : zk_T} {rs : List (Nat × Nat × Int)} {ms : List (Nat × Nat × Nat × Nat)}
    (h : zk_LS n0 v0 nL ls vs v s) (hk : ∀ x ∈ stk', x < s.1) : zk_LS n0 v0 nL ls (w :: stk'.map v) (zk_up v s.1 w) (zk_pu s stk' t rs ms) := by
  obtain ⟨n, loc, stk, rest⟩ := s
  obtain ⟨h1, h2, h3, h4, h5, h6⟩ := h
  refine ⟨Nat.le_succ_of_le h1, fun x hx => by rw [zk_up_lt (Nat.lt_of_lt_of_le hx h1)]; exact h2 x hx, ?_, fun q hq => Nat.lt_succ_of_lt (h4 q hq), ?_, fun x hx => ?_⟩
  · have e : (loc.map fun q => (q.1, zk_up v n w q.2)) = loc.map fun q => (q.1, v q.2) := List.map_congr_left fun q hq => by rw [zk_up_lt (h4 q hq)]
    show lv_has ls nL (loc.map fun q => (q.1, zk_up v n w q.2))
    rw [e]; exact h3
  · show w :: stk'.map v = (n :: stk').map (zk_up v n w)
    rw [List.map_cons, zk_up_at, zk_map_up hk]
  · rcases List.mem_cons.mp hx with rfl | hx
    · exact Nat.lt_succ_self _
    · exact Nat.lt_succ_of_lt (hk x hx)
theorem zk_F_st {KT : List zk_K} {D : zk_D} {G : Nat → Nat} {H : Heap} {v : Nat → Value} {s : zk_S} (stk' : List Nat) (h : zk_F KT D G H v s) : zk_F KT D G H v (zk_st s stk') := by
  obtain ⟨n, loc, stk, tys, rel, fld, len, pf, msc, la⟩ := s
  exact h
theorem zk_LS_st {n0 : Nat} {v0 : Nat → Value} {nL : Nat} {ls : Array Slot} {vs : List Value} {v : Nat → Value} {s : zk_S} {stk' : List Nat}
    (h : zk_LS n0 v0 nL ls vs v s) (hk : ∀ x ∈ stk', x < s.1) : zk_LS n0 v0 nL ls (stk'.map v) v (zk_st s stk') := by
  obtain ⟨n, loc, stk, rest⟩ := s
  obtain ⟨h1, h2, h3, h4, h5, h6⟩ := h
  exact ⟨h1, h2, h3, h4, rfl, hk⟩
end
