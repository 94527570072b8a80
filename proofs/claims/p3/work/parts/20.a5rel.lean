/-! ROWS, 0: what the ghost 1005 says -/
noncomputable section
/-- below n a house is up there and not down here, or the other way; from n on none is down -/
def zr_rel (ca cb : Cell) (n : Int32) : Prop := ∀ h : Nat, h < 12 → ∃ x y : Int32, ca.slots[h]? = some (.int x) ∧ cb.slots[h]? = some (.int y) ∧ ((h : Int) < n.toInt → (x = 1 ∧ y = 0) ∨ (x = 0 ∧ y = 1)) ∧ (n.toInt ≤ (h : Int) → y = 0)
theorem zr_rel0 {ca cb : Cell} {n : Int32} (ha : ca.slots.size = 12) (hb : cb.slots.size = 12) (h1 : ∀ (j : Nat) (w : Value), ca.slots[j]? = some w → w = .int 0) (h2 : ∀ (j : Nat) (w : Value), cb.slots[j]? = some w → w = .int 0) (hn : n.toInt = 0) : zr_rel ca cb n := by
  intro h hh
  refine ⟨0, 0, ?_, ?_, fun z => absurd z (by omega), fun _ => rfl⟩
  · have e := Array.getElem?_eq_getElem (xs := ca.slots) (i := h) (by omega)
    rw [e, h1 h _ e]
  · have e := Array.getElem?_eq_getElem (xs := cb.slots) (i := h) (by omega)
    rw [e, h2 h _ e]
theorem zr_rel_slots {ca cb ca' cb' : Cell} {n : Int32} (e1 : ca'.slots = ca.slots) (e2 : cb'.slots = cb.slots) (h : zr_rel ca cb n) : zr_rel ca' cb' n := by
  intro p hp; rw [e1, e2]; exact h p hp
/-- one house set, both ways -/
theorem zr_rel_set {ca cb : Cell} {A : Nat} {n x y : Int32} (h : zr_rel ca cb n) (hA : A < 12) (hAn : (A : Int) < n.toInt) (hxy : (x = 1 ∧ y = 0) ∨ (x = 0 ∧ y = 1)) (sa : ca.slots.size = 12) (sb : cb.slots.size = 12) : zr_rel (ca.setSlot A (.int x)) (cb.setSlot A (.int y)) n := by
  intro p hp
  by_cases e : A = p
  · subst e
    exact ⟨x, y, Cell.slots_setSlot_self _ (by omega), Cell.slots_setSlot_self _ (by omega), fun _ => hxy, fun z => absurd z (by omega)⟩
  · obtain ⟨a, b, h1, h2, h3⟩ := h p hp
    exact ⟨a, b, by rw [slot_ne _ _ e]; exact h1, by rw [slot_ne _ _ e]; exact h2, h3⟩
/-- one house more, which is up -/
theorem zr_rel_add {ca cb : Cell} {A : Nat} {n n1 : Int32} (h : zr_rel ca cb n) (hA : A < 12) (hn : n.toInt = (A : Int)) (hn1 : n1.toInt = (A : Int) + 1) (sa : ca.slots.size = 12) : zr_rel (ca.setSlot A (.int 1)) cb n1 := by
  intro p hp
  obtain ⟨a, b, h1, h2, h3, h4⟩ := h p hp
  by_cases e : A = p
  · subst e
    exact ⟨1, b, Cell.slots_setSlot_self _ (by omega), h2, fun _ => Or.inl ⟨rfl, h4 (by omega)⟩, fun z => absurd z (by omega)⟩
  · exact ⟨a, b, by rw [slot_ne _ _ e]; exact h1, h2, fun z => h3 (by omega), fun z => h4 (by omega)⟩
/-- the net a with its count n and the model's object w, their rows: ca, cb -/
def zq_N5 (ds : Nat → Nat → Nat) (G : Nat → Nat) (H : Heap) (a : Nat) (w : Value) (ca cb : Cell) (n : Int32) : Prop :=
  ∃ (cn cm : Cell) (b r1 r2 : Nat), w = .ref b ∧ (G a = 4 ∧ H[a]? = some cn ∧ cn.slots[ds 4 6]? = some (.int n)) ∧ cn.slots[ds 4 0]? = some (.ref r1) ∧ G r1 = 6 ∧ H[r1]? = some ca ∧ G b = 57 ∧ H[b]? = some cm ∧ cm.slots[ds 12 1]? = some (.ref r2) ∧ G r2 = 59 ∧ H[r2]? = some cb
def zq_1005 (ds : Nat → Nat → Nat) (G : Nat → Nat) (H : Heap) (a : Nat) (w : Value) : Prop := ∃ (ca cb : Cell) (n : Int32), zq_N5 ds G H a w ca cb n ∧ zr_rel ca cb n
/-- behind addHouse's stores: a house more, the rows say the same -/
def zr_addY (KT : List zk_K) (x : zk_S) (sy gz : Nat) : zk_S := zk_af (zk_st (zk_pu (zk_st (zk_ex KT [(6, 0), (4, 6)] x true) []) [] (0, 1, 12) [(x.1, sy, 1), (sy, x.1, -1)] []) [sy]) [(0, 1005, gz), (0, 6, x.1)] [] []
end
