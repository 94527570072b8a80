/-! ROWS, 0: what the ghost 1005 says -/
noncomputable section
def bt (x : Int32) (i : Nat) : Bool := x.toBitVec.getLsbD i
theorem b_ext {x y : Int32} (h : ∀ i, i < 32 → bt x i = bt y i) : x = y := Int32.toBitVec_inj.mp (BitVec.eq_of_getLsbD_eq (fun i hi => h i hi))
theorem b_or (x y : Int32) (i : Nat) : bt (x ||| y) i = (bt x i || bt y i) := by unfold bt; rw [Int32.toBitVec_or, BitVec.getLsbD_or]
theorem b_and (x y : Int32) (i : Nat) : bt (x &&& y) i = (bt x i && bt y i) := by unfold bt; rw [Int32.toBitVec_and, BitVec.getLsbD_and]
theorem b_0 (i : Nat) : bt 0 i = false := BitVec.getLsbD_zero
theorem s_l : ∀ n, n < 32 → ((nI n &&& 31).toBitVec.smod 32).toNat = n := by decide +kernel
theorem b_shl (n : Nat) (hn : n < 32) (x : Int32) {i : Nat} (hi : i < 32) : bt (x <<< (nI n &&& 31)) i = (decide (n ≤ i) && bt x (i - n)) := by
  unfold bt
  rw [Int32.toBitVec_shiftLeft]
  show (x.toBitVec <<< ((nI n &&& 31).toBitVec.smod 32).toNat).getLsbD i = _
  rw [s_l n hn, BitVec.getLsbD_shiftLeft]
  rcases Nat.lt_or_ge i n with h | h
  · simp [h, Nat.not_le.mpr h]
  · simp [hi, h, Nat.not_lt.mpr h]
theorem b_sshr (n : Nat) (hn : n < 32) (x : Int32) {i : Nat} (hi : i < 32) : bt (x >>> (nI n &&& 31)) i = if n + i < 32 then bt x (n + i) else bt x 31 := by
  unfold bt
  rw [Int32.toBitVec_shiftRight]
  show (x.toBitVec.sshiftRight ((nI n &&& 31).toBitVec.smod 32).toNat).getLsbD i = _
  rw [s_l n hn, BitVec.getLsbD_sshiftRight, BitVec.msb_eq_getLsbD_last]
  simp [hi]
theorem zr_b1 : ∀ i, i < 32 → bt 1 i = decide (i = 0) := by decide +kernel
/-- the bit o of x, asked for as joined does -/
theorem zr_bit {x : Int32} {o : Nat} (ho : o < 12) : ((x >>> (nI o &&& 31)) &&& 1) = 0 ↔ bt x o = false := by
  constructor
  · intro h
    have e := b_and (x >>> (nI o &&& 31)) 1 0
    rw [h, zr_b1 0 (by decide), b_sshr o (by omega) x (by decide : 0 < 32), if_pos (by omega), b_0, Nat.add_zero, decide_eq_true rfl, Bool.and_true] at e
    exact e.symm
  · intro h
    refine b_ext fun i hi => ?_
    rw [b_and, zr_b1 i hi, b_0]
    by_cases e : i = 0
    · subst e
      rw [b_sshr o (by omega) x hi, if_pos (by omega), Nat.add_zero, h, Bool.false_and]
    · rw [decide_eq_false e, Bool.and_false]
theorem zr_or {x : Int32} {o i : Nat} (ho : o < 12) (hi : i < 32) : bt (x ||| ((1 : Int32) <<< (nI o &&& 31))) i = (bt x i || decide (o = i)) := by
  rw [b_or, b_shl o (by omega) 1 hi]
  congr 1
  by_cases e : o = i
  · subst e
    rw [Nat.sub_self, zr_b1 0 (by decide)]; simp
  · rw [decide_eq_false e]
    by_cases h : o ≤ i
    · rw [zr_b1 (i - o) (by omega), decide_eq_false (show ¬ i - o = 0 by omega), Bool.and_false]
    · rw [decide_eq_false h, Bool.false_and]
def zr_rel (ca cb : Cell) : Prop := ∀ h o : Nat, h < 12 → o < 12 → ∃ x : Int32, ca.slots[h]? = some (.int x) ∧ cb.slots[12 * h + o]? = some (.int (if bt x o = true then 1 else 0))
theorem zr_rel0 {ca cb : Cell} (ha : ca.slots.size = 12) (hb : cb.slots.size = 144) (h1 : ∀ (j : Nat) (w : Value), ca.slots[j]? = some w → w = .int 0) (h2 : ∀ (j : Nat) (w : Value), cb.slots[j]? = some w → w = .int 0) : zr_rel ca cb := by
  intro h o hh ho
  refine ⟨0, ?_, ?_⟩
  · have e := Array.getElem?_eq_getElem (xs := ca.slots) (i := h) (by omega)
    rw [e, h1 h _ e]
  · have e := Array.getElem?_eq_getElem (xs := cb.slots) (i := 12 * h + o) (by omega)
    rw [e, h2 _ _ e, b_0]; rfl
theorem zr_rel_slots {ca cb ca' cb' : Cell} (e1 : ca'.slots = ca.slots) (e2 : cb'.slots = cb.slots) (h : zr_rel ca cb) : zr_rel ca' cb' := by
  intro p o hp ho; rw [e1, e2]; exact h p o hp ho
theorem zr_rel_set {ca cb : Cell} {A B : Nat} {x y : Int32} (h : zr_rel ca cb) (hA : A < 12) (hB : B < 12) (hne : A ≠ B) (hx : ca.slots[A]? = some (.int x)) (hy : ca.slots[B]? = some (.int y)) (sa : ca.slots.size = 12) (sb : cb.slots.size = 144) : zr_rel ((ca.setSlot A (.int (x ||| ((1 : Int32) <<< (nI B &&& 31))))).setSlot B (.int (y ||| ((1 : Int32) <<< (nI A &&& 31))))) ((cb.setSlot (12 * A + B) (.int 1)).setSlot (12 * B + A) (.int 1)) := by
  intro p o hp ho
  by_cases eB : B = p
  · subst eB
    refine ⟨y ||| ((1 : Int32) <<< (nI A &&& 31)), Cell.slots_setSlot_self _ (by rw [k2_slotsz]; omega), ?_⟩
    rw [zr_or hA (by omega)]
    by_cases eo : A = o
    · subst eo
      rw [decide_eq_true rfl, Bool.or_true, if_pos rfl]
      exact Cell.slots_setSlot_self _ (by rw [k2_slotsz]; omega)
    · rw [decide_eq_false eo, Bool.or_false, slot_ne _ _ (show 12 * B + A ≠ 12 * B + o by omega), slot_ne _ _ (show 12 * A + B ≠ 12 * B + o by omega)]
      obtain ⟨z, z1, z2⟩ := h B o hp ho
      rw [hy] at z1; cases z1; exact z2
  · by_cases eA : A = p
    · subst eA
      refine ⟨x ||| ((1 : Int32) <<< (nI B &&& 31)), by rw [slot_ne _ _ (show B ≠ A from fun z => hne z.symm)]; exact Cell.slots_setSlot_self _ (by omega), ?_⟩
      rw [zr_or hB (by omega)]
      by_cases eo : B = o
      · subst eo
        rw [decide_eq_true rfl, Bool.or_true, if_pos rfl, slot_ne _ _ (show 12 * B + A ≠ 12 * A + B by omega)]
        exact Cell.slots_setSlot_self _ (by omega)
      · rw [decide_eq_false eo, Bool.or_false, slot_ne _ _ (show 12 * B + A ≠ 12 * A + o by omega), slot_ne _ _ (show 12 * A + B ≠ 12 * A + o by omega)]
        obtain ⟨z, z1, z2⟩ := h A o hp ho
        rw [hx] at z1; cases z1; exact z2
    · obtain ⟨z, z1, z2⟩ := h p o hp ho
      refine ⟨z, by rw [slot_ne _ _ eB, slot_ne _ _ eA]; exact z1, ?_⟩
      rw [slot_ne _ _ (show 12 * B + A ≠ 12 * p + o by omega), slot_ne _ _ (show 12 * A + B ≠ 12 * p + o by omega)]; exact z2
/-- the net a and the model's object w, their rows: ca, cb -/
def zq_N5 (ds : Nat → Nat → Nat) (G : Nat → Nat) (H : Heap) (a : Nat) (w : Value) (ca cb : Cell) : Prop :=
  ∃ (cn cm : Cell) (b r1 r2 : Nat), w = .ref b ∧ G a = 4 ∧ H[a]? = some cn ∧ cn.slots[ds 4 1]? = some (.ref r1) ∧ G r1 = 7 ∧ H[r1]? = some ca ∧ G b = 57 ∧ H[b]? = some cm ∧ cm.slots[ds 12 2]? = some (.ref r2) ∧ G r2 = 60 ∧ H[r2]? = some cb
def zq_1005 (ds : Nat → Nat → Nat) (G : Nat → Nat) (H : Heap) (a : Nat) (w : Value) : Prop := ∃ ca cb : Cell, zq_N5 ds G H a w ca cb ∧ zr_rel ca cb
end
