/-! ENGINE, 19: a method's decision, out of its parts -/
theorem zk_chk_of {KT : List zk_K} {P : zk_P} {cc : ByteArray} {nL : Nat} {C : zk_C} {rt : Option FieldType} {hd xs : List zk_Hd} {fuel N : Nat} (h1 : ((C.1.2.2.1.all fun y => Nat.blt y C.1.1 && (Nat.beq (zk_lk C.1.2.2.2.1 y).1 0 || Nat.beq (zk_lk C.1.2.2.2.1 y).1 2 || Nat.beq (zk_lk C.1.2.2.2.1 y).1 1)) && Nat.ble ((C.1.2.2.1.map fun y => bif Nat.beq (zk_lk C.1.2.2.2.1 y).1 1 then 2 else 1).sum) nL) = true) (h3 : zk_run KT P cc nL C rt (hd ++ xs) none fuel false 0 0 0 (zk_x0 C) = true)
    (h4 : ∀ q ∈ hd, (Nat.ble q.2.2.1.length N && (q.2.2.1.all fun z => (match z.2.1 with | some y => Nat.blt y q.2.1.1 | none => true) && (match z.2.2 with | some y => Nat.blt y q.2.1.1 | none => true)) && Nat.ble C.1.1 q.2.1.1) = true ∧ zk_run KT P cc nL C rt (hd ++ xs) (some q.2.2.1) fuel true q.2.2.2.1 q.2.2.2.2 q.1 q.2.1 = true) : zk_chk KT P cc nL C rt hd xs fuel N = true := by
  unfold zk_chk
  rw [h1, h3, Bool.true_and, Bool.true_and]
  refine List.all_eq_true.mpr fun q hq => ?_
  obtain ⟨a, b⟩ := h4 q hq
  exact Bool.and_eq_true_iff.mpr ⟨a, b⟩
