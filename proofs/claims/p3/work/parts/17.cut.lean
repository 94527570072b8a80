/-! ENGINE, 15: a run cut behind a call -/
noncomputable section
def zk_ca {α : Type} : List (Option (List α)) → Option (List α)
  | [] => some []
  | none :: _ => none
  | some a :: r => match zk_ca r with | some b => some (a ++ b) | none => none
theorem zk_ca_ok {α : Type} : ∀ {os : List (Option (List α))} {L : List α}, zk_ca os = some L → ∀ o ∈ os, ∃ a, o = some a ∧ ∀ q ∈ a, q ∈ L
  | [], _, _, o, ho => absurd ho List.not_mem_nil
  | none :: _, _, h, _, _ => by cases h
  | some a :: r, L, h, o, ho => by
    unfold zk_ca at h
    split at h
    · rename_i b hb
      cases h
      rcases List.mem_cons.mp ho with rfl | ho
      · exact ⟨a, rfl, fun q hq => List.mem_append_left _ hq⟩
      · obtain ⟨c, h1, h2⟩ := zk_ca_ok hb o ho
        exact ⟨c, h1, fun q hq => List.mem_append_right _ (h2 q hq)⟩
    · cases h
def zk_uq (KT : List zk_K) (P : zk_P) (cc : ByteArray) (nL : Nat) (C : zk_C) (hd : List zk_Hd) (stop : Nat) : Nat → Bool → Nat → Nat → Nat → zk_S → Option (List (Nat × Nat × Nat × Nat × zk_S))
  | 0, _, _, _, _, _ => none
  | k + 1, first, cells, slots, pc, x =>
    match (!first && Nat.beq pc stop) with
    | true => some [(k + 1, cells, slots, pc, x)]
    | false =>
    match first, zk_fd hd pc with
    | false, some _ => none
    | _, _ =>
      match zk_rts KT C.2.2.1 x ((zk_fd P.2.2.2.2.2.2 pc).getD []) with
      | none => none
      | some x =>
        match zk_fd P.2.2.2.2.1 pc with
        | some (len, t) => zk_uq KT P cc nL C hd stop k false cells slots (pc + len) (zk_pu x x.2.2.1 t [] [])
        | none =>
          match zk_fc1 KT C.2.2.1 x P.2.2.2.2.2.1 pc with
          | some (Cc, outs) => bif Nat.ble (cells + Cc.2.2.2.1) C.2.2.2.1 && Nat.ble (slots + Cc.2.2.2.2) C.2.2.2.2 then zk_ca (outs.map fun o => zk_uq KT P cc nL C hd stop k false (cells + Cc.2.2.2.1) (slots + Cc.2.2.2.2) (pc + 3) o) else none
          | none =>
            match zk_fd P.2.2.2.1 pc with
            | some _ => none
            | none =>
              match decode cc pc with
              | .error _ => none
              | .ok (ins, len) =>
                match zk_sA nL x pc ins with
                | some o => bif Nat.beq len (zk_lenA ins) then zk_uq KT P cc nL C hd stop k false cells slots o.1 o.2 else none
                | none =>
                  match zk_sB x pc ins with
                  | some outs => bif (Nat.beq (zk_lenB ins) 0 || Nat.beq len (zk_lenB ins)) then zk_ca (outs.map fun o => zk_uq KT P cc nL C hd stop k false cells slots o.1 o.2) else none
                  | none =>
                    match zk_sC KT P.1 P.2.1 C.2.2.1 x pc ins with
                    | some o => bif Nat.beq len (zk_lenC ins) then zk_uq KT P cc nL C hd stop k false cells slots o.1 o.2 else none
                    | none => none
theorem zk_bif {α : Type} {b : Bool} {o : Option α} {a : α} (h : (bif b then o else none) = some a) : b = true ∧ o = some a := by
  cases b
  · cases h
  · exact ⟨rfl, h⟩
set_option maxHeartbeats 4000000 in
theorem zk_uq_ok {KT : List zk_K} {P : zk_P} {cc : ByteArray} {nL : Nat} {C : zk_C} {rt : Option FieldType} {hd : List zk_Hd} {A : Option (List zk_M)} {stop : Nat} : ∀ {k : Nat} {first : Bool} {cells slots pc : Nat} {x : zk_S} {L : List (Nat × Nat × Nat × Nat × zk_S)}, zk_uq KT P cc nL C hd stop k first cells slots pc x = some L → (∀ q ∈ L, zk_run KT P cc nL C rt hd A q.1 false q.2.1 q.2.2.1 q.2.2.2.1 q.2.2.2.2 = true) → zk_run KT P cc nL C rt hd A k first cells slots pc x = true := by
  intro k
  induction k with
  | zero => intro first cells slots pc x L h _; cases h
  | succ k ih =>
    intro first cells slots pc x L h hL
    unfold zk_uq at h
    split at h
    · rename_i hs
      cases h
      obtain ⟨h1, h2⟩ := Bool.and_eq_true_iff.mp hs
      have h1 : first = false := by simpa using h1
      subst h1
      exact hL _ List.mem_cons_self
    · split at h
      · cases h
      · rename_i hne
        unfold zk_run
        split
        · rename_i hh hq
          exact (hne _ rfl hh).elim
        · split at h
          · cases h
          · rename_i x1 hx1
            rw [hx1]
            dsimp only
            split at h
            · rename_i len t hs
              rw [hs]
              exact ih h hL
            · rename_i hs
              rw [hs]
              dsimp only
              split at h
              · rename_i Cc outs hc
                rw [hc]
                dsimp only
                obtain ⟨b1, h⟩ := zk_bif h
                refine Bool.and_eq_true_iff.mpr ⟨b1, List.all_eq_true.mpr fun o hm => ?_⟩
                obtain ⟨a, a1, a2⟩ := zk_ca_ok h _ (List.mem_map_of_mem hm)
                exact ih a1 fun q hq => hL q (a2 q hq)
              · rename_i hc
                rw [hc]
                dsimp only
                split at h
                · cases h
                · rename_i ha
                  rw [ha]
                  dsimp only
                  split at h
                  · cases h
                  · rename_i ins len hdg
                    rw [hdg]
                    dsimp only
                    split at h
                    · rename_i o ho
                      rw [ho]
                      obtain ⟨b1, b2⟩ := zk_bif h
                      exact Bool.and_eq_true_iff.mpr ⟨b1, ih b2 hL⟩
                    · rename_i ho
                      rw [ho]
                      dsimp only
                      split at h
                      · rename_i outs hb
                        rw [hb]
                        obtain ⟨b1, b2⟩ := zk_bif h
                        refine Bool.and_eq_true_iff.mpr ⟨b1, List.all_eq_true.mpr fun o hm => ?_⟩
                        obtain ⟨a, a1, a2⟩ := zk_ca_ok b2 _ (List.mem_map_of_mem hm)
                        exact ih a1 fun q hq => hL q (a2 q hq)
                      · rename_i hb
                        rw [hb]
                        dsimp only
                        split at h
                        · rename_i o ho2
                          rw [ho2]
                          obtain ⟨b1, b2⟩ := zk_bif h
                          exact Bool.and_eq_true_iff.mpr ⟨b1, ih b2 hL⟩
                        · cases h
def zk_rj (KT : List zk_K) (P : zk_P) (cc : ByteArray) (nL : Nat) (C : zk_C) (rt : Option FieldType) (hd : List zk_Hd) (A : Option (List zk_M)) (stop k : Nat) (first : Bool) (cells slots pc : Nat) (x : zk_S) (j : Nat) : Bool :=
  match zk_uq KT P cc nL C hd stop k first cells slots pc x with
  | some L => (match L[j]? with
    | some q => zk_run KT P cc nL C rt hd A q.1 false q.2.1 q.2.2.1 q.2.2.2.1 q.2.2.2.2
    | none => true)
  | none => false
def zk_rjn (KT : List zk_K) (P : zk_P) (cc : ByteArray) (nL : Nat) (C : zk_C) (hd : List zk_Hd) (stop k : Nat) (first : Bool) (cells slots pc : Nat) (x : zk_S) (n : Nat) : Bool :=
  match zk_uq KT P cc nL C hd stop k first cells slots pc x with
  | some L => Nat.ble L.length n
  | none => false
theorem zk_rj_ok {KT : List zk_K} {P : zk_P} {cc : ByteArray} {nL : Nat} {C : zk_C} {rt : Option FieldType} {hd : List zk_Hd} {A : Option (List zk_M)} {stop k n : Nat} {first : Bool} {cells slots pc : Nat} {x : zk_S} (h : zk_rjn KT P cc nL C hd stop k first cells slots pc x n = true) (hj : ∀ j : Nat, j < n → zk_rj KT P cc nL C rt hd A stop k first cells slots pc x j = true) : zk_run KT P cc nL C rt hd A k first cells slots pc x = true := by
  unfold zk_rjn at h
  split at h
  · rename_i L hL
    have hlen : L.length ≤ n := Nat.le_of_ble_eq_true h
    refine zk_uq_ok hL fun q hq => ?_
    obtain ⟨j, hjl, hjq⟩ := List.mem_iff_getElem.mp hq
    have := hj j (by omega)
    unfold zk_rj at this
    rw [hL] at this
    simp only [List.getElem?_eq_getElem hjl, hjq] at this
    exact this
  · cases h
end
