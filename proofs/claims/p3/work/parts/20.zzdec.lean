/-! ENGINE, 21: a method's instructions decoded once, for all its contexts -/
noncomputable section
abbrev zk_DT : Type := List (Nat × List (Nat × Instr × Nat))
def zk_dg (T : zk_DT) (pc : Nat) : Option (Instr × Nat) := zk_fd ((zk_fd T (pc / 32)).getD []) pc
def zk_dw (A : ByteArray) : List (Nat × Instr × Nat) → Nat → List UInt8 → Option (Nat × List UInt8)
  | [], pc, l => some (pc, l)
  | q :: r, pc, l => bif Nat.beq q.1 pc && zk_d2 A q.1 l q.2.2 q.2.1 then zk_dw A r (q.1 + q.2.2) (l.drop q.2.2) else none
def zk_dwc (A : ByteArray) : zk_DT → Nat → List UInt8 → Bool
  | [], _, _ => true
  | c :: r, pc, l => match zk_dw A c.2 pc l with
    | some o => zk_dwc A r o.1 o.2
    | none => false
def zk_dok (cc : ByteArray) (T : zk_DT) : Bool := zk_dwc cc T 0 cc.data.toList
theorem zk_dw_ok {A : ByteArray} : ∀ {rows : List (Nat × Instr × Nat)} {pc : Nat} {l : List UInt8} {o : Nat × List UInt8}, zk_dw A rows pc l = some o → (∀ j : Nat, l[j]? = A.data.toList[pc + j]?) → (∀ q ∈ rows, decode A q.1 = .ok q.2) ∧ ∀ j : Nat, o.2[j]? = A.data.toList[o.1 + j]?
  | [], pc, l, o, h, hl => by
    have h : some (pc, l) = some o := h
    cases h
    exact ⟨fun q hq => absurd hq List.not_mem_nil, hl⟩
  | q :: r, pc, l, o, h, hl => by
    have g : (bif Nat.beq q.1 pc && zk_d2 A q.1 l q.2.2 q.2.1 then zk_dw A r (q.1 + q.2.2) (l.drop q.2.2) else none) = some o := h
    clear h
    cases e : (Nat.beq q.1 pc && zk_d2 A q.1 l q.2.2 q.2.1)
    · rw [e] at g; cases g
    · rw [e] at g
      have g2 : zk_dw A r (q.1 + q.2.2) (l.drop q.2.2) = some o := g
      clear g
      obtain ⟨e1, e2⟩ := Bool.and_eq_true_iff.mp e
      have e1 := Nat.eq_of_beq_eq_true e1
      have hq : ∀ j : Nat, l[j]? = A.data.toList[q.1 + j]? := fun j => by rw [e1]; exact hl j
      obtain ⟨i1, i2⟩ := zk_dw_ok g2 (fun j => by rw [List.getElem?_drop, hq, Nat.add_assoc])
      refine ⟨fun z hz => ?_, i2⟩
      rcases List.mem_cons.mp hz with rfl | hz
      · exact zk_d2_ok hq e2
      · exact i1 z hz
theorem zk_dwc_ok {A : ByteArray} : ∀ {T : zk_DT} {pc : Nat} {l : List UInt8}, zk_dwc A T pc l = true → (∀ j : Nat, l[j]? = A.data.toList[pc + j]?) → ∀ c ∈ T, ∀ q ∈ c.2, decode A q.1 = .ok q.2
  | [], _, _, _, _, c, hc => absurd hc List.not_mem_nil
  | c :: r, pc, l, h, hl, d, hd => by
    unfold zk_dwc at h
    split at h
    · rename_i o ho
      obtain ⟨i1, i2⟩ := zk_dw_ok ho hl
      rcases List.mem_cons.mp hd with rfl | hd
      · exact i1
      · exact zk_dwc_ok h i2 d hd
    · cases h
theorem zk_dg_ok {cc : ByteArray} {T : zk_DT} (hT : zk_dok cc T = true) {pc : Nat} {r : Instr × Nat} (e : zk_dg T pc = some r) : decode cc pc = .ok r := by
  have h1 := zk_fd_ok e
  cases h2 : zk_fd T (pc / 32) with
  | none => rw [h2] at h1; exact absurd h1 List.not_mem_nil
  | some l =>
    rw [h2] at h1
    have h1 : (pc, r) ∈ l := h1
    exact zk_dwc_ok hT (fun j => by rw [Nat.zero_add]) (pc / 32, l) (zk_fd_ok h2) (pc, r) h1
def zk_runD (KT : List zk_K) (P : zk_P) (T : zk_DT) (nL : Nat) (C : zk_C) (rt : Option FieldType) (hd : List zk_Hd) (A : Option (List zk_M)) : Nat → Bool → Nat → Nat → Nat → zk_S → Bool
  | 0, _, _, _, _, _ => false
  | k + 1, first, cells, slots, pc, x =>
    match first, zk_fd hd pc with
    | false, some h => zk_jp KT C.1.1 A cells slots x h
    | _, _ =>
      match zk_rts KT C.2.2.1 x ((zk_fd P.2.2.2.2.2.2 pc).getD []) with
      | none => false
      | some x =>
        match zk_fd P.2.2.2.2.1 pc with
        | some (len, t) => zk_runD KT P T nL C rt hd A k false cells slots (pc + len) (zk_pu x x.2.2.1 t [] [])
        | none =>
          match zk_fc1 KT C.2.2.1 x P.2.2.2.2.2.1 pc with
          | some (Cc, outs) => Nat.ble (cells + Cc.2.2.2.1) C.2.2.2.1 && Nat.ble (slots + Cc.2.2.2.2) C.2.2.2.2 && outs.all fun o => zk_runD KT P T nL C rt hd A k false (cells + Cc.2.2.2.1) (slots + Cc.2.2.2.2) (pc + 3) o
          | none =>
            match zk_fd P.2.2.2.1 pc with
            | some (len, kk, d) => (match zk_ar KT C.2.2.2.1 C.2.2.2.2 x cells slots kk d with
              | some o => zk_runD KT P T nL C rt hd A k false o.1 o.2.1 (pc + len) o.2.2
              | none => false)
            | none =>
              match zk_dg T pc with
              | none => false
              | some (ins, len) =>
                match zk_sA nL x pc ins with
                | some o => Nat.beq len (zk_lenA ins) && zk_runD KT P T nL C rt hd A k false cells slots o.1 o.2
                | none =>
                  match zk_sB x pc ins with
                  | some outs => (Nat.beq (zk_lenB ins) 0 || Nat.beq len (zk_lenB ins)) && outs.all fun o => zk_runD KT P T nL C rt hd A k false cells slots o.1 o.2
                  | none =>
                    match zk_sC KT P.1 P.2.1 C.2.2.1 x pc ins with
                    | some o => Nat.beq len (zk_lenC ins) && zk_runD KT P T nL C rt hd A k false cells slots o.1 o.2
                    | none =>
                      match zk_sN KT P.2.2.1 C.2.2.2.1 C.2.2.2.2 x cells slots pc ins with
                      | some o => Nat.beq len 3 && zk_runD KT P T nL C rt hd A k false o.1 o.2.1 o.2.2.1 o.2.2.2
                      | none => Nat.beq len 1 && Nat.ble cells C.2.2.2.1 && Nat.ble slots C.2.2.2.2 && zk_sR KT C rt x ins
set_option maxHeartbeats 4000000 in
theorem zk_runD_ok {KT : List zk_K} {P : zk_P} {cc : ByteArray} {T : zk_DT} {nL : Nat} {C : zk_C} {rt : Option FieldType} {hd : List zk_Hd} {A : Option (List zk_M)} (hT : zk_dok cc T = true) : ∀ {k : Nat} {first : Bool} {cells slots pc : Nat} {x : zk_S}, zk_runD KT P T nL C rt hd A k first cells slots pc x = true → zk_run KT P cc nL C rt hd A k first cells slots pc x = true := by
  intro k
  induction k with
  | zero => intro first cells slots pc x h; cases h
  | succ k ih =>
    intro first cells slots pc x h
    unfold zk_runD at h
    unfold zk_run
    split at h
    · rename_i hq
      rw [hq]
      exact h
    · rename_i hne
      split
      · exact (hne _ rfl (by assumption)).elim
      · split at h
        · cases h
        · rename_i x1 hx1
          rw [hx1]
          dsimp only
          split at h
          · rename_i len t hs
            rw [hs]
            exact ih h
          · rename_i hs
            rw [hs]
            dsimp only
            split at h
            · rename_i Cc outs hc
              rw [hc]
              dsimp only
              obtain ⟨b1, h⟩ := Bool.and_eq_true_iff.mp h
              exact Bool.and_eq_true_iff.mpr ⟨b1, List.all_eq_true.mpr fun o hm => ih (List.all_eq_true.mp h o hm)⟩
            · rename_i hc
              rw [hc]
              dsimp only
              split at h
              · rename_i len kk d ha
                rw [ha]
                dsimp only
                split at h
                · rename_i o ho
                  rw [ho]
                  exact ih h
                · cases h
              · rename_i ha
                rw [ha]
                dsimp only
                split at h
                · cases h
                · rename_i ins len hdg
                  rw [zk_dg_ok hT hdg]
                  dsimp only
                  split at h
                  · rename_i o ho
                    rw [ho]
                    obtain ⟨b1, b2⟩ := Bool.and_eq_true_iff.mp h
                    exact Bool.and_eq_true_iff.mpr ⟨b1, ih b2⟩
                  · rename_i ho
                    rw [ho]
                    dsimp only
                    split at h
                    · rename_i outs hb
                      rw [hb]
                      obtain ⟨b1, b2⟩ := Bool.and_eq_true_iff.mp h
                      exact Bool.and_eq_true_iff.mpr ⟨b1, List.all_eq_true.mpr fun o hm => ih (List.all_eq_true.mp b2 o hm)⟩
                    · rename_i hb
                      rw [hb]
                      dsimp only
                      split at h
                      · rename_i o hc2
                        rw [hc2]
                        obtain ⟨b1, b2⟩ := Bool.and_eq_true_iff.mp h
                        exact Bool.and_eq_true_iff.mpr ⟨b1, ih b2⟩
                      · rename_i hc2
                        rw [hc2]
                        dsimp only
                        split at h
                        · rename_i o hn
                          rw [hn]
                          obtain ⟨b1, b2⟩ := Bool.and_eq_true_iff.mp h
                          exact Bool.and_eq_true_iff.mpr ⟨b1, ih b2⟩
                        · rename_i hn
                          rw [hn]
                          exact h
def zk_chkD (KT : List zk_K) (P : zk_P) (T : zk_DT) (nL : Nat) (C : zk_C) (rt : Option FieldType) (hd xs : List zk_Hd) (fuel N : Nat) : Bool :=
  (C.1.2.2.1.all fun y => Nat.blt y C.1.1 && (Nat.beq (zk_lk C.1.2.2.2.1 y).1 0 || Nat.beq (zk_lk C.1.2.2.2.1 y).1 2 || Nat.beq (zk_lk C.1.2.2.2.1 y).1 1)) &&
  Nat.ble ((C.1.2.2.1.map fun y => bif Nat.beq (zk_lk C.1.2.2.2.1 y).1 1 then 2 else 1).sum) nL &&
  zk_runD KT P T nL C rt (hd ++ xs) none fuel false 0 0 0 (zk_x0 C) &&
  hd.all fun q => Nat.ble q.2.2.1.length N && (q.2.2.1.all fun z => (match z.2.1 with | some y => Nat.blt y q.2.1.1 | none => true) && (match z.2.2 with | some y => Nat.blt y q.2.1.1 | none => true)) && Nat.ble C.1.1 q.2.1.1 && zk_runD KT P T nL C rt (hd ++ xs) (some q.2.2.1) fuel true q.2.2.2.1 q.2.2.2.2 q.1 q.2.1
theorem zk_chkD_ok {KT : List zk_K} {P : zk_P} {cc : ByteArray} {T : zk_DT} {nL : Nat} {C : zk_C} {rt : Option FieldType} {hd xs : List zk_Hd} {fuel N : Nat} (hT : zk_dok cc T = true) (h : zk_chkD KT P T nL C rt hd xs fuel N = true) : zk_chk KT P cc nL C rt hd xs fuel N = true := by
  unfold zk_chkD at h
  obtain ⟨h, h4⟩ := Bool.and_eq_true_iff.mp h
  obtain ⟨h, h3⟩ := Bool.and_eq_true_iff.mp h
  unfold zk_chk
  refine Bool.and_eq_true_iff.mpr ⟨Bool.and_eq_true_iff.mpr ⟨h, zk_runD_ok hT h3⟩, List.all_eq_true.mpr fun q hq => ?_⟩
  obtain ⟨a, b⟩ := Bool.and_eq_true_iff.mp (List.all_eq_true.mp h4 q hq)
  exact Bool.and_eq_true_iff.mpr ⟨a, zk_runD_ok hT b⟩
def zk_chfD (KT : List zk_K) (P : zk_P) (T : zk_DT) (nL : Nat) (C : zk_C) (rt : Option FieldType) (hd xs : List zk_Hd) (q0 : zk_Hd) (fuel N : Nat) : Bool :=
  zk_runD KT P T nL C rt (hd ++ xs) none fuel true q0.2.2.2.1 q0.2.2.2.2 q0.1 q0.2.1 &&
  hd.all fun q => Nat.ble q.2.2.1.length N && (q.2.2.1.all fun z => (match z.2.1 with | some y => Nat.blt y q.2.1.1 | none => true) && (match z.2.2 with | some y => Nat.blt y q.2.1.1 | none => true)) && Nat.ble C.1.1 q.2.1.1 && zk_runD KT P T nL C rt (hd ++ xs) (some q.2.2.1) fuel true q.2.2.2.1 q.2.2.2.2 q.1 q.2.1
theorem zk_chfD_ok {KT : List zk_K} {P : zk_P} {cc : ByteArray} {T : zk_DT} {nL : Nat} {C : zk_C} {rt : Option FieldType} {hd xs : List zk_Hd} {q0 : zk_Hd} {fuel N : Nat} (hT : zk_dok cc T = true) (h : zk_chfD KT P T nL C rt hd xs q0 fuel N = true) : zk_chf KT P cc nL C rt hd xs q0 fuel N = true := by
  unfold zk_chfD at h
  obtain ⟨h3, h4⟩ := Bool.and_eq_true_iff.mp h
  unfold zk_chf
  refine Bool.and_eq_true_iff.mpr ⟨zk_runD_ok hT h3, List.all_eq_true.mpr fun q hq => ?_⟩
  obtain ⟨a, b⟩ := Bool.and_eq_true_iff.mp (List.all_eq_true.mp h4 q hq)
  exact Bool.and_eq_true_iff.mpr ⟨a, zk_runD_ok hT b⟩
end
