/-! ENGINE, 16: a run moved up in its room -/
noncomputable section
def zk_hs (T U : Nat) (q : zk_Hd) : zk_Hd := (q.1, q.2.1, q.2.2.1, q.2.2.2.1 + T, q.2.2.2.2 + U)
def zk_cmx (C : zk_C) (M N : Nat) : zk_C := (C.1, C.2.1, C.2.2.1, M, N)
theorem zk_fd_hs (T U : Nat) : ∀ (hd : List zk_Hd) (pc : Nat), zk_fd (hd.map (zk_hs T U)) pc = (zk_fd hd pc).map fun h => (h.1, h.2.1, h.2.2.1 + T, h.2.2.2 + U)
  | [], _ => rfl
  | q :: r, pc => by
    have ih := zk_fd_hs T U r pc
    show (bif Nat.beq q.1 pc then some (zk_hs T U q).2 else zk_fd (r.map (zk_hs T U)) pc) = _
    rw [ih]
    show _ = (bif Nat.beq q.1 pc then some q.2 else zk_fd r pc).map _
    cases Nat.beq q.1 pc <;> rfl
theorem zk_ble_up {a b T M : Nat} (h : Nat.ble a b = true) (hM : b + T ≤ M) : Nat.ble (a + T) M = true := by
  have := Nat.le_of_ble_eq_true h
  exact Nat.ble_eq_true_of_le (by omega)
theorem zk_ble_up2 {a b c T M : Nat} (h : Nat.ble (a + c) b = true) (hM : b + T ≤ M) : Nat.ble (a + T + c) M = true := by
  have := Nat.le_of_ble_eq_true h
  exact Nat.ble_eq_true_of_le (by omega)
theorem zk_cal_up {KT : List zk_K} {E : List (Nat × Nat)} {mc ms M N T U : Nat} {x : zk_S} {cells slots : Nat} {C : zk_C} {outs : List zk_S} (h1 : mc + T ≤ M) (h2 : ms + U ≤ N) (h : zk_cal KT E mc ms x cells slots C = some outs) : zk_cal KT E M N x (cells + T) (slots + U) C = some outs := by
  unfold zk_cal at h ⊢
  obtain ⟨e, h⟩ := zk_bs1 h
  subst h
  simp only [Bool.and_eq_true] at e
  obtain ⟨⟨e1, e2⟩, e3⟩ := e
  have : ∀ b : Bool, b = true → ∀ o : Option (List zk_S), (bif b then o else none) = o := fun b hb o => by rw [hb]; rfl
  refine this _ ?_ _
  simp only [Bool.and_eq_true]
  exact ⟨⟨e1, zk_ble_up2 e2 h1⟩, zk_ble_up2 e3 h2⟩
theorem zk_sN_up {KT : List zk_K} {np : List (Nat × Nat × List Nat)} {mc ms M N T U : Nat} {x : zk_S} {cells slots pc : Nat} {ins : Instr} {o : Nat × Nat × Nat × zk_S} (h1 : mc + T ≤ M) (h2 : ms + U ≤ N) (h : zk_sN KT np mc ms x cells slots pc ins = some o) : zk_sN KT np M N x (cells + T) (slots + U) pc ins = some (o.1 + T, o.2.1 + U, o.2.2) := by
  unfold zk_sN at h ⊢
  split at h
  · rename_i idx
    split at h
    · rename_i k df hfd
      try rw [hfd]
      try dsimp only
      split at h
      · rename_i hni
        try rw [hni]
        try dsimp only
        obtain ⟨e, h⟩ := zk_bs1 h
        subst h
        simp only [Bool.and_eq_true] at e
        obtain ⟨⟨e1, e2⟩, e3⟩ := e
        have : ∀ b : Bool, b = true → ∀ o : Option (Nat × Nat × Nat × zk_S), (bif b then o else none) = o := fun b hb o => by rw [hb]; rfl
        rw [this _ (by simp only [Bool.and_eq_true]; exact ⟨⟨e1, zk_ble_up2 e2 h1⟩, zk_ble_up2 e3 h2⟩)]
        show some (cells + T + 1, slots + U + df.length, pc + 3, _) = some (cells + 1 + T, slots + df.length + U, pc + 3, _)
        rw [Nat.add_right_comm cells, Nat.add_right_comm slots]
      · cases h
    · cases h
  · cases h
theorem zk_ar_up {KT : List zk_K} {mc ms M N T U : Nat} {x : zk_S} {cells slots k d : Nat} {o : Nat × Nat × zk_S} (h1 : mc + T ≤ M) (h2 : ms + U ≤ N) (h : zk_ar KT mc ms x cells slots k d = some o) : zk_ar KT M N x (cells + T) (slots + U) k d = some (o.1 + T, o.2.1 + U, o.2.2) := by
  unfold zk_ar at h ⊢
  split at h
  · rename_i z r hst
    try rw [hst]
    try dsimp only
    split at h
    · rename_i t ht hni
      try rw [ht, hni]
      try dsimp only
      obtain ⟨e, h⟩ := zk_bs1 h
      subst h
      simp only [Bool.and_eq_true] at e
      obtain ⟨⟨e1, e2⟩, e3⟩ := e
      have : ∀ b : Bool, b = true → ∀ o : Option (Nat × Nat × zk_S), (bif b then o else none) = o := fun b hb o => by rw [hb]; rfl
      rw [this _ (by simp only [Bool.and_eq_true]; exact ⟨⟨e1, zk_ble_up2 e2 h1⟩, zk_ble_up2 e3 h2⟩)]
      simp only [Nat.add_right_comm]
    · cases h
  · cases h
set_option maxHeartbeats 4000000 in
theorem zk_run_up {KT : List zk_K} {P : zk_P} {cc : ByteArray} {nL : Nat} {C : zk_C} {rt : Option FieldType} {hd : List zk_Hd} {A : Option (List zk_M)} {M N T U : Nat} (h1 : C.2.2.2.1 + T ≤ M) (h2 : C.2.2.2.2 + U ≤ N) : ∀ {k : Nat} {first : Bool} {cells slots pc : Nat} {x : zk_S}, zk_run KT P cc nL C rt hd A k first cells slots pc x = true → zk_run KT P cc nL (zk_cmx C M N) rt (hd.map (zk_hs T U)) A k first (cells + T) (slots + U) pc x = true := by
  intro k
  induction k with
  | zero => intro first cells slots pc x h; simp [zk_run] at h
  | succ k ih =>
    intro first cells slots pc x h
    unfold zk_run at h ⊢
    rw [zk_fd_hs]
    split at h
    · rename_i hh hq
      rw [hq]
      unfold zk_jp at h
      simp only [Bool.and_eq_true] at h
      obtain ⟨⟨⟨⟨c1, c2⟩, c3⟩, c4⟩, c5⟩ := h
      show zk_jp _ _ _ _ _ _ _ = true
      unfold zk_jp
      simp only [Bool.and_eq_true]
      refine ⟨⟨⟨⟨c1, c2⟩, c3⟩, ?_⟩, ?_⟩
      · exact zk_ble_up c4 (Nat.le_refl _)
      · exact zk_ble_up c5 (Nat.le_refl _)
    · rename_i hne
      split
      · rename_i hh hq
        cases hf : zk_fd hd pc with
        | none => rw [hf] at hq; cases hq
        | some q => exact (hne q rfl hf).elim
      · show (match zk_rts KT C.2.2.1 x ((zk_fd P.2.2.2.2.2.2 pc).getD []) with | none => false | some x => _) = true
        split at h
        · cases h
        · rename_i x1 hx1
          try rw [hx1]
          try dsimp only
          split at h
          · rename_i len t hs
            try rw [hs]
            exact ih h
          · rename_i hs
            try rw [hs]
            try dsimp only
            split at h
            · rename_i Cc outs hc
              have hc2 : zk_fc1 KT (zk_cmx C M N).2.2.1 x1 P.2.2.2.2.2.1 pc = some (Cc, outs) := hc
              try rw [hc2]
              try dsimp only
              simp only [Bool.and_eq_true] at h ⊢
              obtain ⟨⟨r1, r2⟩, h⟩ := h
              refine ⟨⟨zk_ble_up2 r1 h1, zk_ble_up2 r2 h2⟩, List.all_eq_true.mpr fun o hm => ?_⟩
              have := ih (List.all_eq_true.mp h o hm)
              rw [Nat.add_right_comm cells, Nat.add_right_comm slots]
              exact this
            · rename_i hc
              have hc2 : zk_fc1 KT (zk_cmx C M N).2.2.1 x1 P.2.2.2.2.2.1 pc = none := hc
              try rw [hc2]
              try rw [hc]
              try dsimp only
              split at h
              · rename_i len kk d ha
                try rw [ha]
                try dsimp only
                split at h
                · rename_i o ho
                  show (match zk_ar KT M N x1 (cells + T) (slots + U) kk d with | some o => _ | none => false) = true
                  rw [zk_ar_up h1 h2 ho]
                  exact ih h
                · cases h
              · rename_i ha
                try rw [ha]
                try dsimp only
                split at h
                · cases h
                · rename_i ins len hdg
                  try rw [hdg]
                  try dsimp only
                  split at h
                  · rename_i o ho
                    try rw [ho]
                    obtain ⟨b1, b2⟩ := Bool.and_eq_true_iff.mp h
                    exact Bool.and_eq_true_iff.mpr ⟨b1, ih b2⟩
                  · rename_i ho
                    try rw [ho]
                    try dsimp only
                    split at h
                    · rename_i outs hb
                      try rw [hb]
                      obtain ⟨b1, b2⟩ := Bool.and_eq_true_iff.mp h
                      exact Bool.and_eq_true_iff.mpr ⟨b1, List.all_eq_true.mpr fun o hm => ih (List.all_eq_true.mp b2 o hm)⟩
                    · rename_i hb
                      try rw [hb]
                      try dsimp only
                      split at h
                      · rename_i o ho2
                        show (match zk_sC KT P.1 P.2.1 C.2.2.1 x1 pc ins with | some o => _ | none => _) = true
                        try rw [ho2]
                        obtain ⟨b1, b2⟩ := Bool.and_eq_true_iff.mp h
                        exact Bool.and_eq_true_iff.mpr ⟨b1, ih b2⟩
                      · rename_i hsC
                        show (match zk_sC KT P.1 P.2.1 C.2.2.1 x1 pc ins with | some o => _ | none => _) = true
                        try rw [hsC]
                        try dsimp only
                        split at h
                        · rename_i o ho3
                          show (match zk_sN KT P.2.2.1 M N x1 (cells + T) (slots + U) pc ins with | some o => _ | none => _) = true
                          rw [zk_sN_up h1 h2 ho3]
                          obtain ⟨b1, b2⟩ := Bool.and_eq_true_iff.mp h
                          exact Bool.and_eq_true_iff.mpr ⟨b1, ih b2⟩
                        · simp only [Bool.and_eq_true] at h
                          obtain ⟨⟨⟨l1, l2⟩, l3⟩, l4⟩ := h
                          show (match zk_sN KT P.2.2.1 M N x1 (cells + T) (slots + U) pc ins with | some o => _ | none => _) = true
                          have hn : zk_sN KT P.2.2.1 M N x1 (cells + T) (slots + U) pc ins = none := by
                            cases ins <;> first | rfl | (simp [zk_sR] at l4)
                          rw [hn]
                          simp only [Bool.and_eq_true]
                          exact ⟨⟨⟨l1, zk_ble_up l2 h1⟩, zk_ble_up l3 h2⟩, l4⟩
end
