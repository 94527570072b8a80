/-! ENGINE, 19: a loop whose turns go through cases -/
noncomputable section
section ZTX
variable {p : Program} {l : Launch} {e : Env} {R : Room} {s : State} {m : MethodId} {args : Array Value} {below : List Frame} {meth : Method} {c : Code} {Q : State → Prop} {KT : List zk_K} {D : zk_D} {base : Nat} {Hb : Heap} {n0 nL : Nat} {v0 : Nat → Value} {E : List (Nat × Nat)} {G0 : Nat → Nat} {H0 : Heap} {cc : ByteArray}
variable {P : zk_P} {AT : List FieldType} {C : zk_C}
/-- a place, with a state, a measure that is at most k, and what has been made -/
def zk_HW (p : Program) (l : Launch) (e : Env) (R : Room) (s : State) (m : MethodId) (args : Array Value) (below : List Frame) (meth : Method) (c : Code) (Q : State → Prop) (KT : List zk_K) (D : zk_D) (base : Nat) (Hb : Heap) (nL : Nat) (C : zk_C) (G0 : Nat → Nat) (H0 : Heap) (v : Nat → Value) (pc : Nat) (st : zk_S) (mz : zk_M) (cells slots k : Nat) : Prop :=
  ∀ (G : Nat → Nat) (H : Heap) (locs : List Loc) (ls : Array Slot) (vs : List Value) (v' : Nat → Value), zk_mv v' mz ≤ k → zk_hp KT D base Hb G H → zk_ev KT D C.2.2.1 G0 H0 G H → (∀ z ∈ locs, base ≤ z.base) → zk_F KT D G H v' st → zk_LS C.1.1 v nL ls vs v' st → W p l e R s m args below meth c H locs cells slots Q (F0 m pc ls vs)
theorem zk_LS_own {n0 : Nat} {v0 : Nat → Value} {nL : Nat} {ls : Array Slot} {vs : List Value} {v' : Nat → Value} {st : zk_S} (hL : zk_LS n0 v0 nL ls vs v' st) : zk_LS st.1 v' nL ls vs v' st ∧ ∀ y, y < n0 → v' y = v0 y := by
  obtain ⟨n', loc, stk, rest⟩ := st
  exact ⟨⟨Nat.le_refl _, fun _ _ => rfl, hL.2.2⟩, hL.2.1⟩
theorem zk_mv_s {v : Nat → Value} {mz : zk_M} : zk_mv v (mz.1 + 1, mz.2) ≤ zk_mv v mz + 1 := by
  obtain ⟨a, b, c⟩ := mz
  unfold zk_mv
  dsimp only
  omega
set_option maxHeartbeats 4000000 in
theorem zk_turn_case (hx : p.tables.exec = Jvm.exec) (hb : c.code = cc) {rt : Option FieldType} {pc q T U fuel : Nat} {st stC : zk_S} {mz mzC : zk_M} {v : Nat → Value} (hw : zk_wd s KT D AT) (hok : zk_ok p l e R s m args below meth c Q KT D base Hb nL cc P C.2.2.2.2) (hR1 : R.cells = C.2.2.2.1) (hR2 : R.slots = C.2.2.2.2) (hr : meth.sig.returnType = rt) (hlocks : meth.locks = false) (hQ : ∀ t : State, MQ below (zk_Qf KT D base Hb C v G0 H0) args s C.2.2.2.1 C.2.2.2.2 (fun q => base ≤ q) t → Q t)
    (hrun : zk_run KT P cc nL (zk_cmx C T U) rt [(pc, st, [mz], T, U)] (some [mzC]) fuel true 0 0 q stC = true) (hst : Nat.ble C.1.1 stC.1 = true) (hsc : ((match mzC.2.1 with | some y => Nat.blt y stC.1 | none => true) && (match mzC.2.2 with | some y => Nat.blt y stC.1 | none => true)) = true)
    {cells slots k : Nat} (hc : cells + T ≤ C.2.2.2.1) (hs : slots + U ≤ C.2.2.2.2) (ih : ∀ k', k = k' + 1 → zk_HW p l e R s m args below meth c Q KT D base Hb nL C G0 H0 v pc st mz (cells + T) (slots + U) k') : zk_HW p l e R s m args below meth c Q KT D base Hb nL C G0 H0 v q stC mzC cells slots k := by
  intro G H locs ls vs v' hk hp he hl hF hL
  have hst := Nat.le_of_ble_eq_true hst
  obtain ⟨hLn, hvp⟩ := zk_LS_own hL
  have hup := zk_run_up (C := zk_cmx C T U) (M := C.2.2.2.1) (N := C.2.2.2.2) (T := cells) (U := slots) (by show T + cells ≤ _; omega) (by show U + slots ≤ _; omega) hrun
  rw [Nat.zero_add, Nat.zero_add] at hup
  exact zk_run_ok (C := C) (n0 := stC.1) (v0 := v') (vP := v) (A := some [mzC]) (B := [zk_mv v' mzC]) (N := 1) (E := C.2.2.1) (G0 := G0) (H0 := H0) hx hb hw hok hR1 hR2 hst hvp rfl hr hlocks hQ
    (fun a ha => by
      cases ha
      exact ⟨Nat.le_refl _, fun v'' hv'' => by rw [List.map_cons, List.map_nil, zk_mv_eq hsc hv'']⟩)
    (fun q' hq' G' H' locs' ls' vs' v'' a1 a2 a3 a4 a5 a6 => by
      rw [List.map_cons, List.map_nil] at hq'
      have hq' := List.mem_singleton.mp hq'
      subst hq'
      rcases a6 with a6 | a6
      · cases a6
      · rcases a6 with a6 | ⟨-, a6⟩
        · have a6 : zk_mv v'' mz < zk_mv v' mzC := a6
          have := ih (k - 1) (by omega) G' H' locs' ls' vs' v'' (by omega) a1 a2 a3 a4 a5
          refine W.widen ?_ ?_ this
          · show T + cells ≤ cells + T; omega
          · show U + slots ≤ slots + U; omega
        · exact absurd a6 id)
    fuel true _ _ _ _ hup G H locs ls vs v' hp he hl hF hLn
set_option maxHeartbeats 4000000 in
theorem zk_turn_loop (hx : p.tables.exec = Jvm.exec) (hb : c.code = cc) {rt : Option FieldType} {pc T U fuel : Nat} {st stC : zk_S} {mz mzC : zk_M} {xs : List Nat} {v : Nat → Value} (hw : zk_wd s KT D AT) (hok : zk_ok p l e R s m args below meth c Q KT D base Hb nL cc P C.2.2.2.2) (hR1 : R.cells = C.2.2.2.1) (hR2 : R.slots = C.2.2.2.2) (hr : meth.sig.returnType = rt) (hlocks : meth.locks = false) (hQ : ∀ t : State, MQ below (zk_Qf KT D base Hb C v G0 H0) args s C.2.2.2.1 C.2.2.2.2 (fun q => base ≤ q) t → Q t)
    (hrun : zk_run KT P cc nL (zk_cmx C T U) rt (xs.map fun q => (q, stC, [mzC], 0, 0)) (some [(mz.1 + 1, mz.2)]) fuel true 0 0 pc st = true) (hst : Nat.ble C.1.1 st.1 = true) (hsc : ((match mz.2.1 with | some y => Nat.blt y st.1 | none => true) && (match mz.2.2 with | some y => Nat.blt y st.1 | none => true)) = true)
    {cells slots k : Nat} (hc : cells + T ≤ C.2.2.2.1) (hs : slots + U ≤ C.2.2.2.2) (hcase : ∀ q ∈ xs, zk_HW p l e R s m args below meth c Q KT D base Hb nL C G0 H0 v q stC mzC cells slots k) : zk_HW p l e R s m args below meth c Q KT D base Hb nL C G0 H0 v pc st mz cells slots k := by
  intro G H locs ls vs v' hk hp he hl hF hL
  have hst := Nat.le_of_ble_eq_true hst
  obtain ⟨hLn, hvp⟩ := zk_LS_own hL
  have hup := zk_run_up (C := zk_cmx C T U) (M := C.2.2.2.1) (N := C.2.2.2.2) (T := cells) (U := slots) (by show T + cells ≤ _; omega) (by show U + slots ≤ _; omega) hrun
  rw [Nat.zero_add, Nat.zero_add] at hup
  have hsc' : ((match (mz.1 + 1, mz.2).2.1 with | some y => Nat.blt y st.1 | none => true) && (match (mz.1 + 1, mz.2).2.2 with | some y => Nat.blt y st.1 | none => true)) = true := hsc
  exact zk_run_ok (C := C) (n0 := st.1) (v0 := v') (vP := v) (A := some [(mz.1 + 1, mz.2)]) (B := [zk_mv v' (mz.1 + 1, mz.2)]) (N := 1) (E := C.2.2.1) (G0 := G0) (H0 := H0) hx hb hw hok hR1 hR2 hst hvp rfl hr hlocks hQ
    (fun a ha => by
      cases ha
      exact ⟨Nat.le_refl _, fun v'' hv'' => by rw [List.map_cons, List.map_nil, zk_mv_eq hsc' hv'']⟩)
    (fun q' hq' G' H' locs' ls' vs' v'' a1 a2 a3 a4 a5 a6 => by
      obtain ⟨q1, hq1, rfl⟩ := List.mem_map.mp hq'
      obtain ⟨q2, hq2, rfl⟩ := List.mem_map.mp hq1
      rcases a6 with a6 | a6
      · cases a6
      · rcases a6 with a6 | ⟨-, a6⟩
        · have a6 : zk_mv v'' mzC < zk_mv v' (mz.1 + 1, mz.2) := a6
          have hsm := zk_mv_s (v := v') (mz := mz)
          have := hcase q2 hq2 G' H' locs' ls' vs' v'' (by omega) a1 a2 a3 a4 a5
          refine W.widen ?_ ?_ this
          · show 0 + cells ≤ cells; omega
          · show 0 + slots ≤ slots; omega
        · exact absurd a6 id)
    fuel true _ _ _ _ hup G H locs ls vs v' hp he hl hF hLn
theorem zk_turnsX (hx : p.tables.exec = Jvm.exec) (hb : c.code = cc) {rt : Option FieldType} {pc T U c0 s0 n fuel : Nat} {st stC : zk_S} {mz mzC : zk_M} {xs : List Nat} {v : Nat → Value} (hw : zk_wd s KT D AT) (hok : zk_ok p l e R s m args below meth c Q KT D base Hb nL cc P C.2.2.2.2) (hR1 : R.cells = C.2.2.2.1) (hR2 : R.slots = C.2.2.2.2) (hr : meth.sig.returnType = rt) (hlocks : meth.locks = false) (hQ : ∀ t : State, MQ below (zk_Qf KT D base Hb C v G0 H0) args s C.2.2.2.1 C.2.2.2.2 (fun q => base ≤ q) t → Q t)
    (hrun : zk_run KT P cc nL (zk_cmx C T U) rt (xs.map fun q => (q, stC, [mzC], 0, 0)) (some [(mz.1 + 1, mz.2)]) fuel true 0 0 pc st = true) (hst : Nat.ble C.1.1 st.1 = true) (hsc : ((match mz.2.1 with | some y => Nat.blt y st.1 | none => true) && (match mz.2.2 with | some y => Nat.blt y st.1 | none => true)) = true)
    (hc : Nat.ble (c0 + T * (n + 1)) C.2.2.2.1 = true) (hs : Nat.ble (s0 + U * (n + 1)) C.2.2.2.2 = true)
    (hcase : ∀ q ∈ xs, ∀ (cells slots k : Nat), cells + T ≤ C.2.2.2.1 → slots + U ≤ C.2.2.2.2 → (∀ k', k = k' + 1 → zk_HW p l e R s m args below meth c Q KT D base Hb nL C G0 H0 v pc st mz (cells + T) (slots + U) k') → zk_HW p l e R s m args below meth c Q KT D base Hb nL C G0 H0 v q stC mzC cells slots k) :
    ∀ k : Nat, k ≤ n → zk_HW p l e R s m args below meth c Q KT D base Hb nL C G0 H0 v pc st mz (c0 + T * (n - k)) (s0 + U * (n - k)) k := by
  have hc := Nat.le_of_ble_eq_true hc
  have hs := Nat.le_of_ble_eq_true hs
  have room : ∀ k, k ≤ n → c0 + T * (n - k) + T ≤ C.2.2.2.1 ∧ s0 + U * (n - k) + U ≤ C.2.2.2.2 := fun k hk => by
    have t2 : T * (n - k) ≤ T * n := Nat.mul_le_mul_left _ (Nat.sub_le _ _)
    have u2 : U * (n - k) ≤ U * n := Nat.mul_le_mul_left _ (Nat.sub_le _ _)
    rw [Nat.mul_succ] at hc hs
    exact ⟨by omega, by omega⟩
  intro k
  induction k with
  | zero =>
    intro hk
    obtain ⟨r1, r2⟩ := room 0 hk
    exact zk_turn_loop hx hb hw hok hR1 hR2 hr hlocks hQ hrun hst hsc r1 r2 (fun q hq => hcase q hq _ _ _ r1 r2 (fun k' hk' => absurd hk' (by omega)))
  | succ k ih =>
    intro hk
    obtain ⟨r1, r2⟩ := room (k + 1) hk
    refine zk_turn_loop hx hb hw hok hR1 hR2 hr hlocks hQ hrun hst hsc r1 r2 (fun q hq => hcase q hq _ _ _ r1 r2 (fun k' hk' => ?_))
    have e0 : k' = k := by omega
    subst e0
    have e1 : n - (k' + 1) + 1 = n - k' := by omega
    have t1 : T * (n - (k' + 1)) + T = T * (n - k') := by rw [← e1, Nat.mul_succ]
    have u1 : U * (n - (k' + 1)) + U = U * (n - k') := by rw [← e1, Nat.mul_succ]
    rw [Nat.add_assoc, Nat.add_assoc, t1, u1]
    exact ih (by omega)
end ZTX
end
