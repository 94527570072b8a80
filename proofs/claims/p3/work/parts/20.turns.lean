/-! ENGINE, 18: a loop that makes cells each turn -/
noncomputable section
section ZT
variable {p : Program} {l : Launch} {e : Env} {R : Room} {s : State} {m : MethodId} {args : Array Value} {below : List Frame} {meth : Method} {c : Code} {Q : State → Prop} {KT : List zk_K} {D : zk_D} {base : Nat} {Hb : Heap} {n0 nL : Nat} {v0 : Nat → Value} {E : List (Nat × Nat)} {G0 : Nat → Nat} {H0 : Heap} {cc : ByteArray}
variable {P : zk_P} {AT : List FieldType} {C : zk_C}
/-- the measure is at most n, by the types -/
def zk_mb (x : zk_S) (z : zk_M) (n : Nat) : Bool := match (match z.2.1 with | some y => zk_hi (zk_lk x.2.2.2.1 y) | none => some 0), (match z.2.2 with | some y => zk_lo (zk_lk x.2.2.2.1 y) | none => some 0) with
  | some a, some b => zk_ile (z.1 + a - b) n
  | _, _ => false
theorem zk_mb_ok {G : Nat → Nat} {H : Heap} {v : Nat → Value} {x : zk_S} {z : zk_M} {n : Nat} (hF : zk_F KT D G H v x) (h : zk_mb x z n = true) : zk_mv v z ≤ n := by
  unfold zk_mb at h
  obtain ⟨c, a, b⟩ := z
  split at h
  · rename_i ua ub e1 e2
    have h := (zk_ile_iff _ _).mp h
    have h1 : zk_ov v a ≤ ua := by
      cases a with
      | none => cases e1; exact Int.le_refl _
      | some y => exact zk_hi_ok (zk_F_ty hF y) e1
    have h2 : ub ≤ zk_ov v b := by
      cases b with
      | none => cases e2; exact Int.le_refl _
      | some y => exact zk_lo_ok (zk_F_ty hF y) e2
    unfold zk_mv
    simp only at h ⊢
    omega
  · cases h
set_option maxHeartbeats 4000000 in
theorem zk_turns (hx : p.tables.exec = Jvm.exec) (hb : c.code = cc) {rt : Option FieldType} {pc T U c0 s0 n fuel : Nat} {st : zk_S} {mz : zk_M} {v : Nat → Value} (hw : zk_wd s KT D AT) (hok : zk_ok p l e R s m args below meth c Q KT D base Hb nL cc P C.2.2.2.2) (hR1 : R.cells = C.2.2.2.1) (hR2 : R.slots = C.2.2.2.2) (hr : meth.sig.returnType = rt) (hlocks : meth.locks = false) (hQ : ∀ t : State, MQ below (zk_Qf KT D base Hb C v G0 H0) args s C.2.2.2.1 C.2.2.2.2 (fun q => base ≤ q) t → Q t)
    (hrun : zk_run KT P cc nL (zk_cmx C T U) rt [(pc, st, [mz], T, U)] (some [mz]) fuel true 0 0 pc st = true) (hst : Nat.ble C.1.1 st.1 = true) (hsc : ((match mz.2.1 with | some y => Nat.blt y st.1 | none => true) && (match mz.2.2 with | some y => Nat.blt y st.1 | none => true)) = true) (hmb : zk_mb st mz n = true)
    (hc : Nat.ble (c0 + T * (n + 1)) C.2.2.2.1 = true) (hs : Nat.ble (s0 + U * (n + 1)) C.2.2.2.2 = true) : ∀ (k : Nat) (G : Nat → Nat) (H : Heap) (locs : List Loc) (ls : Array Slot) (vs : List Value) (v' : Nat → Value), zk_mv v' mz ≤ k → k ≤ n → zk_hp KT D base Hb G H → zk_ev KT D C.2.2.1 G0 H0 G H → (∀ z ∈ locs, base ≤ z.base) → zk_F KT D G H v' st → zk_LS C.1.1 v nL ls vs v' st → W p l e R s m args below meth c H locs (c0 + T * (n - k)) (s0 + U * (n - k)) Q (F0 m pc ls vs) := by
  have hc := Nat.le_of_ble_eq_true hc
  have hs := Nat.le_of_ble_eq_true hs
  have hst := Nat.le_of_ble_eq_true hst
  intro k
  induction k with
  | zero => ?_
  | succ k ih => ?_
  all_goals
    intro G H locs ls vs v' hk hkn hp he hl hF hL
    have hLn : zk_LS st.1 v' nL ls vs v' st := by
      obtain ⟨n', loc, stk, rest⟩ := st
      exact ⟨Nat.le_refl _, fun _ _ => rfl, hL.2.2⟩
    have hvp : ∀ y, y < C.1.1 → v' y = v y := by
      obtain ⟨n', loc, stk, rest⟩ := st
      exact hL.2.1
  · have hup := zk_run_up (C := zk_cmx C T U) (M := C.2.2.2.1) (N := C.2.2.2.2) (T := c0 + T * (n - 0)) (U := s0 + U * (n - 0)) (by show T + _ ≤ _; rw [Nat.mul_succ] at hc; rw [Nat.sub_zero]; omega) (by show U + _ ≤ _; rw [Nat.mul_succ] at hs; rw [Nat.sub_zero]; omega) hrun
    rw [Nat.zero_add, Nat.zero_add] at hup
    exact zk_run_ok (C := C) (n0 := st.1) (v0 := v') (vP := v) (A := some [mz]) (B := [zk_mv v' mz]) (N := 1) (E := C.2.2.1) (G0 := G0) (H0 := H0) hx hb hw hok hR1 hR2 hst hvp rfl hr hlocks hQ
      (fun a ha => by
        cases ha
        exact ⟨Nat.le_refl _, fun v'' hv'' => by rw [List.map_cons, List.map_nil, zk_mv_eq hsc hv'']⟩)
      (fun q' hq' G' H' locs' ls' vs' v'' a1 a2 a3 a4 a5 a6 => by
        rw [List.map_cons, List.map_nil] at hq'
        rw [List.mem_singleton.mp hq'] at a6
        rcases a6 with a6 | a6
        · cases a6
        · exfalso
          rcases a6 with a6 | ⟨-, a6⟩
          · have a6 : zk_mv v'' mz < zk_mv v' mz := a6
            omega
          · exact a6)
      fuel true _ _ _ _ hup G H locs ls vs v' hp he hl hF hLn
  · have e1 : n - (k + 1) + 1 = n - k := by omega
    have t1 : T * (n - (k + 1)) + T = T * (n - k) := by rw [← e1, Nat.mul_succ]
    have u1 : U * (n - (k + 1)) + U = U * (n - k) := by rw [← e1, Nat.mul_succ]
    have t2 : T * (n - k) ≤ T * n := Nat.mul_le_mul_left _ (Nat.sub_le _ _)
    have u2 : U * (n - k) ≤ U * n := Nat.mul_le_mul_left _ (Nat.sub_le _ _)
    have hup := zk_run_up (C := zk_cmx C T U) (M := C.2.2.2.1) (N := C.2.2.2.2) (T := c0 + T * (n - (k + 1))) (U := s0 + U * (n - (k + 1))) (by show T + _ ≤ _; rw [Nat.mul_succ] at hc; omega) (by show U + _ ≤ _; rw [Nat.mul_succ] at hs; omega) hrun
    rw [Nat.zero_add, Nat.zero_add] at hup
    exact zk_run_ok (C := C) (n0 := st.1) (v0 := v') (vP := v) (A := some [mz]) (B := [zk_mv v' mz]) (N := 1) (E := C.2.2.1) (G0 := G0) (H0 := H0) hx hb hw hok hR1 hR2 hst hvp rfl hr hlocks hQ
      (fun a ha => by
        cases ha
        exact ⟨Nat.le_refl _, fun v'' hv'' => by rw [List.map_cons, List.map_nil, zk_mv_eq hsc hv'']⟩)
      (fun q' hq' G' H' locs' ls' vs' v'' a1 a2 a3 a4 a5 a6 => by
        rw [List.map_cons, List.map_nil] at hq'
        have hq' := List.mem_singleton.mp hq'
        subst hq'
        rcases a6 with a6 | a6
        · cases a6
        · rcases a6 with a6 | ⟨-, a6⟩
          · have a6 : zk_mv v'' mz < zk_mv v' mz := a6
            have := ih G' H' locs' ls' vs' v'' (by omega) (by omega) a1 a2 a3 a4 a5
            refine W.widen ?_ ?_ this
            · show T + (c0 + T * (n - (k + 1))) ≤ c0 + T * (n - k); omega
            · show U + (s0 + U * (n - (k + 1))) ≤ s0 + U * (n - k); omega
          · exact absurd a6 id)
      fuel true _ _ _ _ hup G H locs ls vs v' hp he hl hF hLn
end ZT
end
