/-! ENGINE, 17: a run from a place, with its own heads -/
noncomputable section
def zk_chf (KT : List zk_K) (P : zk_P) (cc : ByteArray) (nL : Nat) (C : zk_C) (rt : Option FieldType) (hd xs : List zk_Hd) (q0 : zk_Hd) (fuel N : Nat) : Bool :=
  zk_run KT P cc nL C rt (hd ++ xs) none fuel true q0.2.2.2.1 q0.2.2.2.2 q0.1 q0.2.1 &&
  hd.all fun q => Nat.ble q.2.2.1.length N && (q.2.2.1.all fun z => (match z.2.1 with | some y => Nat.blt y q.2.1.1 | none => true) && (match z.2.2 with | some y => Nat.blt y q.2.1.1 | none => true)) && Nat.ble C.1.1 q.2.1.1 && zk_run KT P cc nL C rt (hd ++ xs) (some q.2.2.1) fuel true q.2.2.2.1 q.2.2.2.2 q.1 q.2.1
section ZW
variable {p : Program} {l : Launch} {e : Env} {R : Room} {s : State} {m : MethodId} {args : Array Value} {below : List Frame} {meth : Method} {c : Code} {Q : State → Prop} {KT : List zk_K} {D : zk_D} {base : Nat} {Hb : Heap} {n0 nL : Nat} {v0 : Nat → Value} {E : List (Nat × Nat)} {G0 : Nat → Nat} {H0 : Heap} {cc : ByteArray}
variable {P : zk_P} {AT : List FieldType} {C : zk_C}
set_option maxHeartbeats 4000000 in
theorem zk_from (hx : p.tables.exec = Jvm.exec) (hb : c.code = cc) {rt : Option FieldType} {hd xs : List zk_Hd} {q0 : zk_Hd} {fuel N : Nat} {v : Nat → Value} (hw : zk_wd s KT D AT) (hok : zk_ok p l e R s m args below meth c Q KT D base Hb nL cc P C.2.2.2.2) (hR1 : R.cells = C.2.2.2.1) (hR2 : R.slots = C.2.2.2.2) (hr : meth.sig.returnType = rt) (hlocks : meth.locks = false) (hQ : ∀ t : State, MQ below (zk_Qf KT D base Hb C v G0 H0) args s C.2.2.2.1 C.2.2.2.2 (fun q => base ≤ q) t → Q t)
    (hchk : zk_chf KT P cc nL C rt hd xs q0 fuel N = true) (hX : ∀ q ∈ xs, ∀ (G : Nat → Nat) (H : Heap) (locs : List Loc) (ls : Array Slot) (vs : List Value) (v' : Nat → Value), zk_hp KT D base Hb G H → zk_ev KT D C.2.2.1 G0 H0 G H → (∀ z ∈ locs, base ≤ z.base) → zk_F KT D G H v' q.2.1 → zk_LS C.1.1 v nL ls vs v' q.2.1 → W p l e R s m args below meth c H locs q.2.2.2.1 q.2.2.2.2 Q (F0 m q.1 ls vs))
    {G : Nat → Nat} {H : Heap} {locs : List Loc} {ls : Array Slot} {vs : List Value} {v' : Nat → Value} (hp : zk_hp KT D base Hb G H) (he : zk_ev KT D C.2.2.1 G0 H0 G H) (hl : ∀ z ∈ locs, base ≤ z.base) (hF : zk_F KT D G H v' q0.2.1) (hL : zk_LS C.1.1 v nL ls vs v' q0.2.1) : W p l e R s m args below meth c H locs q0.2.2.2.1 q0.2.2.2.2 Q (F0 m q0.1 ls vs) := by
  unfold zk_chf at hchk
  simp only [Bool.and_eq_true, List.all_eq_true] at hchk
  obtain ⟨k3, k4⟩ := hchk
  have heads : ∀ b : List Nat, ∀ q ∈ hd ++ xs, ∀ (G : Nat → Nat) (H : Heap) (locs : List Loc) (ls : Array Slot) (vs : List Value) (v' : Nat → Value), zk_hp KT D base Hb G H → zk_ev KT D C.2.2.1 G0 H0 G H → (∀ z ∈ locs, base ≤ z.base) → zk_F KT D G H v' q.2.1 → zk_LS C.1.1 v nL ls vs v' q.2.1 → q.2.2.1.map (zk_mv v') = b → W p l e R s m args below meth c H locs q.2.2.2.1 q.2.2.2.2 Q (F0 m q.1 ls vs) := by
    intro b
    induction zk_lt_acc N b with
    | intro b _ ih =>
      intro q hq G H locs ls vs v' hp' he' hl' hF' hL' hb'
      rcases List.mem_append.mp hq with hq | hq
      case inr => exact hX q hq G H locs ls vs v' hp' he' hl' hF' hL'
      obtain ⟨⟨⟨j1, j2⟩, j3⟩, j4⟩ := k4 q hq
      have j3 : C.1.1 ≤ q.2.1.1 := by simpa using j3
      have hLn : zk_LS q.2.1.1 v' nL ls vs v' q.2.1 := by
        obtain ⟨pq, ⟨n, loc, stk, rest⟩, rq⟩ := q
        exact ⟨Nat.le_refl _, fun _ _ => rfl, hL'.2.2⟩
      have hvp : ∀ y, y < C.1.1 → v' y = v y := by
        obtain ⟨pq, ⟨n, loc, stk, rest⟩, rq⟩ := q
        exact hL'.2.1
      exact zk_run_ok (n0 := q.2.1.1) (v0 := v') (vP := v) (A := some q.2.2.1) (B := b) (N := N) (E := C.2.2.1) (G0 := G0) (H0 := H0) hx hb hw hok hR1 hR2 j3 hvp rfl hr hlocks hQ
        (fun a ha => by
          cases ha
          refine ⟨by simpa using j1, fun v'' hv'' => ?_⟩
          rw [← hb']
          exact List.map_congr_left fun z hz => zk_mv_eq (by rw [Bool.and_eq_true]; exact j2 z hz) hv'')
        (fun q' hq' G' H' locs' ls' vs' v'' a1 a2 a3 a4 a5 a6 => by
          rcases a6 with a6 | a6
          · cases a6
          · exact ih _ a6 q' hq' G' H' locs' ls' vs' v'' a1 a2 a3 a4 a5 rfl)
        fuel true _ _ _ _ j4 G H locs ls vs v' hp' he' hl' hF' hLn
  have hn : C.1.1 ≤ C.1.1 := Nat.le_refl _
  exact zk_run_ok (n0 := C.1.1) (v0 := v) (vP := v) (A := none) (B := []) (N := N) (E := C.2.2.1) (G0 := G0) (H0 := H0) hx hb hw hok hR1 hR2 hn (fun _ _ => rfl) rfl hr hlocks hQ (fun a ha => by cases ha)
    (fun q' hq' G' H' locs' ls' vs' v'' a1 a2 a3 a4 a5 _ => heads _ q' hq' G' H' locs' ls' vs' v'' a1 a2 a3 a4 a5 rfl)
    fuel true _ _ _ q0.2.1 k3 G H locs ls vs v' hp he hl hF hL
end ZW
/-- what is known, and a ghost more -/
theorem zk_F_gb {KT : List zk_K} {D : zk_D} {G : Nat → Nat} {H : Heap} {v : Nat → Value} {x : zk_S} {o f w a : Nat} (h : zk_F KT D G H v x) (ho : o < x.1) (hw : w < x.1) (hf : 1000 ≤ f) (ha : v o = .ref a) (hg : G a ≠ 0) (hs : (zk_kd KT (G a)).1 = 0) {cell : Cell} (hc : H[a]? = some cell) (hgh : zk_gh KT D G H a f (v w)) : zk_F KT D G H v (zk_af x [(o, f, w)] [] []) := by
  refine zk_F_af h (fun q hq => ?_) (fun q hq => by simp at hq) (fun q hq => by simp at hq)
  rw [List.mem_singleton.mp hq]
  exact ⟨ho, hw, a, cell, ha, hg, hs, hc, Or.inr ⟨hf, hgh⟩⟩
end
