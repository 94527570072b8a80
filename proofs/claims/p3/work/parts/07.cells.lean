/-! ENGINE, 6: the instructions that read and write the heap -/
noncomputable section
/-- facts on cells added in front -/
def zk_af (x : zk_S) (fs : List (Nat × Nat × Nat)) (ns : List (Nat × Nat)) (ps : List (Nat × Nat × Int)) : zk_S :=
  (x.1, x.2.1, x.2.2.1, x.2.2.2.1, x.2.2.2.2.1, fs ++ x.2.2.2.2.2.1, ns ++ x.2.2.2.2.2.2.1, ps ++ x.2.2.2.2.2.2.2.1, x.2.2.2.2.2.2.2.2.1, x.2.2.2.2.2.2.2.2.2)
theorem zk_F_af {KT : List zk_K} {D : zk_D} {G : Nat → Nat} {H : Heap} {v : Nat → Value} {x : zk_S} {fs : List (Nat × Nat × Nat)} {ns : List (Nat × Nat)} {ps : List (Nat × Nat × Int)} (h : zk_F KT D G H v x)
    (h1 : ∀ q ∈ fs, q.1 < x.1 ∧ q.2.2 < x.1 ∧ zk_fl KT D G H (v q.1) q.2.1 (v q.2.2)) (h2 : ∀ q ∈ ns, q.1 < x.1 ∧ q.2 < x.1 ∧ zk_ln KT G H (v q.1) (v q.2)) (h3 : ∀ q ∈ ps, q.1 < x.1 ∧ q.2.1 < x.1 ∧ zk_pf KT G H (v q.1) (zk_i (v q.2.1) + q.2.2)) : zk_F KT D G H v (zk_af x fs ns ps) := by
  obtain ⟨n, loc, stk, ty0, rel0, fld, len, pf, msc, la⟩ := x
  obtain ⟨a1, a2, a3, a4, a5, a6, a7⟩ := h
  exact ⟨a1, a2, fun q hq => (List.mem_append.mp hq).elim (h1 q) (a3 q), fun q hq => (List.mem_append.mp hq).elim (h2 q) (a4 q), fun q hq => (List.mem_append.mp hq).elim (h3 q) (a5 q), a6, a7⟩
theorem zk_LS_af {n0 : Nat} {v0 : Nat → Value} {nL : Nat} {ls : Array Slot} {vs : List Value} {v : Nat → Value} {x : zk_S} {fs : List (Nat × Nat × Nat)} {ns : List (Nat × Nat)} {ps : List (Nat × Nat × Int)}
    (h : zk_LS n0 v0 nL ls vs v x) : zk_LS n0 v0 nL ls vs v (zk_af x fs ns ps) := by
  obtain ⟨n, loc, stk, rest⟩ := x
  exact h
theorem zk_F_fl {KT : List zk_K} {D : zk_D} {G : Nat → Nat} {H : Heap} {v : Nat → Value} {x : zk_S} (h : zk_F KT D G H v x) : ∀ q ∈ x.2.2.2.2.2.1, q.1 < x.1 ∧ q.2.2 < x.1 ∧ zk_fl KT D G H (v q.1) q.2.1 (v q.2.2) := by
  obtain ⟨n, loc, stk, tys, rel, fld, len, pf, msc, la⟩ := x
  exact h.2.2.1
theorem zk_F_ln {KT : List zk_K} {D : zk_D} {G : Nat → Nat} {H : Heap} {v : Nat → Value} {x : zk_S} (h : zk_F KT D G H v x) : ∀ q ∈ x.2.2.2.2.2.2.1, q.1 < x.1 ∧ q.2 < x.1 ∧ zk_ln KT G H (v q.1) (v q.2) := by
  obtain ⟨n, loc, stk, tys, rel, fld, len, pf, msc, la⟩ := x
  exact h.2.2.2.1
theorem zk_F_pf {KT : List zk_K} {D : zk_D} {G : Nat → Nat} {H : Heap} {v : Nat → Value} {x : zk_S} (h : zk_F KT D G H v x) : ∀ q ∈ x.2.2.2.2.2.2.2.1, q.1 < x.1 ∧ q.2.1 < x.1 ∧ zk_pf KT G H (v q.1) (zk_i (v q.2.1) + q.2.2) := by
  obtain ⟨n, loc, stk, tys, rel, fld, len, pf, msc, la⟩ := x
  exact h.2.2.2.2.1
theorem zk_F_la {KT : List zk_K} {D : zk_D} {G : Nat → Nat} {H : Heap} {v : Nat → Value} {x : zk_S} (h : zk_F KT D G H v x) : ∀ y, x.2.2.2.2.2.2.2.2.2 = some y → y < x.1 ∧ ∃ a : Nat, v y = .ref a ∧ H.size = a + 1 := by
  obtain ⟨n, loc, stk, tys, rel, fld, len, pf, msc, la⟩ := x
  exact h.2.2.2.2.2.2
/-- the symbol z has the type t -/
def zk_su (tys : List (Nat × zk_T)) (z : Nat) (t : zk_T) : Bool :=
  let q := zk_lk tys z
  bif Nat.blt t.1 2 then Nat.beq q.1 t.1 && zk_ile t.2.1 q.2.1 && zk_ile q.2.2 t.2.2
  else bif Nat.beq t.1 2 then Nat.beq q.1 2 && zk_ieq q.2.1 t.2.1 && (zk_ieq q.2.2 0 || !(zk_ieq t.2.2 0)) else true
theorem zk_su_tv {G : Nat → Nat} {w : Value} {q t : zk_T} (h : zk_tv G w q) (e : (bif Nat.blt t.1 2 then Nat.beq q.1 t.1 && zk_ile t.2.1 q.2.1 && zk_ile q.2.2 t.2.2 else bif Nat.beq t.1 2 then Nat.beq q.1 2 && zk_ieq q.2.1 t.2.1 && (zk_ieq q.2.2 0 || !(zk_ieq t.2.2 0)) else true) = true) : zk_tv G w t := by
  obtain ⟨a, b, c⟩ := t
  match a, e with
  | 0, e =>
    obtain ⟨e1, e3⟩ := Bool.and_eq_true_iff.mp e
    obtain ⟨e1, e2⟩ := Bool.and_eq_true_iff.mp e1
    have e2 := (zk_ile_iff _ _).mp e2
    have e3 := (zk_ile_iff _ _).mp e3
    obtain ⟨y, q1, q2, q3⟩ := zk_gi h (Nat.eq_of_beq_eq_true e1)
    subst q1
    exact ⟨y, rfl, Int.le_trans e2 q2, Int.le_trans q3 e3⟩
  | 1, e =>
    obtain ⟨e1, e3⟩ := Bool.and_eq_true_iff.mp e
    obtain ⟨e1, e2⟩ := Bool.and_eq_true_iff.mp e1
    have e2 := (zk_ile_iff _ _).mp e2
    have e3 := (zk_ile_iff _ _).mp e3
    obtain ⟨y, q1, q2, q3⟩ := zk_gl h (Nat.eq_of_beq_eq_true e1)
    subst q1
    exact ⟨y, rfl, Int.le_trans e2 q2, Int.le_trans q3 e3⟩
  | 2, e =>
    obtain ⟨e1, e3⟩ := Bool.and_eq_true_iff.mp e
    obtain ⟨e1, e2⟩ := Bool.and_eq_true_iff.mp e1
    have e1 := Nat.eq_of_beq_eq_true e1
    have e2 := (zk_ieq_iff _ _).mp e2
    unfold zk_tv at h
    rw [if_neg (by omega), if_neg (by omega), if_pos e1] at h
    rcases h with ⟨y, q1, q2, q3⟩ | ⟨q1, q2⟩
    · exact Or.inl ⟨y, q1, q2.trans e2, q3⟩
    · refine Or.inr ⟨?_, q2⟩
      rcases Bool.or_eq_true_iff.mp e3 with e | e
      · exact absurd ((zk_ieq_iff _ _).mp e) q1
      · intro z
        have z : c = 0 := z
        subst z
        have : zk_ieq (0 : Int) 0 = true := by decide
        simp [this] at e
  | n + 3, _ => exact trivial
theorem zk_su_ok {KT : List zk_K} {D : zk_D} {G : Nat → Nat} {H : Heap} {v : Nat → Value} {x : zk_S} (h : zk_F KT D G H v x) {z : Nat} {t : zk_T} (e : zk_su x.2.2.2.1 z t = true) : zk_tv G (v z) t :=
  zk_su_tv (zk_F_ty h z) e
/-- .. to stand in a cell of the object y -/
def zk_sc (x : zk_S) (z y : Nat) (t : zk_T) : Bool := zk_su x.2.2.2.1 z t && (!(Nat.beq t.1 2 && zk_ieq t.2.2 2) || zk_le x.2.2.2.1 x.2.2.2.2.1 3 z y (-1))
theorem zk_sc_ok {KT : List zk_K} {D : zk_D} {G : Nat → Nat} {H : Heap} {v : Nat → Value} {x : zk_S} (h : zk_F KT D G H v x) {z y a : Nat} {t : zk_T} (ha : v y = .ref a) (e : zk_sc x z y t = true) : zk_ct G a (v z) t := by
  obtain ⟨e1, e2⟩ := Bool.and_eq_true_iff.mp e
  refine ⟨zk_su_ok h e1, fun h2 h3 => ?_⟩
  rw [h2, h3] at e2
  have := zk_F_le h (by simpa [zk_ieq, zk_ile] using e2)
  rw [ha] at this
  have this : zk_i (v z) ≤ (a : Int) + -1 := this
  omega
/-- a value that was read out of the cell of y, of the type t -/
def zk_rt (t : zk_T) : zk_T := bif Nat.beq t.1 2 && zk_ieq t.2.2 2 then (2, t.2.1, 1) else t
def zk_rr (x : zk_S) (y : Nat) (t : zk_T) : List (Nat × Nat × Int) :=
  (bif Nat.beq t.1 2 && zk_ieq t.2.2 2 then [(x.1, y, -1)] else []) ++
  (match x.2.2.2.2.2.2.2.2.2 with
    | some y0 => bif Nat.beq t.1 2 && Nat.beq (zk_lk x.2.2.2.1 y0).1 2 && !(zk_ieq (zk_lk x.2.2.2.1 y0).2.1 t.2.1) then [(x.1, y0, -1)] else []
    | none => [])
theorem zk_rt_ok {G : Nat → Nat} {a : Nat} {w : Value} {t : zk_T} (h : zk_ct G a w t) : zk_tv G w (zk_rt t) := by
  unfold zk_rt
  cases e : Nat.beq t.1 2 && zk_ieq t.2.2 2
  · exact h.1
  · obtain ⟨e1, e2⟩ := Bool.and_eq_true_iff.mp e
    have e1 := Nat.eq_of_beq_eq_true e1
    have h1 := h.1
    unfold zk_tv at h1
    rw [if_neg (by omega), if_neg (by omega), if_pos e1] at h1
    show (∃ a : Nat, w = .ref a ∧ (G a : Int) = t.2.1 ∧ G a ≠ 0) ∨ ((1 : Int) ≠ 0 ∧ w = .null)
    rcases h1 with q | ⟨-, q⟩
    · exact Or.inl q
    · exact Or.inr ⟨by decide, q⟩
theorem zk_rr_ok {KT : List zk_K} {D : zk_D} {base : Nat} {Hb : Heap} {G : Nat → Nat} {H : Heap} {v : Nat → Value} {x : zk_S} (hp : zk_hp KT D base Hb G H) (h : zk_F KT D G H v x) {y a : Nat} {w : Value} {t : zk_T} (hy : y < x.1) (ha : v y = .ref a) (hw : zk_ct G a w t) :
    ∀ q ∈ zk_rr x y t, zk_rl (x.1 + 1) (zk_up v x.1 w) q := by
  intro q hq
  rcases List.mem_append.mp hq with hq | hq
  · cases e : Nat.beq t.1 2 && zk_ieq t.2.2 2 <;> rw [e] at hq
    · simp at hq
    · obtain ⟨e1, e2⟩ := Bool.and_eq_true_iff.mp e
      have := hw.2 (Nat.eq_of_beq_eq_true e1) ((zk_ieq_iff _ _).mp e2)
      simp at hq; subst hq
      refine ⟨Nat.lt_succ_self _, Nat.lt_succ_of_lt hy, ?_⟩
      show zk_i (zk_up v x.1 w x.1) ≤ zk_i (zk_up v x.1 w y) + -1
      rw [zk_up_at, zk_up_lt hy, ha]
      show zk_i w ≤ (a : Int) + -1
      omega
  · cases hla : x.2.2.2.2.2.2.2.2.2 with
    | none => rw [hla] at hq; simp at hq
    | some y0 =>
      rw [hla] at hq
      dsimp only at hq
      cases e : Nat.beq t.1 2 && Nat.beq (zk_lk x.2.2.2.1 y0).1 2 && !(zk_ieq (zk_lk x.2.2.2.1 y0).2.1 t.2.1) <;> rw [e] at hq
      · simp at hq
      · obtain ⟨e1, e3⟩ := Bool.and_eq_true_iff.mp e
        obtain ⟨e1, e2⟩ := Bool.and_eq_true_iff.mp e1
        have e1 := Nat.eq_of_beq_eq_true e1
        have e2 := Nat.eq_of_beq_eq_true e2
        have e3 : (zk_lk x.2.2.2.1 y0).2.1 ≠ t.2.1 := fun z => by
          rw [(zk_ieq_iff _ _).mpr z] at e3; simp at e3
        simp at hq; subst hq
        obtain ⟨l0, a0, ea0, hsz⟩ := zk_F_la h y0 hla
        refine ⟨Nat.lt_succ_self _, Nat.lt_succ_of_lt l0, ?_⟩
        show zk_i (zk_up v x.1 w x.1) ≤ zk_i (zk_up v x.1 w y0) + -1
        rw [zk_up_at, zk_up_lt l0, ea0]
        have h1 := hw.1
        have h0 := zk_F_ty h y0
        unfold zk_tv at h1 h0
        rw [if_neg (by omega), if_neg (by omega), if_pos e1] at h1
        rw [if_neg (by omega), if_neg (by omega), if_pos e2, ea0] at h0
        rcases h1 with ⟨b, q1, q2, q3⟩ | ⟨-, q1⟩
        · subst q1
          have hb := zk_hp_lt hp q3
          have hne : b ≠ a0 := by
            intro z
            subst z
            rcases h0 with ⟨b2, r1, r2, r3⟩ | ⟨-, r1⟩
            · cases r1; exact e3 (r2.symm.trans q2)
            · cases r1
          simp only [zk_i]; omega
        · subst q1
          simp only [zk_i]; omega
/-- the elements of b below z + c aren't null -/
def zk_pc (x : zk_S) (b z : Nat) (c : Int) : Bool := (x.2.2.2.2.2.2.2.1.any fun q => Nat.beq q.1 b && zk_le x.2.2.2.1 x.2.2.2.2.1 3 z q.2.1 (q.2.2 - c)) ||
  ((match zk_hi (zk_lk x.2.2.2.1 z) with | some h => zk_ile (h + c) 0 | none => false) && x.2.2.2.2.2.2.1.any fun q => Nat.beq q.1 b)
theorem zk_pf_le {KT : List zk_K} {G : Nat → Nat} {H : Heap} {o : Value} {z z' : Int} (h : zk_pf KT G H o z) (hz : z' ≤ z) : zk_pf KT G H o z' := by
  obtain ⟨a, cell, q1, q2, q3, q4, q5⟩ := h
  exact ⟨a, cell, q1, q2, q3, q4, fun j hj => q5 j (by omega)⟩
theorem zk_pc_ok {KT : List zk_K} {D : zk_D} {G : Nat → Nat} {H : Heap} {v : Nat → Value} {x : zk_S} (h : zk_F KT D G H v x) {b z : Nat} {c : Int} (e : zk_pc x b z c = true) : zk_pf KT G H (v b) (zk_i (v z) + c) := by
  rcases Bool.or_eq_true_iff.mp e with e | e
  · obtain ⟨q, hq, e⟩ := List.any_eq_true.mp e
    obtain ⟨e1, e2⟩ := Bool.and_eq_true_iff.mp e
    obtain ⟨-, -, h3⟩ := zk_F_pf h q hq
    rw [Nat.eq_of_beq_eq_true e1] at h3
    have := zk_F_le h e2
    exact zk_pf_le h3 (by omega)
  · obtain ⟨e1, e2⟩ := Bool.and_eq_true_iff.mp e
    obtain ⟨q, hq, e2⟩ := List.any_eq_true.mp e2
    obtain ⟨-, -, a, cell, r1, r2, r3, r4, r5⟩ := zk_F_ln h q hq
    rw [Nat.eq_of_beq_eq_true e2] at r1
    cases eh : zk_hi (zk_lk x.2.2.2.1 z) with
    | none => rw [eh] at e1; cases e1
    | some hh =>
      rw [eh] at e1
      have e1 := (zk_ile_iff _ _).mp e1
      have := zk_hi_ok (zk_F_ty h z) eh
      exact ⟨a, cell, r1, r2, r3, r4, fun j hj => by omega⟩
/-- an object that holds b keeps an invariant of it for z + c -/
def zk_is2 (KT : List zk_K) (x : zk_S) (tg : Nat → Bool) (b z : Nat) (c : Int) : Bool :=
  x.2.2.2.2.2.1.any fun r => Nat.beq r.2.2 b && Nat.blt r.2.1 1000 && Nat.beq (zk_lk x.2.2.2.1 r.1).1 2 && zk_ieq (zk_lk x.2.2.2.1 r.1).2.2 0 && (zk_kd KT (zk_lk x.2.2.2.1 r.1).2.1.toNat).2.2.2.2.2.1.any fun q => tg q.1 && Nat.beq q.2.1 r.2.1 && Nat.blt q.2.2 1000 &&
    x.2.2.2.2.2.1.any fun r2 => Nat.beq r2.1 r.1 && Nat.beq r2.2.1 q.2.2 && zk_le x.2.2.2.1 x.2.2.2.2.1 3 z r2.2.2 (-c)
theorem zk_is2_ok {KT : List zk_K} {D : zk_D} {base : Nat} {Hb : Heap} {G : Nat → Nat} {H : Heap} {v : Nat → Value} {x : zk_S} {tg : Nat → Bool} {b z : Nat} {c : Int} (hp : zk_hp KT D base Hb G H) (hF : zk_F KT D G H v x) (h : zk_is2 KT x tg b z c = true) :
    ∃ (b' : Nat) (cb : Cell) (w : Int32) (t : Nat), v b = .ref b' ∧ G b' ≠ 0 ∧ (zk_kd KT (G b')).1 ≠ 0 ∧ H[b']? = some cb ∧ zk_i (v z) + c ≤ w.toInt ∧ tg t = true ∧ (t = 0 → ∀ j : Nat, (j : Int) < w.toInt → cb.slots[j]? ≠ some .null) ∧ (t ≠ 0 → w.toInt ≤ (cb.slots.size : Int)) := by
  obtain ⟨r, hr, h⟩ := List.any_eq_true.mp h
  simp only [Bool.and_eq_true] at h
  obtain ⟨⟨⟨⟨h1, h1r⟩, h2⟩, h3⟩, h4⟩ := h
  obtain ⟨q, hq, h⟩ := List.any_eq_true.mp h4
  simp only [Bool.and_eq_true] at h
  obtain ⟨⟨⟨h7, h5⟩, h5r⟩, h6⟩ := h
  obtain ⟨r2, hr2, h⟩ := List.any_eq_true.mp h6
  simp only [Bool.and_eq_true] at h
  obtain ⟨⟨h8, h9⟩, h10⟩ := h
  have h1 := Nat.eq_of_beq_eq_true h1
  have h5 := Nat.eq_of_beq_eq_true h5
  have h8 := Nat.eq_of_beq_eq_true h8
  have h9 := Nat.eq_of_beq_eq_true h9
  obtain ⟨o, eo, go, go0⟩ := zk_gr (zk_F_ty hF r.1) (Nat.eq_of_beq_eq_true h2) ((zk_ieq_iff _ _).mp h3)
  obtain ⟨-, -, jj⟩ := zk_F_fl hF r hr
  obtain ⟨o1, c1, j1, j2, j3, j4, j5, j6⟩ := zk_fl_real jj h1r
  rw [eo] at j1; cases j1
  obtain ⟨-, -, kk⟩ := zk_F_fl hF r2 hr2
  obtain ⟨o2, c2, k1, k2, k3, k4, k5, k6⟩ := zk_fl_real kk (by rw [h9]; exact h5r)
  rw [h8, eo] at k1; cases k1
  rw [j5] at k5; cases k5
  obtain ⟨-, c3, l1, -, l3⟩ := hp.2.2 o go0
  rw [j5] at l1; cases l1
  obtain ⟨b', cb, w, i1, i2, i3, i4, i5, i6, i7⟩ := l3 q (by rw [go]; exact hq)
  rw [h5, j6, h1] at i1
  have i1 := Option.some.inj i1
  rw [← h9, k6] at i2
  have i2 := Option.some.inj i2
  have := zk_F_le hF h10
  rw [i2] at this
  have : zk_i (v z) ≤ w.toInt + -c := this
  exact ⟨b', cb, w, q.1, i1, i3, i4, i5, by omega, h7, i6, i7⟩
/-- z + c is at most the length of b -/
def zk_lc (KT : List zk_K) (x : zk_S) (b z : Nat) (c : Int) : Bool :=
  (x.2.2.2.2.2.2.1.any fun q => Nat.beq q.1 b && zk_le x.2.2.2.1 x.2.2.2.2.1 3 z q.2 (-c)) ||
  (match zk_hi (zk_lk x.2.2.2.1 z) with
    | some h => zk_ile (h + c) (zk_kd KT (zk_lk x.2.2.2.1 b).2.1.toNat).2.2.2.1
    | none => false) || zk_is2 KT x (fun t => !(Nat.beq t 0)) b z c
theorem zk_lc_ok {KT : List zk_K} {D : zk_D} {base : Nat} {Hb : Heap} {G : Nat → Nat} {H : Heap} {v : Nat → Value} {x : zk_S} (hp : zk_hp KT D base Hb G H) (h : zk_F KT D G H v x) {b z a : Nat} {c : Int} {cell : Cell} (ha : v b = .ref a) (hg : G a = (zk_lk x.2.2.2.1 b).2.1.toNat) (hg0 : G a ≠ 0) (hs : (zk_kd KT (G a)).1 ≠ 0) (hc : H[a]? = some cell) (e : zk_lc KT x b z c = true) : zk_i (v z) + c ≤ (cell.slots.size : Int) := by
  rcases Bool.or_eq_true_iff.mp e with e | e
  rcases Bool.or_eq_true_iff.mp e with e | e
  · obtain ⟨q, hq, e⟩ := List.any_eq_true.mp e
    obtain ⟨e1, e2⟩ := Bool.and_eq_true_iff.mp e
    obtain ⟨-, -, a2, c2, r1, r2, r3, r4, r5⟩ := zk_F_ln h q hq
    rw [Nat.eq_of_beq_eq_true e1, ha] at r1
    cases r1
    rw [hc] at r4; cases r4
    have := zk_F_le h e2
    omega
  · cases eh : zk_hi (zk_lk x.2.2.2.1 z) with
    | none => rw [eh] at e; simp at e
    | some hh =>
      rw [eh] at e
      have e := (zk_ile_iff _ _).mp e
      have := zk_hi_ok (zk_F_ty h z) eh
      obtain ⟨-, cell', q1, q2, -⟩ := hp.2.2 a hg0
      rw [hc] at q1; cases q1
      have := (q2.2.2 hs).2.1
      rw [hg] at this
      omega
  · obtain ⟨b', cb, w, t, i1, i2, i3, i4, i5, i6, -, i8⟩ := zk_is2_ok hp h e
    rw [ha] at i1; cases i1
    rw [hc] at i4; cases i4
    have := i8 (fun z => by rw [z] at i6; exact absurd i6 (by decide))
    omega
/-- a place in the array b -/
def zk_ix (KT : List zk_K) (x : zk_S) (i b : Nat) : Bool := (match zk_lo (zk_lk x.2.2.2.1 i) with | some l => zk_ile 0 l | none => false) && zk_lc KT x b i 1
theorem zk_ix_ok {KT : List zk_K} {D : zk_D} {base : Nat} {Hb : Heap} {G : Nat → Nat} {H : Heap} {v : Nat → Value} {x : zk_S} (hp : zk_hp KT D base Hb G H) (h : zk_F KT D G H v x) {b i a : Nat} {z : Int32} {cell : Cell} (ha : v b = .ref a) (hi : v i = .int z) (hg : G a = (zk_lk x.2.2.2.1 b).2.1.toNat) (hg0 : G a ≠ 0) (hs : (zk_kd KT (G a)).1 ≠ 0) (hc : H[a]? = some cell) (e : zk_ix KT x i b = true) :
    ¬ (z < 0 ∨ cell.slots.size ≤ z.toNatClampNeg) ∧ z.toNatClampNeg < cell.slots.size ∧ (z.toNatClampNeg : Int) = z.toInt := by
  obtain ⟨e1, e2⟩ := Bool.and_eq_true_iff.mp e
  have h1 := zk_lc_ok hp h ha hg hg0 hs hc e2
  rw [hi] at h1
  have h1 : z.toInt + 1 ≤ (cell.slots.size : Int) := h1
  cases el : zk_lo (zk_lk x.2.2.2.1 i) with
  | none => rw [el] at e1; simp at e1
  | some l =>
    rw [el] at e1
    have e1 := (zk_ile_iff _ _).mp e1
    have h2 := zk_lo_ok (zk_F_ty h i) el
    rw [hi] at h2
    have h2 : l ≤ z.toInt := h2
    have h3 : (z.toNatClampNeg : Int) = z.toInt := by
      rw [Int32.toNatClampNeg]; omega
    refine ⟨?_, by omega, h3⟩
    rintro (q | q)
    · have q := Int32.lt_iff_toInt_lt.mp q
      rw [show (0 : Int32).toInt = 0 from rfl] at q
      omega
    · omega
section ZH
variable {p : Program} {l : Launch} {e : Env} {R : Room} {s : State} {m : MethodId} {args : Array Value} {below : List Frame} {meth : Method} {c : Code} {Q : State → Prop} {KT : List zk_K} {D : zk_D} {base : Nat} {Hb : Heap} {n0 nL : Nat} {v0 : Nat → Value} {E : List (Nat × Nat)} {G0 : Nat → Nat} {H0 : Heap} {cc : ByteArray}
variable {cells slots pc : Nat} {x : zk_S}
/-- what the pool says of a place: getfield, putfield -/
def zk_gok (p : Program) (l : Launch) (e : Env) (R : Room) (s : State) (m : MethodId) (args : Array Value) (below : List Frame) (meth : Method) (c : Code) (Q : State → Prop) (D : zk_D) (cc : ByteArray) (idx ci f : Nat) : Prop :=
  ∀ {H : Heap} {locs : List Loc} {cells slots pc : Nat} {ls : Array Slot} {rv : List Value} {a : Nat} {cell : Cell} {w : Value}, H[a]? = some cell → cell.cls = D.1 ci → zk_vk cell → cell.slots[D.2.1 ci f]? = some w → decode cc pc = .ok (.getfield idx, 3) →
    W p l e R s m args below meth c H locs cells slots Q (F0 m (pc + 3) ls (w :: rv)) → W p l e R s m args below meth c H locs cells slots Q (F0 m pc ls (.ref a :: rv))
def zk_fv (ft : Nat) (w : Value) : Prop :=
  if ft = 0 then ∃ a : Int32, w = .int a else if ft = 1 then ∃ a : Int64, w = .long a else if ft = 2 then ∃ a : Int32, w = .int a ∧ 0 ≤ a.toInt ∧ a.toInt ≤ 1 else if ft = 4 then False else w = .null ∨ ∃ a : Nat, w = .ref a
def zk_pok (p : Program) (l : Launch) (e : Env) (R : Room) (s : State) (m : MethodId) (args : Array Value) (below : List Frame) (meth : Method) (c : Code) (Q : State → Prop) (D : zk_D) (cc : ByteArray) (idx ci f ft : Nat) : Prop :=
  ∀ {H : Heap} {locs : List Loc} {cells slots pc : Nat} {ls : Array Slot} {rv : List Value} {a : Nat} {cell : Cell} {w w0 : Value}, H[a]? = some cell → cell.cls = D.1 ci → cell.vm = .none → cell.slots[D.2.1 ci f]? = some w0 → zk_fv ft w → decode cc pc = .ok (.putfield idx, 3) →
    (∀ H' : Heap, H'[a]? = some (cell.setSlot (D.2.1 ci f) w) → H'.size = H.size → (∀ q : Nat, q ≠ a → H'[q]? = H[q]?) → W p l e R s m args below meth c H' (locs ++ [⟨a, D.2.1 ci f⟩]) cells slots Q (F0 m (pc + 3) ls rv)) → W p l e R s m args below meth c H locs cells slots Q (F0 m pc ls (w :: .ref a :: rv))
theorem zk_locs {locs : List Loc} {a k : Nat} (h : ∀ q ∈ locs, base ≤ q.base) (ha : base ≤ a) : ∀ q ∈ locs ++ [⟨a, k⟩], base ≤ q.base := by
  intro q hq
  rcases List.mem_append.mp hq with hq | hq
  · exact h q hq
  · rw [List.mem_singleton.mp hq]; exact ha
theorem zs_get1 {idx ci f y z : Nat} {rest : List Nat} (hfr : Nat.blt f 1000 = true) (hg : zk_gok p l e R s m args below meth c Q D cc idx ci f) (hs : x.2.2.1 = y :: rest) (hm : (y, f, z) ∈ x.2.2.2.2.2.1) (ht : (zk_lk x.2.2.2.1 y).1 = 2) (hci : (zk_kd KT (zk_lk x.2.2.2.1 y).2.1.toNat).2.1 = ci) (hdg : decode cc pc = .ok (.getfield idx, 3))
    (kk : zk_G p l e R s m args below meth c Q KT D base Hb n0 nL v0 E G0 H0 cells slots (pc + 3) (zk_st x (z :: rest))) : zk_G p l e R s m args below meth c Q KT D base Hb n0 nL v0 E G0 H0 cells slots pc x := by
  intro G H locs ls vs v hp he hl hF hL
  obtain ⟨e1, hlt⟩ := zk_LS_stk hL
  subst e1
  rw [hs] at hlt ⊢
  obtain ⟨l1, l2, l3⟩ := zk_F_fl hF _ hm
  obtain ⟨a, cell, q1, q2, q3, q4, q5, q6⟩ := zk_fl_real l3 hfr
  have hga : G a = (zk_lk x.2.2.2.1 y).2.1.toNat := by
    have := zk_F_ty hF y
    unfold zk_tv at this
    rw [if_neg (by omega), if_neg (by omega), if_pos ht] at this
    have q1 : v y = .ref a := q1
    rw [q1] at this
    rcases this with ⟨b, r1, r2, r3⟩ | ⟨-, r1⟩
    · cases r1; rw [← r2]; exact (Int.toNat_natCast _).symm
    · cases r1
  obtain ⟨-, cell', r1, r2, -⟩ := hp.2.2 a q2
  rw [q5] at r1; cases r1
  have q1 : v y = .ref a := q1
  rw [List.map_cons, q1]
  have hcls := (r2.2.1 q3).1
  rw [hga, hci] at hcls
  have hsl : zk_sl KT D (G a) f = D.2.1 ci f := by unfold zk_sl; rw [hga, hci]
  have q6 : cell.slots[zk_sl KT D (G a) f]? = some (v z) := q6
  rw [hsl] at q6
  refine hg q5 hcls r2.1.1 q6 hdg (kk G H locs ls _ v hp he hl (zk_F_st _ hF) (zk_LS_st (stk' := z :: rest) hL fun q hq => ?_))
  rcases List.mem_cons.mp hq with rfl | hq
  · exact l2
  · exact hlt q (List.mem_cons_of_mem _ hq)
theorem zs_get2 {idx ci f y : Nat} {rest : List Nat} {t : zk_T} (hg : zk_gok p l e R s m args below meth c Q D cc idx ci f) (hs : x.2.2.1 = y :: rest) (ht : (zk_lk x.2.2.2.1 y).1 = 2) (hz : (zk_lk x.2.2.2.1 y).2.2 = 0) (hk : (zk_kd KT (zk_lk x.2.2.2.1 y).2.1.toNat).1 = 0) (hci : (zk_kd KT (zk_lk x.2.2.2.1 y).2.1.toNat).2.1 = ci)
    (htf : (zk_kd KT (zk_lk x.2.2.2.1 y).2.1.toNat).2.2.1[f]? = some t) (hdg : decode cc pc = .ok (.getfield idx, 3))
    (kk : zk_G p l e R s m args below meth c Q KT D base Hb n0 nL v0 E G0 H0 cells slots (pc + 3) (zk_af (zk_pu x rest (zk_rt t) (zk_rr x y t) []) [(y, f, x.1)] [] [])) : zk_G p l e R s m args below meth c Q KT D base Hb n0 nL v0 E G0 H0 cells slots pc x := by
  intro G H locs ls vs v hp he hl hF hL
  obtain ⟨e1, hlt⟩ := zk_LS_stk hL
  subst e1
  rw [hs] at hlt ⊢
  have ly := hlt y List.mem_cons_self
  obtain ⟨a, q1, hga, hg0⟩ := zk_gr (zk_F_ty hF y) ht hz
  obtain ⟨-, cell, r1, r2, -⟩ := hp.2.2 a hg0
  have hso : (zk_kd KT (G a)).1 = 0 := by rw [hga]; exact hk
  obtain ⟨hcls, hfs⟩ := r2.2.1 hso
  obtain ⟨w, w1, w2⟩ := hfs f t (by rw [hga]; exact htf)
  have hsl : zk_sl KT D (G a) f = D.2.1 ci f := by unfold zk_sl; rw [hga, hci]
  rw [List.map_cons, q1]
  rw [hga, hci] at hcls
  refine hg r1 hcls r2.1.1 (by rw [← hsl]; exact w1) hdg (kk G H locs ls _ (zk_up v x.1 w) hp he hl (zk_F_af (zk_F_up hF (zk_rt_ok w2) (zk_rr_ok hp hF ly q1 w2) (fun q hq => by simp at hq)) (fun q hq => ?_) (fun q hq => by simp at hq) (fun q hq => by simp at hq)) (zk_LS_af (zk_LS_up hL fun q hq => hlt q (List.mem_cons_of_mem _ hq))))
  rw [List.mem_singleton.mp hq]
  refine ⟨Nat.lt_succ_of_lt ly, Nat.lt_succ_self _, zk_fl_mk ⟨a, cell, ?_, hg0, hso, ?_, r1, ?_⟩⟩
  · show zk_up v x.1 w y = _; rw [zk_up_lt ly]; exact q1
  · rw [hga]; exact zk_lt_len htf
  · show _ = some (zk_up v x.1 w x.1); rw [zk_up_at]; exact w1
/-- putfield: the value z into the field f of y -/
def zk_iq (KT : List zk_K) (x : zk_S) (k f y z : Nat) : Bool := (zk_kd KT k).2.2.2.2.2.1.all fun q =>
  !(Nat.beq q.2.1 f) && Nat.blt q.2.1 1000 && Nat.blt q.2.1 (zk_kd KT k).2.2.1.length && Nat.blt q.2.2 (zk_kd KT k).2.2.1.length && (!(Nat.beq q.2.2 f) || (Nat.beq (zk_lk x.2.2.2.1 z).1 0 &&
    x.2.2.2.2.2.1.any fun r => Nat.beq r.1 y && Nat.beq r.2.1 q.2.1 && Nat.beq (zk_lk x.2.2.2.1 r.2.2).1 2 && zk_ieq (zk_lk x.2.2.2.1 r.2.2).2.2 0 && !(Nat.beq (zk_kd KT (zk_lk x.2.2.2.1 r.2.2).2.1.toNat).1 0) && (bif Nat.beq q.1 0 then zk_pc x r.2.2 z 0 else zk_lc KT x r.2.2 z 0)))
theorem zk_iq_ok {G : Nat → Nat} {H : Heap} {v : Nat → Value} {a k f y z : Nat} {cell : Cell} (hp : zk_hp KT D base Hb G H) (hF : zk_F KT D G H v x) (ha : v y = .ref a) (hk : G a = k) (hc : H[a]? = some cell) (h : zk_iq KT x k f y z = true) :
    ∀ q ∈ (zk_kd KT (G a)).2.2.2.2.2.1, q.2.1 ≠ f ∧ q.2.1 < (zk_kd KT (G a)).2.2.1.length ∧ q.2.2 < (zk_kd KT (G a)).2.2.1.length ∧ (q.2.2 = f → ∃ (b : Nat) (cb : Cell) (w : Int32), v z = .int w ∧ cell.slots[zk_sl KT D (G a) q.2.1]? = some (.ref b) ∧ H[b]? = some cb ∧
      (q.1 = 0 → ∀ j : Nat, (j : Int) < w.toInt → cb.slots[j]? ≠ some .null) ∧ (q.1 ≠ 0 → w.toInt ≤ (cb.slots.size : Int))) := by
  intro q hq
  rw [hk] at hq ⊢
  have h := List.all_eq_true.mp h q hq
  obtain ⟨h, h4⟩ := Bool.and_eq_true_iff.mp h
  obtain ⟨h, h3⟩ := Bool.and_eq_true_iff.mp h
  obtain ⟨h, h2⟩ := Bool.and_eq_true_iff.mp h
  obtain ⟨h1, h2r⟩ := Bool.and_eq_true_iff.mp h
  refine ⟨fun e => (by rw [e, Nat.beq_refl] at h1; exact absurd h1 (by decide)), (by simpa using h2), (by simpa using h3), fun e => ?_⟩
  rw [e, Nat.beq_refl] at h4
  simp only [Bool.not_true, Bool.false_or, Bool.and_eq_true] at h4
  obtain ⟨h5, h6⟩ := h4
  obtain ⟨w, ew, -, -⟩ := zk_gi (zk_F_ty hF z) (Nat.eq_of_beq_eq_true h5)
  obtain ⟨r, hr, h⟩ := List.any_eq_true.mp h6
  obtain ⟨h, i6⟩ := Bool.and_eq_true_iff.mp h
  obtain ⟨h, i5⟩ := Bool.and_eq_true_iff.mp h
  obtain ⟨h, i4⟩ := Bool.and_eq_true_iff.mp h
  obtain ⟨h, i3⟩ := Bool.and_eq_true_iff.mp h
  obtain ⟨i1, i2⟩ := Bool.and_eq_true_iff.mp h
  have i1 := Nat.eq_of_beq_eq_true i1
  have i2 := Nat.eq_of_beq_eq_true i2
  obtain ⟨b, eb, gb, gb0⟩ := zk_gr (zk_F_ty hF r.2.2) (Nat.eq_of_beq_eq_true i3) ((zk_ieq_iff _ _).mp i4)
  obtain ⟨-, -, jj⟩ := zk_F_fl hF r hr
  obtain ⟨a', c', j1, j2, j3, j4, j5, j6⟩ := zk_fl_real jj (by rw [i2]; exact h2r)
  rw [i1, ha] at j1; cases j1
  rw [hc] at j5; cases j5
  rw [i2, eb, hk] at j6
  have hsb : (zk_kd KT (G b)).1 ≠ 0 := by
    intro z; rw [gb] at z; rw [z] at i5; cases i5
  obtain ⟨-, cb, kb, -, -⟩ := hp.2.2 b gb0
  refine ⟨b, cb, w, ew, j6, kb, fun e0 => ?_, fun e0 => ?_⟩
  · rw [e0] at i6
    obtain ⟨b', cb', m1, -, -, m4, m5⟩ := zk_pc_ok hF (show zk_pc x r.2.2 z 0 = true from i6)
    rw [eb] at m1; cases m1
    rw [kb] at m4; cases m4
    rw [ew] at m5
    intro j hj
    exact m5 j (by show (j : Int) < w.toInt + 0; omega)
  · have : Nat.beq q.1 0 = false := by
      cases y : Nat.beq q.1 0
      · rfl
      · exact absurd (Nat.eq_of_beq_eq_true y) e0
    rw [this] at i6
    have := zk_lc_ok hp hF eb gb gb0 hsb kb (show zk_lc KT x r.2.2 z 0 = true from i6)
    rw [ew] at this
    have : w.toInt + 0 ≤ (cb.slots.size : Int) := this
    omega
theorem zs_put {idx ci f ft y z k : Nat} {rest : List Nat} {t : zk_T} (hkt : zk_kt KT) (hdj : zk_dj KT D) (hg : zk_pok p l e R s m args below meth c Q D cc idx ci f ft) (hs : x.2.2.1 = z :: y :: rest) (ht : (zk_lk x.2.2.2.1 y).1 = 2) (hz : (zk_lk x.2.2.2.1 y).2.2 = 0) (hkk : (zk_lk x.2.2.2.1 y).2.1.toNat = k) (hk : (zk_kd KT k).1 = 0) (hci : (zk_kd KT k).2.1 = ci) (hro : (zk_kd KT k).2.2.2.2.2.2.2 = 0)
    (htf : (zk_kd KT k).2.2.1[f]? = some t) (hsc : zk_sc x z y t = true) (hft : ∀ (G : Nat → Nat) (w : Value), zk_tv G w (zk_lk x.2.2.2.1 z) → zk_fv ft w) (hiq : zk_iq KT x k f y z = true) (hE : zk_me E k f = true) (hdg : decode cc pc = .ok (.putfield idx, 3))
    (kk : zk_G p l e R s m args below meth c Q KT D base Hb n0 nL v0 E G0 H0 cells slots (pc + 3) (zk_af (zk_ex KT [(k, f)] (zk_st x rest) true) [(y, f, z)] [] [])) : zk_G p l e R s m args below meth c Q KT D base Hb n0 nL v0 E G0 H0 cells slots pc x := by
  intro G H locs ls vs v hp he hl hF hL
  obtain ⟨e1, hlt⟩ := zk_LS_stk hL
  subst e1
  rw [hs] at hlt ⊢
  have ly := hlt y (List.mem_cons_of_mem _ List.mem_cons_self)
  have lz := hlt z List.mem_cons_self
  obtain ⟨a, q1, hga, hg0⟩ := zk_gr (zk_F_ty hF y) ht hz
  rw [hkk] at hga
  obtain ⟨-, cell, r1, r2, -⟩ := hp.2.2 a hg0
  have hso : (zk_kd KT (G a)).1 = 0 := by rw [hga]; exact hk
  obtain ⟨hcls, hfs⟩ := r2.2.1 hso
  obtain ⟨w0, w1, -⟩ := hfs f t (by rw [hga]; exact htf)
  have hsl : zk_sl KT D (G a) f = D.2.1 ci f := by unfold zk_sl; rw [hga, hci]
  rw [List.map_cons, List.map_cons, q1]
  rw [hga, hci] at hcls
  refine hg r1 hcls (r2.1.2 (by rw [hga]; exact hro)) (by rw [← hsl]; exact w1) (hft G _ (zk_F_ty hF z)) hdg (fun H' h1 h2 h3 => ?_)
  rw [← hsl] at h1 ⊢
  obtain ⟨n1, n2, n3, n4⟩ := zk_hp_put hdj hp hg0 hso (by rw [hga]; exact hro) r1 (by rw [hga]; exact htf) (zk_sc_ok hF q1 hsc) (zk_iq_ok hp hF q1 hga r1 hiq) h1 h2 h3
  rw [hga] at n2
  have hF' := zk_F_ev (keep := true) hkt (zk_F_st rest hF) n2 (fun _ => h2)
  have hL' := zk_LS_ex (KT := KT) (E := [(k, f)]) (keep := true) (zk_LS_st (stk' := rest) hL fun q hq => hlt q (List.mem_cons_of_mem _ (List.mem_cons_of_mem _ hq)))
  refine kk G H' _ ls _ v n1 (zk_ev_tr hkt he (zk_ev_sb ?_ n2)) (zk_locs hl n4) (zk_F_af hF' (fun q hq => ?_) (fun q hq => by simp at hq) (fun q hq => by simp at hq)) (zk_LS_af hL')
  · simp only [zk_sb, List.all_cons, List.all_nil, Bool.and_true]; exact hE
  · rw [List.mem_singleton.mp hq]
    exact ⟨ly, lz, by show zk_fl KT D G H' (v y) f (v z); rw [q1]; exact n3⟩
/-- an element is known not to be null -/
def zk_kn (KT : List zk_K) (x : zk_S) (i b : Nat) : Bool := zk_pc x b i 1 || zk_is2 KT x (fun t => Nat.beq t 0) b i 1
theorem zk_kn_ok {G : Nat → Nat} {H : Heap} {v : Nat → Value} {i b a : Nat} {z : Int32} {cell : Cell} (hp : zk_hp KT D base Hb G H) (hF : zk_F KT D G H v x) (ha : v b = .ref a) (hi : v i = .int z) (hz : (z.toNatClampNeg : Int) = z.toInt) (hc : H[a]? = some cell) (h : zk_kn KT x i b = true) : cell.slots[z.toNatClampNeg]? ≠ some .null := by
  rcases Bool.or_eq_true_iff.mp h with h | h
  · obtain ⟨b', cb', m1, -, -, m4, m5⟩ := zk_pc_ok hF h
    rw [ha] at m1; cases m1
    rw [hc] at m4; cases m4
    rw [hi] at m5
    exact m5 _ (by show (z.toNatClampNeg : Int) < z.toInt + 1; omega)
  · obtain ⟨b', cb, w, t, i1, i2, i3, i4, i5, i6, i7, -⟩ := zk_is2_ok hp hF h
    rw [ha] at i1; cases i1
    rw [hc] at i4; cases i4
    rw [hi] at i5
    have i5 : z.toInt + 1 ≤ w.toInt := i5
    exact i7 (Nat.eq_of_beq_eq_true i6) _ (by omega)
/-- a load from an array -/
theorem zk_hp_el {KT : List zk_K} {D : zk_D} {base : Nat} {Hb : Heap} {G : Nat → Nat} {H : Heap} (hp : zk_hp KT D base Hb G H) {a k : Nat} {cell : Cell} (hg0 : G a ≠ 0) (hga : G a = k) (hro : (zk_kd KT k).2.2.2.2.2.2.2 = 1) (hc : H[a]? = some cell) {j : Nat} {w : Value} (hw : cell.slots[j]? = some w) : w = D.2.2.2.2.1 k j := by
  obtain ⟨⟨-, b⟩, -⟩ := hp.2.2 a hg0
  obtain ⟨b1, b2⟩ := b (by rw [hga]; exact hro)
  rw [hga] at b1
  exact hp.1.2.2 k cell hro (by rw [← b1, ← hp.2.1 a b2]; exact hc) j w hw
theorem zs_ald {i y k : Nat} {rest : List Nat} {t : zk_T} {ms : List (Nat × Nat × Nat × Nat)} (hms : ms = [] ∨ ms = [(6, y, i, x.1)] ∨ (ms = [(3, k, i, x.1)] ∧ (zk_kd KT k).2.2.2.2.2.2.2 = 1)) (hs : x.2.2.1 = i :: y :: rest) (hi : (zk_lk x.2.2.2.1 i).1 = 0) (ht : (zk_lk x.2.2.2.1 y).1 = 2) (hz : (zk_lk x.2.2.2.1 y).2.2 = 0) (hkk : (zk_lk x.2.2.2.1 y).2.1.toNat = k) (hk : (zk_kd KT k).1 ≠ 0) (htf : (zk_kd KT k).2.2.1[0]? = some t) (hix : zk_ix KT x i y = true)
    (row : ∀ {H : Heap} {locs : List Loc} {ls : Array Slot} {rv : List Value} {a : Nat} {j : Int32} {cell : Cell} {w : Value}, H[a]? = some cell → cell.cls = D.2.2.1 (zk_kd KT k).2.1 → zk_vk cell → ¬ (j < 0 ∨ cell.slots.size ≤ j.toNatClampNeg) → cell.slots[j.toNatClampNeg]? = some w → W p l e R s m args below meth c H locs cells slots Q (F0 m (pc + 1) ls (w :: rv)) → W p l e R s m args below meth c H locs cells slots Q (F0 m pc ls (.int j :: .ref a :: rv)))
    (kk : zk_G p l e R s m args below meth c Q KT D base Hb n0 nL v0 E G0 H0 cells slots (pc + 1) (zk_pu x rest (bif zk_kn KT x i y && Nat.beq t.1 2 then (2, t.2.1, 0) else zk_rt t) (zk_rr x y t) ms)) : zk_G p l e R s m args below meth c Q KT D base Hb n0 nL v0 E G0 H0 cells slots pc x := by
  intro G H locs ls vs v hp he hl hF hL
  obtain ⟨e1, hlt⟩ := zk_LS_stk hL
  subst e1
  rw [hs] at hlt ⊢
  have ly := hlt y (List.mem_cons_of_mem _ List.mem_cons_self)
  obtain ⟨j, ej, -, -⟩ := zk_gi (zk_F_ty hF i) hi
  obtain ⟨a, q1, hga, hg0⟩ := zk_gr (zk_F_ty hF y) ht hz
  obtain ⟨-, cell, r1, r2, -⟩ := hp.2.2 a hg0
  have hso : (zk_kd KT (G a)).1 ≠ 0 := by rw [hga, hkk]; exact hk
  obtain ⟨hcls, -, -, hel⟩ := r2.2.2 hso
  obtain ⟨b1, b2, b3⟩ := zk_ix_ok hp hF q1 ej hga hg0 hso r1 hix
  have hw1 : cell.slots[j.toNatClampNeg]? = some cell.slots[j.toNatClampNeg] := Array.getElem?_eq_getElem b2
  generalize cell.slots[j.toNatClampNeg] = w at hw1
  have hct := hel t (by rw [hga, hkk]; exact htf) _ _ hw1
  rw [hga, hkk] at hcls
  rw [List.map_cons, List.map_cons, q1, ej]
  have li := hlt i List.mem_cons_self
  have hmsk : ∀ q ∈ ms, zk_ms D G H (x.1 + 1) (zk_up v x.1 w) q := by
    intro q hq
    rcases hms with e | e | ⟨e, hro⟩
    · rw [e] at hq; simp at hq
    · rw [e] at hq
      rw [List.mem_singleton.mp hq]
      exact zk_ms6i ⟨Nat.lt_succ_of_lt ly, Nat.lt_succ_of_lt li, Nat.lt_succ_self _, a, cell, j, by rw [zk_up_lt ly]; exact q1, hg0, r1, by rw [zk_up_lt li]; exact ej, by rw [zk_up_at]; exact hw1⟩
    · rw [e] at hq
      rw [List.mem_singleton.mp hq]
      unfold zk_ms
      rw [if_neg (show ¬ (3 : Nat) = 0 by decide), if_neg (show ¬ (3 : Nat) = 1 by decide), if_neg (show ¬ (3 : Nat) = 2 by decide), if_pos (show (3 : Nat) = 3 from rfl)]
      refine ⟨Nat.lt_succ_of_lt li, Nat.lt_succ_self _, j, ?_, ?_⟩
      · show zk_up v x.1 w i = _
        rw [zk_up_lt li]; exact ej
      · show zk_up v x.1 w x.1 = _
        rw [zk_up_at]
        exact zk_hp_el hp hg0 (hga.trans hkk) hro r1 hw1
  refine row r1 hcls r2.1.1 b1 hw1 (kk G H locs ls _ (zk_up v x.1 w) hp he hl (zk_F_up hF ?_ (zk_rr_ok hp hF ly q1 hct) hmsk) (zk_LS_up hL fun q hq => hlt q (List.mem_cons_of_mem _ (List.mem_cons_of_mem _ hq))))
  cases ek : zk_kn KT x i y && Nat.beq t.1 2
  · exact zk_rt_ok hct
  · obtain ⟨ek1, ek2⟩ := Bool.and_eq_true_iff.mp ek
    have hnn := zk_kn_ok hp hF q1 ej b3 r1 ek1
    have ek2 := Nat.eq_of_beq_eq_true ek2
    have h1 := hct.1
    unfold zk_tv at h1
    rw [if_neg (by omega), if_neg (by omega), if_pos ek2] at h1
    show (∃ a : Nat, w = .ref a ∧ (G a : Int) = t.2.1 ∧ G a ≠ 0) ∨ ((0 : Int) ≠ 0 ∧ w = .null)
    rcases h1 with q | ⟨-, q⟩
    · exact Or.inl q
    · rw [q] at hw1; exact absurd hw1 hnn
/-- a load from a read-only array, of an element that is known -/
theorem zs_ald2 {i i' r y k : Nat} {rest : List Nat} (hro : (zk_kd KT k).2.2.2.2.2.2.2 = 1) (hm : (3, k, i', r) ∈ x.2.2.2.2.2.2.2.2.1) (hee : ∀ {G : Nat → Nat} {H : Heap} {v : Nat → Value}, zk_F KT D G H v x → v i = v i') (hs : x.2.2.1 = i :: y :: rest) (hi : (zk_lk x.2.2.2.1 i).1 = 0) (ht : (zk_lk x.2.2.2.1 y).1 = 2) (hz : (zk_lk x.2.2.2.1 y).2.2 = 0) (hkk : (zk_lk x.2.2.2.1 y).2.1.toNat = k) (hk : (zk_kd KT k).1 ≠ 0) (hix : zk_ix KT x i y = true)
    (row : ∀ {H : Heap} {locs : List Loc} {ls : Array Slot} {rv : List Value} {a : Nat} {j : Int32} {cell : Cell} {w : Value}, H[a]? = some cell → cell.cls = D.2.2.1 (zk_kd KT k).2.1 → zk_vk cell → ¬ (j < 0 ∨ cell.slots.size ≤ j.toNatClampNeg) → cell.slots[j.toNatClampNeg]? = some w → W p l e R s m args below meth c H locs cells slots Q (F0 m (pc + 1) ls (w :: rv)) → W p l e R s m args below meth c H locs cells slots Q (F0 m pc ls (.int j :: .ref a :: rv)))
    (kk : zk_G p l e R s m args below meth c Q KT D base Hb n0 nL v0 E G0 H0 cells slots (pc + 1) (zk_st x (r :: rest))) : zk_G p l e R s m args below meth c Q KT D base Hb n0 nL v0 E G0 H0 cells slots pc x := by
  intro G H locs ls vs v hp he hl hF hL
  obtain ⟨e1, hlt⟩ := zk_LS_stk hL
  subst e1
  rw [hs] at hlt ⊢
  obtain ⟨j, ej, -, -⟩ := zk_gi (zk_F_ty hF i) hi
  obtain ⟨a, q1, hga, hg0⟩ := zk_gr (zk_F_ty hF y) ht hz
  obtain ⟨-, cell, r1, r2, -⟩ := hp.2.2 a hg0
  have hso : (zk_kd KT (G a)).1 ≠ 0 := by rw [hga, hkk]; exact hk
  obtain ⟨hcls, -, -, -⟩ := r2.2.2 hso
  obtain ⟨b1, b2, b3⟩ := zk_ix_ok hp hF q1 ej hga hg0 hso r1 hix
  have hw1 : cell.slots[j.toNatClampNeg]? = some cell.slots[j.toNatClampNeg] := Array.getElem?_eq_getElem b2
  generalize cell.slots[j.toNatClampNeg] = w at hw1
  have hwe := zk_hp_el hp hg0 (hga.trans hkk) hro r1 hw1
  rw [hga, hkk] at hcls
  have hmm : zk_ms D G H x.1 v (3, k, i', r) := by
    obtain ⟨n, loc, stk, tys, rel, fld, len, pf, msc, la⟩ := x
    exact hF.2.2.2.2.2.1 _ hm
  unfold zk_ms at hmm
  rw [if_neg (show ¬ (3 : Nat) = 0 by decide), if_neg (show ¬ (3 : Nat) = 1 by decide), if_neg (show ¬ (3 : Nat) = 2 by decide), if_pos (show (3 : Nat) = 3 from rfl)] at hmm
  obtain ⟨-, lr, j', m1, m2⟩ := hmm
  have m1 : v i' = .int j' := m1
  have m2 : v r = D.2.2.2.2.1 k j'.toNatClampNeg := m2
  rw [← hee hF, ej] at m1
  cases m1
  rw [List.map_cons, List.map_cons, q1, ej]
  refine row r1 hcls r2.1.1 b1 hw1 ?_
  have := kk G H locs ls _ v hp he hl (zk_F_st (r :: rest) hF) (zk_LS_st (stk' := r :: rest) hL (fun q hq => by
    rcases List.mem_cons.mp hq with rfl | hq
    · exact lr
    · exact hlt q (List.mem_cons_of_mem _ (List.mem_cons_of_mem _ hq))))
  rw [hwe, ← m2]
  exact this
/-- a load of an element that is known -/
theorem zs_ald3 {i i' r y k : Nat} {rest : List Nat} (hm : (6, y, i', r) ∈ x.2.2.2.2.2.2.2.2.1) (hee : ∀ {G : Nat → Nat} {H : Heap} {v : Nat → Value}, zk_F KT D G H v x → v i = v i') (hs : x.2.2.1 = i :: y :: rest) (hi : (zk_lk x.2.2.2.1 i).1 = 0) (ht : (zk_lk x.2.2.2.1 y).1 = 2) (hz : (zk_lk x.2.2.2.1 y).2.2 = 0) (hkk : (zk_lk x.2.2.2.1 y).2.1.toNat = k) (hk : (zk_kd KT k).1 ≠ 0) (hix : zk_ix KT x i y = true)
    (row : ∀ {H : Heap} {locs : List Loc} {ls : Array Slot} {rv : List Value} {a : Nat} {j : Int32} {cell : Cell} {w : Value}, H[a]? = some cell → cell.cls = D.2.2.1 (zk_kd KT k).2.1 → zk_vk cell → ¬ (j < 0 ∨ cell.slots.size ≤ j.toNatClampNeg) → cell.slots[j.toNatClampNeg]? = some w → W p l e R s m args below meth c H locs cells slots Q (F0 m (pc + 1) ls (w :: rv)) → W p l e R s m args below meth c H locs cells slots Q (F0 m pc ls (.int j :: .ref a :: rv)))
    (kk : zk_G p l e R s m args below meth c Q KT D base Hb n0 nL v0 E G0 H0 cells slots (pc + 1) (zk_st x (r :: rest))) : zk_G p l e R s m args below meth c Q KT D base Hb n0 nL v0 E G0 H0 cells slots pc x := by
  intro G H locs ls vs v hp he hl hF hL
  obtain ⟨e1, hlt⟩ := zk_LS_stk hL
  subst e1
  rw [hs] at hlt ⊢
  obtain ⟨j, ej, -, -⟩ := zk_gi (zk_F_ty hF i) hi
  obtain ⟨a, q1, hga, hg0⟩ := zk_gr (zk_F_ty hF y) ht hz
  obtain ⟨-, cell, r1, r2, -⟩ := hp.2.2 a hg0
  have hso : (zk_kd KT (G a)).1 ≠ 0 := by rw [hga, hkk]; exact hk
  obtain ⟨hcls, -, -, -⟩ := r2.2.2 hso
  obtain ⟨b1, b2, b3⟩ := zk_ix_ok hp hF q1 ej hga hg0 hso r1 hix
  have hw1 : cell.slots[j.toNatClampNeg]? = some cell.slots[j.toNatClampNeg] := Array.getElem?_eq_getElem b2
  generalize cell.slots[j.toNatClampNeg] = w at hw1
  rw [hga, hkk] at hcls
  have hmm : zk_ms D G H x.1 v (6, y, i', r) := by
    obtain ⟨n, loc, stk, tys, rel, fld, len, pf, msc, la⟩ := x
    exact hF.2.2.2.2.2.1 _ hm
  obtain ⟨-, -, lr, a', c', j', m1, -, m3, m4, m5⟩ := zk_ms6 hmm rfl
  have m1 : v y = .ref a' := m1
  have m4 : v i' = .int j' := m4
  have m5 : c'.slots[j'.toNatClampNeg]? = some (v r) := m5
  rw [q1] at m1; cases m1
  rw [r1] at m3; cases m3
  rw [← hee hF, ej] at m4
  cases m4
  have hwe : w = v r := Option.some.inj (hw1.symm.trans m5)
  rw [List.map_cons, List.map_cons, q1, ej]
  refine row r1 hcls r2.1.1 b1 hw1 ?_
  have := kk G H locs ls _ v hp he hl (zk_F_st (r :: rest) hF) (zk_LS_st (stk' := r :: rest) hL (fun q hq => by
    rcases List.mem_cons.mp hq with rfl | hq
    · exact lr
    · exact hlt q (List.mem_cons_of_mem _ (List.mem_cons_of_mem _ hq))))
  rw [hwe]
  exact this
/-- a store into an array: w is what the slot holds behind it -/
theorem zs_ast {i y z k : Nat} {rest : List Nat} {t : zk_T} {nw : Value → Value} {ps : List (Nat × Nat × Int)} (hkt : zk_kt KT) (hs : x.2.2.1 = z :: i :: y :: rest) (hi : (zk_lk x.2.2.2.1 i).1 = 0) (ht : (zk_lk x.2.2.2.1 y).1 = 2) (hz : (zk_lk x.2.2.2.1 y).2.2 = 0) (hkk : (zk_lk x.2.2.2.1 y).2.1.toNat = k) (hk : (zk_kd KT k).1 ≠ 0) (hro : (zk_kd KT k).2.2.2.2.2.2.2 = 0) (hni : (zk_kd KT k).2.2.2.2.2.1 = [])
    (htf : (zk_kd KT k).2.2.1[0]? = some t) (hix : zk_ix KT x i y = true) (hE : zk_me E k 0 = true)
    (hw : ∀ (G : Nat → Nat) (H : Heap) (v : Nat → Value) (a : Nat), zk_F KT D G H v x → v y = .ref a → zk_ct G a (nw (v z)) t ∧ nw (v z) ≠ .null)
    (hps : ps = [] ∨ (ps = [(y, i, 1)] ∧ (zk_pc x y i 0 || zk_is2 KT x (fun t => Nat.beq t 0) y i 0) = true)) {ms : List (Nat × Nat × Nat × Nat)} (hms : ms = [] ∨ (ms = [(6, y, i, z)] ∧ ∀ w, nw w = w))
    (row : ∀ {G : Nat → Nat} {H : Heap} {v : Nat → Value} {locs : List Loc} {ls : Array Slot} {rv : List Value} {a : Nat} {j : Int32} {cell : Cell}, zk_hp KT D base Hb G H → zk_F KT D G H v x → H[a]? = some cell → cell.cls = D.2.2.1 (zk_kd KT k).2.1 → zk_vk cell → ¬ (j < 0 ∨ cell.slots.size ≤ j.toNatClampNeg) →
      (∀ H' : Heap, H'[a]? = some (cell.setSlot j.toNatClampNeg (nw (v z))) → H'.size = H.size → (∀ q : Nat, q ≠ a → H'[q]? = H[q]?) → W p l e R s m args below meth c H' (locs ++ [⟨a, j.toNatClampNeg⟩]) cells slots Q (F0 m (pc + 1) ls rv)) → W p l e R s m args below meth c H locs cells slots Q (F0 m pc ls (v z :: .int j :: .ref a :: rv)))
    (kk : zk_G p l e R s m args below meth c Q KT D base Hb n0 nL v0 E G0 H0 cells slots (pc + 1) (zk_ad (zk_af (zk_ex KT [(k, 0)] (zk_st x rest) true) [] [] ps) [] [] ms)) : zk_G p l e R s m args below meth c Q KT D base Hb n0 nL v0 E G0 H0 cells slots pc x := by
  intro G H locs ls vs v hp he hl hF hL
  obtain ⟨e1, hlt⟩ := zk_LS_stk hL
  subst e1
  rw [hs] at hlt ⊢
  have ly := hlt y (List.mem_cons_of_mem _ (List.mem_cons_of_mem _ List.mem_cons_self))
  have li := hlt i (List.mem_cons_of_mem _ List.mem_cons_self)
  obtain ⟨j, ej, -, -⟩ := zk_gi (zk_F_ty hF i) hi
  obtain ⟨a, q1, hga, hg0⟩ := zk_gr (zk_F_ty hF y) ht hz
  obtain ⟨-, cell, r1, r2, -⟩ := hp.2.2 a hg0
  have hso : (zk_kd KT (G a)).1 ≠ 0 := by rw [hga, hkk]; exact hk
  obtain ⟨hcls, -, -, -⟩ := r2.2.2 hso
  obtain ⟨b1, b2, b3⟩ := zk_ix_ok hp hF q1 ej hga hg0 hso r1 hix
  obtain ⟨w1, w2⟩ := hw G H v a hF q1
  rw [hga, hkk] at hcls
  rw [List.map_cons, List.map_cons, List.map_cons, q1, ej]
  refine row hp hF r1 hcls r2.1.1 b1 (fun H' h1 h2 h3 => ?_)
  obtain ⟨n1, n2, n3, n4⟩ := zk_hp_arr hp hg0 hso (by rw [hga, hkk]; exact hro) (by rw [hga, hkk]; exact hni) r1 (by rw [hga, hkk]; exact htf) b2 w1 w2 h1 h2 h3
  rw [hga, hkk] at n2
  have hF' := zk_F_ev (keep := true) hkt (zk_F_st rest hF) n2 (fun _ => h2)
  have hL' := zk_LS_ex (KT := KT) (E := [(k, 0)]) (keep := true) (zk_LS_st (stk' := rest) hL fun q hq => hlt q (List.mem_cons_of_mem _ (List.mem_cons_of_mem _ (List.mem_cons_of_mem _ hq))))
  refine kk G H' _ ls _ v n1 (zk_ev_tr hkt he (zk_ev_sb ?_ n2)) (zk_locs hl n3) (zk_F_ad (zk_F_af hF' (fun q hq => by simp at hq) (fun q hq => by simp at hq) (fun q hq => ?_)) (fun q hq => by simp at hq) (fun q hq => by simp at hq) (fun q hq => ?_)) (zk_LS_ad (zk_LS_af hL'))
  · simp only [zk_sb, List.all_cons, List.all_nil, Bool.and_true]; exact hE
  · rcases hps with hps | ⟨hps, hpc⟩
    · rw [hps] at hq; simp at hq
    · rw [hps] at hq
      rw [List.mem_singleton.mp hq]
      have m5 : ∀ j' : Nat, (j' : Int) < j.toInt → cell.slots[j']? ≠ some .null := by
        rcases Bool.or_eq_true_iff.mp hpc with hpc | hpc
        · obtain ⟨b', cb', m1, -, -, m4, m5⟩ := zk_pc_ok hF hpc
          rw [q1] at m1; cases m1
          rw [r1] at m4; cases m4
          rw [ej] at m5
          exact fun j' hj' => m5 j' (by show (j' : Int) < j.toInt + 0; omega)
        · obtain ⟨b', cb', w, t', m1, -, -, m4, m5, m6, m7, -⟩ := zk_is2_ok hp hF hpc
          rw [q1] at m1; cases m1
          rw [r1] at m4; cases m4
          rw [ej] at m5
          have m5 : j.toInt + 0 ≤ w.toInt := m5
          exact fun j' hj' => m7 (Nat.eq_of_beq_eq_true m6) j' (by omega)
      refine ⟨ly, li, ?_⟩
      show zk_pf KT G H' (v y) (zk_i (v i) + 1)
      rw [q1, ej]
      exact n4 _ (fun j' hj' => m5 j' hj') b3.symm
  · rcases hms with hms | ⟨hms, hnw⟩
    · rw [hms] at hq; simp at hq
    · rw [hms] at hq
      rw [List.mem_singleton.mp hq]
      refine zk_ms6i ⟨ly, li, hlt z List.mem_cons_self, a, _, j, q1, hg0, h1, ej, ?_⟩
      rw [hnw]
      exact Cell.slots_setSlot_self _ b2
/-- arraylength -/
theorem zs_alen1 {y z : Nat} {rest : List Nat} (hs : x.2.2.1 = y :: rest) (hm : (y, z) ∈ x.2.2.2.2.2.2.1) (hz : (zk_lk x.2.2.2.1 z).1 = 0)
    (row : ∀ {G : Nat → Nat} {H : Heap} {locs : List Loc} {ls : Array Slot} {rv : List Value} {a : Nat} {cell : Cell}, zk_hp KT D base Hb G H → H[a]? = some cell → G a ≠ 0 → (zk_kd KT (G a)).1 ≠ 0 → W p l e R s m args below meth c H locs cells slots Q (F0 m (pc + 1) ls (.int cell.slots.size.toInt32 :: rv)) → W p l e R s m args below meth c H locs cells slots Q (F0 m pc ls (.ref a :: rv)))
    (kk : zk_G p l e R s m args below meth c Q KT D base Hb n0 nL v0 E G0 H0 cells slots (pc + 1) (zk_st x (z :: rest))) : zk_G p l e R s m args below meth c Q KT D base Hb n0 nL v0 E G0 H0 cells slots pc x := by
  intro G H locs ls vs v hp he hl hF hL
  obtain ⟨e1, hlt⟩ := zk_LS_stk hL
  subst e1
  rw [hs] at hlt ⊢
  obtain ⟨l1, l2, a, cell, q1, q2, q3, q4, q5⟩ := zk_F_ln hF _ hm
  obtain ⟨w, ew, -, -⟩ := zk_gi (zk_F_ty hF z) hz
  have q1 : v y = .ref a := q1
  have q5 : zk_i (v z) = _ := q5
  rw [List.map_cons, q1]
  have hev : Value.int cell.slots.size.toInt32 = v z := by
    rw [ew] at q5 ⊢
    have q5 : w.toInt = (cell.slots.size : Int) := q5
    congr 1
    apply Int32.toInt_inj.mp
    have := zk_rng w
    show (nI cell.slots.size).toInt = w.toInt
    rw [nI_toInt (by omega)]
    omega
  have hW := kk G H locs ls _ v hp he hl (zk_F_st _ hF) (zk_LS_st (stk' := z :: rest) hL fun q hq => by
    rcases List.mem_cons.mp hq with rfl | hq
    · exact l2
    · exact hlt q (List.mem_cons_of_mem _ hq))
  exact row hp q4 q2 q3 (by rw [hev]; exact hW)
theorem zs_alen2 {y k : Nat} {rest : List Nat} (hs : x.2.2.1 = y :: rest) (ht : (zk_lk x.2.2.2.1 y).1 = 2) (hz : (zk_lk x.2.2.2.1 y).2.2 = 0) (hkk : (zk_lk x.2.2.2.1 y).2.1.toNat = k) (hk : (zk_kd KT k).1 ≠ 0) (hlo : 0 ≤ (zk_kd KT k).2.2.2.1) (hhi : (zk_kd KT k).2.2.2.2.1 ≤ 2147483647)
    (row : ∀ {G : Nat → Nat} {H : Heap} {locs : List Loc} {ls : Array Slot} {rv : List Value} {a : Nat} {cell : Cell}, zk_hp KT D base Hb G H → H[a]? = some cell → G a ≠ 0 → (zk_kd KT (G a)).1 ≠ 0 → W p l e R s m args below meth c H locs cells slots Q (F0 m (pc + 1) ls (.int cell.slots.size.toInt32 :: rv)) → W p l e R s m args below meth c H locs cells slots Q (F0 m pc ls (.ref a :: rv)))
    (kk : zk_G p l e R s m args below meth c Q KT D base Hb n0 nL v0 E G0 H0 cells slots (pc + 1) (zk_af (zk_pu x rest (0, (zk_kd KT k).2.2.2.1, (zk_kd KT k).2.2.2.2.1) [] []) [] [(y, x.1)] [])) : zk_G p l e R s m args below meth c Q KT D base Hb n0 nL v0 E G0 H0 cells slots pc x := by
  intro G H locs ls vs v hp he hl hF hL
  obtain ⟨e1, hlt⟩ := zk_LS_stk hL
  subst e1
  rw [hs] at hlt ⊢
  have ly := hlt y List.mem_cons_self
  obtain ⟨a, q1, hga, hg0⟩ := zk_gr (zk_F_ty hF y) ht hz
  rw [hkk] at hga
  obtain ⟨-, cell, r1, r2, -⟩ := hp.2.2 a hg0
  have hso : (zk_kd KT (G a)).1 ≠ 0 := by rw [hga]; exact hk
  obtain ⟨-, s1, s2, -⟩ := r2.2.2 hso
  rw [hga] at s1 s2
  have hn : (cell.slots.size.toInt32).toInt = (cell.slots.size : Int) := by
    show (nI cell.slots.size).toInt = _
    exact nI_toInt (by omega)
  rw [List.map_cons, q1]
  refine row hp r1 hg0 hso (kk G H locs ls _ (zk_up v x.1 _) hp he hl (zk_F_af (zk_F_up hF (zk_tv_int (by rw [hn]; exact s1) (by rw [hn]; exact s2)) (fun q hq => by simp at hq) (fun q hq => by simp at hq)) (fun q hq => by simp at hq) (fun q hq => ?_) (fun q hq => by simp at hq)) (zk_LS_af (zk_LS_up hL fun q hq => hlt q (List.mem_cons_of_mem _ hq))))
  rw [List.mem_singleton.mp hq]
  refine ⟨Nat.lt_succ_of_lt ly, Nat.lt_succ_self _, a, cell, ?_, hg0, hso, r1, ?_⟩
  · show zk_up v x.1 _ y = _; rw [zk_up_lt ly]; exact q1
  · show zk_i (zk_up v x.1 _ x.1) = _; rw [zk_up_at]; exact hn
end ZH
end
