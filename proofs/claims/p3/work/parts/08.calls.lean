/-! ENGINE, 7: one state behind another; new cells; calls -/
noncomputable section
theorem zk_F_ext {KT : List zk_K} {D : zk_D} {G : Nat → Nat} {H : Heap} {v v' : Nat → Value} {x : zk_S} {n' : Nat} (h : zk_F KT D G H v x) (hn : x.1 ≤ n') (hv : ∀ y, y < x.1 → v' y = v y) : zk_F KT D G H v' (n', x.2) := by
  obtain ⟨n, loc, stk, tys, rel, fld, len, pf, msc, la⟩ := x
  obtain ⟨h1, h2, h3, h4, h5, h6, h7⟩ := h
  refine ⟨fun q hq => ?_, fun q hq => zk_rl_ext hn hv (h2 q hq), fun q hq => ?_, fun q hq => ?_, fun q hq => ?_, fun q hq => zk_ms_ext hn hv (h6 q hq), fun y hy => ?_⟩
  · obtain ⟨a, b⟩ := h1 q hq
    exact ⟨Nat.lt_of_lt_of_le a hn, by rw [hv _ a]; exact b⟩
  · obtain ⟨a, b, c⟩ := h3 q hq
    exact ⟨Nat.lt_of_lt_of_le a hn, Nat.lt_of_lt_of_le b hn, by rw [hv _ a, hv _ b]; exact c⟩
  · obtain ⟨a, b, c⟩ := h4 q hq
    exact ⟨Nat.lt_of_lt_of_le a hn, Nat.lt_of_lt_of_le b hn, by rw [hv _ a, hv _ b]; exact c⟩
  · obtain ⟨a, b, c⟩ := h5 q hq
    exact ⟨Nat.lt_of_lt_of_le a hn, Nat.lt_of_lt_of_le b hn, by rw [hv _ a, hv _ b]; exact c⟩
  · obtain ⟨a, b, c⟩ := h7 y hy
    exact ⟨Nat.lt_of_lt_of_le a hn, b, by rw [hv _ a]; exact c⟩
theorem zk_LS_ext {n0 : Nat} {v0 : Nat → Value} {nL : Nat} {ls : Array Slot} {vs : List Value} {v v' : Nat → Value} {x : zk_S} {n' : Nat} (h : zk_LS n0 v0 nL ls vs v x) (hn : x.1 ≤ n') (hv : ∀ y, y < x.1 → v' y = v y) : zk_LS n0 v0 nL ls vs v' (n', x.2) := by
  obtain ⟨n, loc, stk, rest⟩ := x
  obtain ⟨h1, h2, h3, h4, h5, h6⟩ := h
  refine ⟨Nat.le_trans h1 hn, fun y hy => by rw [hv _ (Nat.lt_of_lt_of_le hy h1)]; exact h2 y hy, ?_, fun q hq => Nat.lt_of_lt_of_le (h4 q hq) hn, ?_, fun y hy => Nat.lt_of_lt_of_le (h6 y hy) hn⟩
  · have e : (loc.map fun q => (q.1, v' q.2)) = loc.map fun q => (q.1, v q.2) := List.map_congr_left fun q hq => by rw [hv _ (h4 q hq)]
    show lv_has ls nL (loc.map fun q => (q.1, v' q.2))
    rw [e]; exact h3
  · rw [h5]; exact (List.map_congr_left fun y hy => hv _ (h6 y hy)).symm
/-- one value: the same symbol, or two ints that are bounded by one another -/
def zk_eq (x : zk_S) (a b : Nat) : Bool := Nat.beq a b || (Nat.beq (zk_lk x.2.2.2.1 a).1 0 && Nat.beq (zk_lk x.2.2.2.1 b).1 0 && zk_le x.2.2.2.1 x.2.2.2.2.1 3 a b 0 && zk_le x.2.2.2.1 x.2.2.2.2.1 3 b a 0)
theorem zk_eq_ok {KT : List zk_K} {D : zk_D} {G : Nat → Nat} {H : Heap} {v : Nat → Value} {x : zk_S} (h : zk_F KT D G H v x) {a b : Nat} (e : zk_eq x a b = true) : v a = v b := by
  rcases Bool.or_eq_true_iff.mp e with e | e
  · rw [Nat.eq_of_beq_eq_true e]
  · obtain ⟨e, e4⟩ := Bool.and_eq_true_iff.mp e
    obtain ⟨e, e3⟩ := Bool.and_eq_true_iff.mp e
    obtain ⟨e1, e2⟩ := Bool.and_eq_true_iff.mp e
    obtain ⟨p, ep, -⟩ := zk_gi (zk_F_ty h a) (Nat.eq_of_beq_eq_true e1)
    obtain ⟨q, eq, -⟩ := zk_gi (zk_F_ty h b) (Nat.eq_of_beq_eq_true e2)
    have h1 := zk_F_le h e3
    have h2 := zk_F_le h e4
    rw [ep, eq] at h1 h2
    have h1 : p.toInt ≤ q.toInt + 0 := h1
    have h2 : q.toInt ≤ p.toInt + 0 := h2
    rw [ep, eq]
    congr 1
    exact Int32.toInt_inj.mp (by omega)
/-- non-null below z + c, by the facts or by an invariant of an object that holds b -/
def zk_p2 (KT : List zk_K) (x : zk_S) (b z : Nat) (c : Int) : Bool := zk_pc x b z c || (zk_is2 KT x (fun t => Nat.beq t 0) b z c ||
  ((match zk_hi (zk_lk x.2.2.2.1 z) with | some h => zk_ile (h + c) 0 | none => false) && Nat.beq (zk_lk x.2.2.2.1 b).1 2 && zk_ieq (zk_lk x.2.2.2.1 b).2.2 0 && !(Nat.beq (zk_kd KT (zk_lk x.2.2.2.1 b).2.1.toNat).1 0)))
theorem zk_p2_ok {KT : List zk_K} {D : zk_D} {base : Nat} {Hb : Heap} {G : Nat → Nat} {H : Heap} {v : Nat → Value} {x : zk_S} {b z : Nat} {c : Int} (hp : zk_hp KT D base Hb G H) (hF : zk_F KT D G H v x) (h : zk_p2 KT x b z c = true) : zk_pf KT G H (v b) (zk_i (v z) + c) := by
  rcases Bool.or_eq_true_iff.mp h with h | h
  · exact zk_pc_ok hF h
  rcases Bool.or_eq_true_iff.mp h with h | h
  · obtain ⟨b', cb, w, t, i1, i3, i4, i5, i6, i7, i8, -⟩ := zk_is2_ok hp hF h
    exact ⟨b', cb, i1, i3, i4, i5, fun j hj => i8 (Nat.eq_of_beq_eq_true i7) j (by omega)⟩
  · obtain ⟨h, h4⟩ := Bool.and_eq_true_iff.mp h
    obtain ⟨h, h3⟩ := Bool.and_eq_true_iff.mp h
    obtain ⟨h1, h2⟩ := Bool.and_eq_true_iff.mp h
    obtain ⟨a, q1, hga, hg0⟩ := zk_gr (zk_F_ty hF b) (Nat.eq_of_beq_eq_true h2) ((zk_ieq_iff _ _).mp h3)
    obtain ⟨-, cell, r1, r2, -⟩ := hp.2.2 a hg0
    refine ⟨a, cell, q1, hg0, ?_, r1, fun j hj => ?_⟩
    · rw [hga]; intro z; rw [z] at h4; exact absurd h4 (by decide)
    · split at h1
      · rename_i hh heq
        have h5 := zk_hi_ok (zk_F_ty hF z) heq
        have h6 := (zk_ile_iff _ _).mp h1
        omega
      · cases h1
/-- symbols by a list -/
noncomputable def zk_r (rho : List Nat) (y : Nat) : Nat := @List.rec Nat (fun _ => Nat → Nat) (fun _ => 0) (fun a _ ih y => @Nat.rec (fun _ => Nat) a (fun n _ => ih n) y) rho y
/-- x is at most h, by types and relations -/
noncomputable def zk_ub (tys : List (Nat × zk_T)) (rel : List (Nat × Nat × Int)) (k : Nat) : Nat → Int → Bool := @Nat.rec (fun _ => Nat → Int → Bool) (fun x h => (match zk_hi (zk_lk tys x) with | some a => zk_ile a h | none => false))
  (fun _ ih x h => (match zk_hi (zk_lk tys x) with | some a => zk_ile a h | none => false) || zk_any rel fun q => @Bool.rec (fun _ => Bool) false (ih q.2.1 (h - q.2.2)) (Nat.beq q.1 x)) k
noncomputable def zk_lb (tys : List (Nat × zk_T)) (rel : List (Nat × Nat × Int)) (k : Nat) : Nat → Int → Bool := @Nat.rec (fun _ => Nat → Int → Bool) (fun x l => (match zk_lo (zk_lk tys x) with | some a => zk_ile l a | none => false))
  (fun _ ih x l => (match zk_lo (zk_lk tys x) with | some a => zk_ile l a | none => false) || zk_any rel fun q => @Bool.rec (fun _ => Bool) false (ih q.1 (l + q.2.2)) (Nat.beq q.2.1 x)) k
theorem zk_ub_s {tys : List (Nat × zk_T)} {rel : List (Nat × Nat × Int)} {k x : Nat} {h : Int} : zk_ub tys rel (k + 1) x h = ((match zk_hi (zk_lk tys x) with | some a => zk_ile a h | none => false) || rel.any fun q => Nat.beq q.1 x && zk_ub tys rel k q.2.1 (h - q.2.2)) := by
  show (_ || zk_any rel fun q => @Bool.rec (fun _ => Bool) false (zk_ub tys rel k q.2.1 (h - q.2.2)) (Nat.beq q.1 x)) = _
  rw [zk_any_eq (p' := fun q => Nat.beq q.1 x && zk_ub tys rel k q.2.1 (h - q.2.2)) (fun q => by cases Nat.beq q.1 x <;> rfl)]
theorem zk_lb_s {tys : List (Nat × zk_T)} {rel : List (Nat × Nat × Int)} {k x : Nat} {l : Int} : zk_lb tys rel (k + 1) x l = ((match zk_lo (zk_lk tys x) with | some a => zk_ile l a | none => false) || rel.any fun q => Nat.beq q.2.1 x && zk_lb tys rel k q.1 (l + q.2.2)) := by
  show (_ || zk_any rel fun q => @Bool.rec (fun _ => Bool) false (zk_lb tys rel k q.1 (l + q.2.2)) (Nat.beq q.2.1 x)) = _
  rw [zk_any_eq (p' := fun q => Nat.beq q.2.1 x && zk_lb tys rel k q.1 (l + q.2.2)) (fun q => by cases Nat.beq q.2.1 x <;> rfl)]
theorem zk_ub_ok {G : Nat → Nat} {v : Nat → Value} {tys : List (Nat × zk_T)} {rel : List (Nat × Nat × Int)} {n : Nat} (h : ∀ q ∈ tys, zk_tv G (v q.1) q.2) (hr : ∀ q ∈ rel, zk_rl n v q) :
    ∀ {k x : Nat} {c : Int}, zk_ub tys rel k x c = true → zk_i (v x) ≤ c := by
  have b0 : ∀ {x : Nat} {c : Int}, (match zk_hi (zk_lk tys x) with | some a => zk_ile a c | none => false) = true → zk_i (v x) ≤ c := by
    intro x c e
    cases h1 : zk_hi (zk_lk tys x) with
    | none => rw [h1] at e; cases e
    | some a =>
      rw [h1] at e
      exact Int.le_trans (zk_hi_ok (zk_lk_ok (x := x) h) h1) ((zk_ile_iff _ _).mp e)
  intro k
  induction k with
  | zero => intro x c e; exact b0 e
  | succ k ih =>
    intro x c e
    rw [zk_ub_s] at e
    rcases Bool.or_eq_true_iff.mp e with e | e
    · exact b0 e
    · obtain ⟨q, hq, e⟩ := List.any_eq_true.mp e
      have h1 := Nat.eq_of_beq_eq_true (Bool.and_eq_true_iff.mp e).1
      have h2 := ih (Bool.and_eq_true_iff.mp e).2
      have h3 := (hr q hq).2.2
      rw [h1] at h3; omega
theorem zk_lb_ok {G : Nat → Nat} {v : Nat → Value} {tys : List (Nat × zk_T)} {rel : List (Nat × Nat × Int)} {n : Nat} (h : ∀ q ∈ tys, zk_tv G (v q.1) q.2) (hr : ∀ q ∈ rel, zk_rl n v q) :
    ∀ {k x : Nat} {c : Int}, zk_lb tys rel k x c = true → c ≤ zk_i (v x) := by
  have b0 : ∀ {x : Nat} {c : Int}, (match zk_lo (zk_lk tys x) with | some a => zk_ile c a | none => false) = true → c ≤ zk_i (v x) := by
    intro x c e
    cases h1 : zk_lo (zk_lk tys x) with
    | none => rw [h1] at e; cases e
    | some a =>
      rw [h1] at e
      exact Int.le_trans ((zk_ile_iff _ _).mp e) (zk_lo_ok (zk_lk_ok (x := x) h) h1)
  intro k
  induction k with
  | zero => intro x c e; exact b0 e
  | succ k ih =>
    intro x c e
    rw [zk_lb_s] at e
    rcases Bool.or_eq_true_iff.mp e with e | e
    · exact b0 e
    · obtain ⟨q, hq, e⟩ := List.any_eq_true.mp e
      have h1 := Nat.eq_of_beq_eq_true (Bool.and_eq_true_iff.mp e).1
      have h2 := ih (Bool.and_eq_true_iff.mp e).2
      have h3 := (hr q hq).2.2
      rw [h1] at h3; omega
/-- some c with v x ≤ v y + c, by types and relations -/
def zk_omin : Option Int → Option Int → Option Int
  | some a, some b => some (zk_imin a b)
  | some a, none => some a
  | none, o => o
def zk_b0 (tys : List (Nat × zk_T)) (x y : Nat) : Option Int := bif Nat.beq x y then some 0 else (match zk_hi (zk_lk tys x), zk_lo (zk_lk tys y) with
  | some h, some l => some (h - l)
  | _, _ => none)
def zk_oad : Option Int → Int → Option Int
  | some a, c => some (a + c)
  | none, _ => none
noncomputable def zk_bst (tys : List (Nat × zk_T)) (rel : List (Nat × Nat × Int)) (k : Nat) : Nat → Nat → Option Int := @Nat.rec (fun _ => Nat → Nat → Option Int) (fun x y => zk_b0 tys x y)
  (fun _ ih x y => @List.rec (Nat × Nat × Int) (fun _ => Option Int) (zk_b0 tys x y) (fun q _ r => @Bool.rec (fun _ => Option Int) r (zk_omin r (zk_oad (ih q.2.1 y) q.2.2)) (Nat.beq q.1 x)) rel) k
theorem zk_b0_ok {G : Nat → Nat} {v : Nat → Value} {tys : List (Nat × zk_T)} (h : ∀ q ∈ tys, zk_tv G (v q.1) q.2) {x y : Nat} {c : Int} (e : zk_b0 tys x y = some c) : zk_i (v x) ≤ zk_i (v y) + c := by
  unfold zk_b0 at e
  cases b : Nat.beq x y <;> rw [b] at e
  · cases h1 : zk_hi (zk_lk tys x) with
    | none => rw [h1] at e; cases e
    | some hx =>
      cases h2 : zk_lo (zk_lk tys y) with
      | none => rw [h1, h2] at e; cases e
      | some ly =>
        rw [h1, h2] at e
        have e : some (hx - ly) = some c := e
        cases e
        have a1 := zk_hi_ok (zk_lk_ok (x := x) h) h1
        have a2 := zk_lo_ok (zk_lk_ok (x := y) h) h2
        omega
  · have e : some (0 : Int) = some c := e
    cases e
    rw [Nat.eq_of_beq_eq_true b]; omega
theorem zk_omin_ok {P : Int → Prop} {a b : Option Int} (ha : ∀ c, a = some c → P c) (hb : ∀ c, b = some c → P c) : ∀ c, zk_omin a b = some c → P c := by
  intro c h
  cases a with
  | none => exact hb c h
  | some x =>
    cases b with
    | none => exact ha c h
    | some y =>
      have h : some (zk_imin x y) = some c := h
      cases h
      unfold zk_imin
      cases zk_ile x y
      · exact hb _ rfl
      · exact ha _ rfl
theorem zk_bst_ok {G : Nat → Nat} {v : Nat → Value} {tys : List (Nat × zk_T)} {rel : List (Nat × Nat × Int)} {n : Nat} (h : ∀ q ∈ tys, zk_tv G (v q.1) q.2) (hr : ∀ q ∈ rel, zk_rl n v q) :
    ∀ {k x y : Nat} {c : Int}, zk_bst tys rel k x y = some c → zk_i (v x) ≤ zk_i (v y) + c := by
  intro k
  induction k with
  | zero => intro x y c e; exact zk_b0_ok h e
  | succ k ih =>
    intro x y c e
    have key : ∀ (l : List (Nat × Nat × Int)), (∀ q ∈ l, q ∈ rel) → ∀ c, @List.rec (Nat × Nat × Int) (fun _ => Option Int) (zk_b0 tys x y) (fun q _ r => @Bool.rec (fun _ => Option Int) r (zk_omin r (zk_oad (zk_bst tys rel k q.2.1 y) q.2.2)) (Nat.beq q.1 x)) l = some c → zk_i (v x) ≤ zk_i (v y) + c := by
      intro l
      induction l with
      | nil => intro _ c hc; exact zk_b0_ok h hc
      | cons q l ihl =>
        intro hl c hc
        have ihl := ihl (fun z hz => hl z (List.mem_cons_of_mem _ hz))
        have hc : @Bool.rec (fun _ => Option Int) (@List.rec (Nat × Nat × Int) (fun _ => Option Int) (zk_b0 tys x y) (fun q _ r => @Bool.rec (fun _ => Option Int) r (zk_omin r (zk_oad (zk_bst tys rel k q.2.1 y) q.2.2)) (Nat.beq q.1 x)) l) (zk_omin (@List.rec (Nat × Nat × Int) (fun _ => Option Int) (zk_b0 tys x y) (fun q _ r => @Bool.rec (fun _ => Option Int) r (zk_omin r (zk_oad (zk_bst tys rel k q.2.1 y) q.2.2)) (Nat.beq q.1 x)) l) (zk_oad (zk_bst tys rel k q.2.1 y) q.2.2)) (Nat.beq q.1 x) = some c := hc
        cases b : Nat.beq q.1 x
        · rw [b] at hc; exact ihl c hc
        · rw [b] at hc
          refine zk_omin_ok (P := fun c => zk_i (v x) ≤ zk_i (v y) + c) ihl (fun c' hc' => ?_) c hc
          cases e2 : zk_bst tys rel k q.2.1 y with
          | none => rw [e2] at hc'; cases hc'
          | some d =>
            rw [e2] at hc'
            have hc' : some (d + q.2.2) = some c' := hc'
            cases hc'
            have h1 := ih e2
            have h2 := (hr q (hl q List.mem_cons_self)).2.2
            rw [Nat.eq_of_beq_eq_true b] at h2
            show zk_i (v x) ≤ zk_i (v y) + (d + q.2.2)
            omega
    exact key rel (fun q hq => hq) c e
/-- the scaled facts -/
def zk_s4 (x : zk_S) (a b : Nat) (c : Int) : Bool :=
  (match zk_hi (zk_lk x.2.2.2.1 a), zk_lo (zk_lk x.2.2.2.1 b) with | some h, some l => zk_ile h (2 * l + c) | _, _ => false) ||
  x.2.2.2.2.2.2.2.2.1.any fun q => Nat.beq q.1 4 && (match zk_bst x.2.2.2.1 x.2.2.2.2.1 3 a q.2.1, zk_bst x.2.2.2.1 x.2.2.2.2.1 3 q.2.2.1 b with | some u, some w => zk_ile (u + 2 * w + (q.2.2.2 : Int) - 1000) c | _, _ => false)
def zk_s5 (x : zk_S) (a b : Nat) (c : Int) : Bool :=
  (match zk_hi (zk_lk x.2.2.2.1 a), zk_lo (zk_lk x.2.2.2.1 b) with | some h, some l => zk_ile (2 * h) (l + c) | _, _ => false) ||
  x.2.2.2.2.2.2.2.2.1.any fun q => Nat.beq q.1 5 && (match zk_bst x.2.2.2.1 x.2.2.2.2.1 3 a q.2.1, zk_bst x.2.2.2.1 x.2.2.2.2.1 3 q.2.2.1 b with | some u, some w => zk_ile (2 * u + w + (q.2.2.2 : Int) - 1000) c | _, _ => false)
/-- a bound above by them -/
def zk_u4 (x : zk_S) (a : Nat) (h : Int) : Bool := x.2.2.2.2.2.2.2.2.1.any fun q => (Nat.beq q.1 4 && (match zk_bst x.2.2.2.1 x.2.2.2.2.1 3 a q.2.1, zk_hi (zk_lk x.2.2.2.1 q.2.2.1) with | some u, some w => zk_ile (u + 2 * w + (q.2.2.2 : Int) - 1000) h | _, _ => false)) ||
  (Nat.beq q.1 5 && (match zk_bst x.2.2.2.1 x.2.2.2.2.1 3 a q.2.1, zk_hi (zk_lk x.2.2.2.1 q.2.2.1) with | some u, some w => zk_ile (2 * u + w + (q.2.2.2 : Int) - 1000) (2 * h + 1) | _, _ => false))
theorem zk_F_ms {KT : List zk_K} {D : zk_D} {G : Nat → Nat} {H : Heap} {v : Nat → Value} {x : zk_S} (h : zk_F KT D G H v x) : ∀ q ∈ x.2.2.2.2.2.2.2.2.1, zk_ms D G H x.1 v q := by
  obtain ⟨n, loc, stk, tys, rel, fld, len, pf, msc, la⟩ := x
  exact h.2.2.2.2.2.1
theorem zk_F_bst {KT : List zk_K} {D : zk_D} {G : Nat → Nat} {H : Heap} {v : Nat → Value} {x : zk_S} (h : zk_F KT D G H v x) {k y z : Nat} {c : Int} (e : zk_bst x.2.2.2.1 x.2.2.2.2.1 k y z = some c) : zk_i (v y) ≤ zk_i (v z) + c := by
  obtain ⟨n, loc, stk, tys, rel, fld, len, pf, msc, la⟩ := x
  exact zk_bst_ok (fun q hq => (h.1 q hq).2) h.2.1 e
theorem zk_s4_ok {KT : List zk_K} {D : zk_D} {G : Nat → Nat} {H : Heap} {v : Nat → Value} {x : zk_S} (h : zk_F KT D G H v x) {a b : Nat} {c : Int} (e : zk_s4 x a b c = true) : zk_i (v a) ≤ 2 * zk_i (v b) + c := by
  rcases Bool.or_eq_true_iff.mp e with e | e
  · split at e
    · rename_i hh l e1 e2
      have e := (zk_ile_iff _ _).mp e
      have := zk_hi_ok (zk_F_ty h a) e1
      have := zk_lo_ok (zk_F_ty h b) e2
      omega
    · cases e
  · obtain ⟨q, hq, e⟩ := List.any_eq_true.mp e
    obtain ⟨e1, e⟩ := Bool.and_eq_true_iff.mp e
    split at e
    · rename_i u w e2 e3
      have e := (zk_ile_iff _ _).mp e
      have := zk_F_bst h e2
      have := zk_F_bst h e3
      have := (zk_ms4 (zk_F_ms h q hq) (Nat.eq_of_beq_eq_true e1)).2.2
      omega
    · cases e
theorem zk_s5_ok {KT : List zk_K} {D : zk_D} {G : Nat → Nat} {H : Heap} {v : Nat → Value} {x : zk_S} (h : zk_F KT D G H v x) {a b : Nat} {c : Int} (e : zk_s5 x a b c = true) : 2 * zk_i (v a) ≤ zk_i (v b) + c := by
  rcases Bool.or_eq_true_iff.mp e with e | e
  · split at e
    · rename_i hh l e1 e2
      have e := (zk_ile_iff _ _).mp e
      have := zk_hi_ok (zk_F_ty h a) e1
      have := zk_lo_ok (zk_F_ty h b) e2
      omega
    · cases e
  · obtain ⟨q, hq, e⟩ := List.any_eq_true.mp e
    obtain ⟨e1, e⟩ := Bool.and_eq_true_iff.mp e
    split at e
    · rename_i u w e2 e3
      have e := (zk_ile_iff _ _).mp e
      have := zk_F_bst h e2
      have := zk_F_bst h e3
      have := (zk_ms5 (zk_F_ms h q hq) (Nat.eq_of_beq_eq_true e1)).2.2
      omega
    · cases e
theorem zk_u4_ok {KT : List zk_K} {D : zk_D} {G : Nat → Nat} {H : Heap} {v : Nat → Value} {x : zk_S} (h : zk_F KT D G H v x) {a : Nat} {c : Int} (e : zk_u4 x a c = true) : zk_i (v a) ≤ c := by
  obtain ⟨q, hq, e⟩ := List.any_eq_true.mp e
  rcases Bool.or_eq_true_iff.mp e with e | e <;> obtain ⟨e1, e⟩ := Bool.and_eq_true_iff.mp e
  · split at e
    · rename_i u w e2 e3
      have e := (zk_ile_iff _ _).mp e
      have := zk_F_bst h e2
      have := zk_hi_ok (zk_F_ty h q.2.2.1) e3
      have := (zk_ms4 (zk_F_ms h q hq) (Nat.eq_of_beq_eq_true e1)).2.2
      omega
    · cases e
  · split at e
    · rename_i u w e2 e3
      have e := (zk_ile_iff _ _).mp e
      have := zk_F_bst h e2
      have := zk_hi_ok (zk_F_ty h q.2.2.1) e3
      have := (zk_ms5 (zk_F_ms h q hq) (Nat.eq_of_beq_eq_true e1)).2.2
      omega
    · cases e
/-- what has been said since a beginning -/
def zk_s8 (x : zk_S) : Nat → Nat → Nat → Nat → Nat → Int → Bool
  | d, a, b, a0, b0, c =>
    (match zk_bst x.2.2.2.1 x.2.2.2.2.1 3 a a0, zk_bst x.2.2.2.1 x.2.2.2.2.1 3 b0 b with | some u, some w => zk_ile (u + 2 * w) c | _, _ => false) ||
    (match d with
      | 0 => false
      | d + 1 => x.2.2.2.2.2.2.2.2.1.any fun q => Nat.beq q.1 8 && (match zk_bst x.2.2.2.1 x.2.2.2.2.1 3 a q.2.1, zk_bst x.2.2.2.1 x.2.2.2.2.1 3 q.2.2.1 b with | some u, some w => zk_s8 x d (zk_8a q.2.2.2) (zk_8b q.2.2.2) a0 b0 (c - u - 2 * w - ((zk_8c q.2.2.2 : Int) - 1000)) | _, _ => false))
def zk_s48 (x : zk_S) (a b : Nat) (c : Int) : Bool := zk_s4 x a b c ||
  x.2.2.2.2.2.2.2.2.1.any fun q => Nat.beq q.1 8 && (match zk_bst x.2.2.2.1 x.2.2.2.2.1 3 a q.2.1, zk_bst x.2.2.2.1 x.2.2.2.2.1 3 q.2.2.1 b with | some u, some w => zk_s4 x (zk_8a q.2.2.2) (zk_8b q.2.2.2) (c - u - 2 * w - ((zk_8c q.2.2.2 : Int) - 1000)) | _, _ => false)
def zk_u48 (x : zk_S) (a : Nat) (h : Int) : Bool := zk_u4 x a h ||
  x.2.2.2.2.2.2.2.2.1.any fun q => Nat.beq q.1 8 && (match zk_bst x.2.2.2.1 x.2.2.2.2.1 3 a q.2.1, zk_hi (zk_lk x.2.2.2.1 q.2.2.1) with | some u, some w => zk_s4 x (zk_8a q.2.2.2) (zk_8b q.2.2.2) (h - u - 2 * w - ((zk_8c q.2.2.2 : Int) - 1000)) | _, _ => false)
theorem zk_s8_ok {KT : List zk_K} {D : zk_D} {G : Nat → Nat} {H : Heap} {v : Nat → Value} {x : zk_S} (h : zk_F KT D G H v x) : ∀ (d : Nat) {a b a0 b0 : Nat} {c : Int}, zk_s8 x d a b a0 b0 c = true → zk_i (v a) + 2 * zk_i (v b0) ≤ 2 * zk_i (v b) + zk_i (v a0) + c := by
  intro d
  induction d with
  | zero =>
    intro a b a0 b0 c e
    unfold zk_s8 at e
    rcases Bool.or_eq_true_iff.mp e with e | e
    · split at e
      · rename_i u w e2 e3
        have e := (zk_ile_iff _ _).mp e
        have := zk_F_bst h e2
        have := zk_F_bst h e3
        omega
      · cases e
    · cases e
  | succ d ih =>
    intro a b a0 b0 c e
    unfold zk_s8 at e
    rcases Bool.or_eq_true_iff.mp e with e | e
    · split at e
      · rename_i u w e2 e3
        have e := (zk_ile_iff _ _).mp e
        have := zk_F_bst h e2
        have := zk_F_bst h e3
        omega
      · cases e
    · obtain ⟨q, hq, e⟩ := List.any_eq_true.mp e
      obtain ⟨e1, e⟩ := Bool.and_eq_true_iff.mp e
      split at e
      · rename_i u w e2 e3
        have e := ih e
        have := zk_F_bst h e2
        have := zk_F_bst h e3
        have := (zk_ms8 (zk_F_ms h q hq) (Nat.eq_of_beq_eq_true e1)).2.2.2.2
        omega
      · cases e
theorem zk_s48_ok {KT : List zk_K} {D : zk_D} {G : Nat → Nat} {H : Heap} {v : Nat → Value} {x : zk_S} (h : zk_F KT D G H v x) {a b : Nat} {c : Int} (e : zk_s48 x a b c = true) : zk_i (v a) ≤ 2 * zk_i (v b) + c := by
  rcases Bool.or_eq_true_iff.mp e with e | e
  · exact zk_s4_ok h e
  · obtain ⟨q, hq, e⟩ := List.any_eq_true.mp e
    obtain ⟨e1, e⟩ := Bool.and_eq_true_iff.mp e
    split at e
    · rename_i u w e2 e3
      have e := zk_s4_ok h e
      have := zk_F_bst h e2
      have := zk_F_bst h e3
      have := (zk_ms8 (zk_F_ms h q hq) (Nat.eq_of_beq_eq_true e1)).2.2.2.2
      omega
    · cases e
theorem zk_u48_ok {KT : List zk_K} {D : zk_D} {G : Nat → Nat} {H : Heap} {v : Nat → Value} {x : zk_S} (h : zk_F KT D G H v x) {a : Nat} {c : Int} (e : zk_u48 x a c = true) : zk_i (v a) ≤ c := by
  rcases Bool.or_eq_true_iff.mp e with e | e
  · exact zk_u4_ok h e
  · obtain ⟨q, hq, e⟩ := List.any_eq_true.mp e
    obtain ⟨e1, e⟩ := Bool.and_eq_true_iff.mp e
    split at e
    · rename_i u w e2 e3
      have e := zk_s4_ok h e
      have := zk_F_bst h e2
      have := zk_hi_ok (zk_F_ty h q.2.2.1) e3
      have := (zk_ms8 (zk_F_ms h q hq) (Nat.eq_of_beq_eq_true e1)).2.2.2.2
      omega
    · cases e
/-- the symbol z has the type t, by types, or an int by relations -/
def zk_sr (x : zk_S) (z : Nat) (t : zk_T) : Bool := zk_su x.2.2.2.1 z t || (Nat.beq t.1 0 && Nat.beq (zk_lk x.2.2.2.1 z).1 0 && zk_lb x.2.2.2.1 x.2.2.2.2.1 3 z t.2.1 && (zk_ub x.2.2.2.1 x.2.2.2.2.1 3 z t.2.2 || zk_u48 x z t.2.2)) ||
  (Nat.beq t.1 1 && Nat.beq (zk_lk x.2.2.2.1 z).1 1 && zk_lb x.2.2.2.1 x.2.2.2.2.1 3 z t.2.1 && zk_ub x.2.2.2.1 x.2.2.2.2.1 3 z t.2.2)
theorem zk_sr_ok {KT : List zk_K} {D : zk_D} {G : Nat → Nat} {H : Heap} {v : Nat → Value} {x : zk_S} (h : zk_F KT D G H v x) {z : Nat} {t : zk_T} (e : zk_sr x z t = true) : zk_tv G (v z) t := by
  have lb : ∀ {c : Int}, zk_lb x.2.2.2.1 x.2.2.2.2.1 3 z c = true → c ≤ zk_i (v z) := by
    intro c e3
    obtain ⟨n, loc, stk, tys, rel, fld, len, pf, msc, la⟩ := x
    exact zk_lb_ok (fun q hq => (h.1 q hq).2) h.2.1 e3
  have ub : ∀ {c : Int}, zk_ub x.2.2.2.1 x.2.2.2.2.1 3 z c = true → zk_i (v z) ≤ c := by
    intro c e4
    obtain ⟨n, loc, stk, tys, rel, fld, len, pf, msc, la⟩ := x
    exact zk_ub_ok (fun q hq => (h.1 q hq).2) h.2.1 e4
  rcases Bool.or_eq_true_iff.mp e with e | e
  rcases Bool.or_eq_true_iff.mp e with e | e
  · exact zk_su_ok h e
  · simp only [Bool.and_eq_true] at e
    obtain ⟨⟨⟨e1, e2⟩, e3⟩, e4⟩ := e
    obtain ⟨a, ea, -, -⟩ := zk_gi (zk_F_ty h z) (Nat.eq_of_beq_eq_true e2)
    have e1 := Nat.eq_of_beq_eq_true e1
    have c1 := lb e3
    have c2 : zk_i (v z) ≤ t.2.2 := by
      rcases Bool.or_eq_true_iff.mp e4 with e4 | e4
      · exact ub e4
      · exact zk_u48_ok h e4
    rw [ea] at c1 c2
    unfold zk_tv
    rw [if_pos e1]
    exact ⟨a, ea, c1, c2⟩
  · simp only [Bool.and_eq_true] at e
    obtain ⟨⟨⟨e1, e2⟩, e3⟩, e4⟩ := e
    obtain ⟨a, ea, -⟩ := zk_gl (zk_F_ty h z) (Nat.eq_of_beq_eq_true e2)
    have e1 := Nat.eq_of_beq_eq_true e1
    have c1 := lb e3
    have c2 := ub e4
    rw [ea] at c1 c2
    unfold zk_tv
    rw [if_neg (by omega), if_pos e1]
    exact ⟨a, ea, c1, c2⟩
/-- a fact of the last list -/
def zk_mk (x : zk_S) (n : Nat) (rho : List Nat) (q : Nat × Nat × Nat × Nat) : Bool :=
  Nat.blt q.2.1 n && (bif Nat.beq q.1 2 then x.2.2.2.2.2.2.2.2.1.any fun r => Nat.beq r.1 2 && Nat.beq r.2.1 (zk_r rho q.2.1) && Nat.beq r.2.2.1 q.2.2.1
    else Nat.blt q.2.2.1 n && (bif Nat.beq q.1 4 then zk_s48 x (zk_r rho q.2.1) (zk_r rho q.2.2.1) ((q.2.2.2 : Int) - 1000)
    else bif Nat.beq q.1 5 then zk_s5 x (zk_r rho q.2.1) (zk_r rho q.2.2.1) ((q.2.2.2 : Int) - 1000)
    else bif Nat.beq q.1 6 then Nat.blt q.2.2.2 n && x.2.2.2.2.2.2.2.2.1.any fun r => Nat.beq r.1 6 && Nat.beq r.2.1 (zk_r rho q.2.1) && zk_eq x r.2.2.1 (zk_r rho q.2.2.1) && zk_eq x r.2.2.2 (zk_r rho q.2.2.2)
    else bif Nat.beq q.1 8 then Nat.blt (zk_8a q.2.2.2) n && (Nat.blt (zk_8b q.2.2.2) n && zk_s8 x 2 (zk_r rho q.2.1) (zk_r rho q.2.2.1) (zk_r rho (zk_8a q.2.2.2)) (zk_r rho (zk_8b q.2.2.2)) ((zk_8c q.2.2.2 : Int) - 1000))
    else bif Nat.beq q.1 11 then x.2.2.2.2.2.2.2.2.1.any fun r => Nat.beq r.1 11 && Nat.beq r.2.1 (zk_r rho q.2.1)
    else false))
theorem zk_mk_ok {KT : List zk_K} {D : zk_D} {G : Nat → Nat} {H : Heap} {v : Nat → Value} {x : zk_S} {n : Nat} {rho : List Nat} {q : Nat × Nat × Nat × Nat} (hF : zk_F KT D G H v x) (h : zk_mk x n rho q = true) : zk_ms D G H n (fun y => v (zk_r rho y)) q := by
  have hb : ∀ {a : Nat}, Nat.blt a n = true → a < n := fun {a} h => by simpa using h
  obtain ⟨h0, h⟩ := Bool.and_eq_true_iff.mp h
  obtain ⟨q1, q2, q3, q4⟩ := q
  dsimp only at h h0
  cases e2 : Nat.beq q1 2 <;> rw [e2] at h
  · obtain ⟨h1, h⟩ := Bool.and_eq_true_iff.mp h
    cases e4 : Nat.beq q1 4 <;> rw [e4] at h
    · cases e5 : Nat.beq q1 5 <;> rw [e5] at h
      · cases e6 : Nat.beq q1 6 <;> rw [e6] at h
        · cases e8 : Nat.beq q1 8 <;> rw [e8] at h
          · cases e11 : Nat.beq q1 11 <;> rw [e11] at h
            · cases h
            · obtain ⟨r, hr, h⟩ := List.any_eq_true.mp h
              obtain ⟨c1, c2⟩ := Bool.and_eq_true_iff.mp h
              obtain ⟨-, a, cell, m1, m2, m3, m4⟩ := zk_ms11 (zk_F_ms hF r hr) (Nat.eq_of_beq_eq_true c1)
              rw [Nat.eq_of_beq_eq_true c2] at m1
              rw [Nat.eq_of_beq_eq_true e11]
              exact zk_ms11i ⟨hb h0, a, cell, m1, m2, m3, m4⟩
          · obtain ⟨h2, h⟩ := Bool.and_eq_true_iff.mp h
            obtain ⟨h3, h⟩ := Bool.and_eq_true_iff.mp h
            rw [Nat.eq_of_beq_eq_true e8]
            have := zk_s8_ok hF _ h
            exact zk_ms8i ⟨hb h0, hb h1, hb h2, hb h3, by omega⟩
        · obtain ⟨h2, h⟩ := Bool.and_eq_true_iff.mp h
          obtain ⟨r, hr, h⟩ := List.any_eq_true.mp h
          simp only [Bool.and_eq_true] at h
          obtain ⟨⟨⟨c1, c2⟩, c3⟩, c4⟩ := h
          obtain ⟨-, -, -, a, cell, i, m1, m2, m3, m4, m5⟩ := zk_ms6 (zk_F_ms hF r hr) (Nat.eq_of_beq_eq_true c1)
          rw [Nat.eq_of_beq_eq_true c2] at m1
          rw [zk_eq_ok hF c3] at m4
          rw [zk_eq_ok hF c4] at m5
          rw [Nat.eq_of_beq_eq_true e6]
          exact zk_ms6i ⟨hb h0, hb h1, hb h2, a, cell, i, m1, m2, m3, m4, m5⟩
      · rw [Nat.eq_of_beq_eq_true e5]
        have := zk_s5_ok hF h
        exact zk_ms5i ⟨hb h0, hb h1, by omega⟩
    · rw [Nat.eq_of_beq_eq_true e4]
      have := zk_s48_ok hF h
      exact zk_ms4i ⟨hb h0, hb h1, by omega⟩
  · obtain ⟨r, hr, c⟩ := List.any_eq_true.mp h
    obtain ⟨c0, c9⟩ := Bool.and_eq_true_iff.mp c
    obtain ⟨c1, c2⟩ := Bool.and_eq_true_iff.mp c0
    have hm := zk_ms2 (zk_F_ms hF r hr) (Nat.eq_of_beq_eq_true c1)
    rw [Nat.eq_of_beq_eq_true c2, Nat.eq_of_beq_eq_true c9] at hm
    rw [Nat.eq_of_beq_eq_true e2]
    exact zk_ms2i ⟨hb h0, hm.2⟩
/-- the facts of t hold, its symbols read by rho in x -/
def zk_ck (KT : List zk_K) (t x : zk_S) (rho : List Nat) : Bool :=
  (t.2.2.2.1.all fun q => Nat.blt q.1 t.1 && zk_sr x (zk_r rho q.1) q.2) &&
  (t.2.2.2.2.1.all fun q => Nat.blt q.1 t.1 && Nat.blt q.2.1 t.1 && zk_le x.2.2.2.1 x.2.2.2.2.1 6 (zk_r rho q.1) (zk_r rho q.2.1) q.2.2) &&
  (t.2.2.2.2.2.1.all fun q => Nat.blt q.1 t.1 && Nat.blt q.2.2 t.1 && x.2.2.2.2.2.1.any fun r => Nat.beq r.1 (zk_r rho q.1) && Nat.beq r.2.1 q.2.1 && zk_eq x r.2.2 (zk_r rho q.2.2)) &&
  (t.2.2.2.2.2.2.1.all fun q => Nat.blt q.1 t.1 && Nat.blt q.2 t.1 && x.2.2.2.2.2.2.1.any fun r => Nat.beq r.1 (zk_r rho q.1) && zk_eq x r.2 (zk_r rho q.2)) &&
  (t.2.2.2.2.2.2.2.1.all fun q => Nat.blt q.1 t.1 && Nat.blt q.2.1 t.1 && zk_p2 KT x (zk_r rho q.1) (zk_r rho q.2.1) q.2.2) &&
  (t.2.2.2.2.2.2.2.2.1.all (zk_mk x t.1 rho)) &&
  (match t.2.2.2.2.2.2.2.2.2 with | none => true | some _ => false)
theorem zk_ck_ok {KT : List zk_K} {D : zk_D} {base : Nat} {Hb : Heap} {G : Nat → Nat} {H : Heap} {v : Nat → Value} {t x : zk_S} {rho : List Nat} (hp : zk_hp KT D base Hb G H) (hF : zk_F KT D G H v x) (h : zk_ck KT t x rho = true) : zk_F KT D G H (fun y => v (zk_r rho y)) t := by
  obtain ⟨n, loc, stk, tys, rel, fld, len, pf, msc, la⟩ := t
  unfold zk_ck at h
  simp only [Bool.and_eq_true, List.all_eq_true] at h
  obtain ⟨⟨⟨⟨⟨⟨h1, h2⟩, h3⟩, h4⟩, h5⟩, h6⟩, h7⟩ := h
  have hb : ∀ {a : Nat}, Nat.blt a n = true → a < n := fun {a} h => by simpa using h
  refine ⟨fun q hq => ?_, fun q hq => ?_, fun q hq => ?_, fun q hq => ?_, fun q hq => ?_, fun q hq => ?_, fun y hy => ?_⟩
  · obtain ⟨a, b⟩ := h1 q hq
    exact ⟨hb a, zk_sr_ok hF b⟩
  · obtain ⟨⟨a, b⟩, c⟩ := h2 q hq
    exact ⟨hb a, hb b, zk_F_le hF c⟩
  · obtain ⟨⟨a, b⟩, c⟩ := h3 q hq
    obtain ⟨r, hr, c⟩ := List.any_eq_true.mp c
    obtain ⟨c, c3⟩ := Bool.and_eq_true_iff.mp c
    obtain ⟨c1, c2⟩ := Bool.and_eq_true_iff.mp c
    obtain ⟨-, -, z⟩ := zk_F_fl hF r hr
    rw [Nat.eq_of_beq_eq_true c1, Nat.eq_of_beq_eq_true c2, zk_eq_ok hF c3] at z
    exact ⟨hb a, hb b, z⟩
  · obtain ⟨⟨a, b⟩, c⟩ := h4 q hq
    obtain ⟨r, hr, c⟩ := List.any_eq_true.mp c
    obtain ⟨c1, c3⟩ := Bool.and_eq_true_iff.mp c
    obtain ⟨-, -, z⟩ := zk_F_ln hF r hr
    rw [Nat.eq_of_beq_eq_true c1, zk_eq_ok hF c3] at z
    exact ⟨hb a, hb b, z⟩
  · obtain ⟨⟨a, b⟩, c⟩ := h5 q hq
    exact ⟨hb a, hb b, zk_p2_ok hp hF c⟩
  · exact zk_mk_ok hF (h6 q hq)
  · subst hy; simp at h7
/-- .. and its locals and stack stand there -/
def zk_cl (t x : zk_S) (rho : List Nat) (n0 : Nat) : Bool :=
  Nat.ble n0 t.1 && ((List.range n0).all fun y => Nat.beq (zk_r rho y) y) &&
  (t.2.1.all fun q => Nat.blt q.2 t.1 && x.2.1.any fun r => Nat.beq r.1 q.1 && zk_eq x r.2 (zk_r rho q.2)) &&
  Nat.beq t.2.2.1.length x.2.2.1.length && ((t.2.2.1.zip x.2.2.1).all fun q => Nat.blt q.1 t.1 && zk_eq x q.2 (zk_r rho q.1))
theorem zk_zip_map {v : Nat → Value} {rho : List Nat} {n : Nat} {x : zk_S} (he : ∀ {a b : Nat}, zk_eq x a b = true → v a = v b) : ∀ (a b : List Nat), a.length = b.length → (∀ q ∈ a.zip b, (Nat.blt q.1 n && zk_eq x q.2 (zk_r rho q.1)) = true) → b.map v = a.map (fun y => v (zk_r rho y)) ∧ ∀ y ∈ a, y < n
  | [], [], _, _ => ⟨rfl, fun y hy => by simp at hy⟩
  | [], _ :: _, h, _ => by simp at h
  | _ :: _, [], h, _ => by simp at h
  | a :: as, b :: bs, h, hq => by
    obtain ⟨i1, i2⟩ := zk_zip_map he as bs (by simpa using h) (fun q hm => hq q (List.mem_cons_of_mem _ hm))
    obtain ⟨j1, j2⟩ := Bool.and_eq_true_iff.mp (hq (a, b) List.mem_cons_self)
    refine ⟨?_, fun y hy => ?_⟩
    · rw [List.map_cons, List.map_cons, i1, he j2]
    · rcases List.mem_cons.mp hy with rfl | hy
      · simpa using j1
      · exact i2 y hy
theorem zk_cl_ok {KT : List zk_K} {D : zk_D} {G : Nat → Nat} {H : Heap} {v v0 : Nat → Value} {t x : zk_S} {rho : List Nat} {n0 nL : Nat} {ls : Array Slot} {vs : List Value} (hF : zk_F KT D G H v x) (hL : zk_LS n0 v0 nL ls vs v x) (h : zk_cl t x rho n0 = true) : zk_LS n0 v0 nL ls vs (fun y => v (zk_r rho y)) t := by
  obtain ⟨n, loc, stk, rest⟩ := t
  unfold zk_cl at h
  simp only [Bool.and_eq_true, List.all_eq_true] at h
  obtain ⟨⟨⟨⟨h1, h2⟩, h3⟩, h4⟩, h5⟩ := h
  obtain ⟨e1, hlt⟩ := zk_LS_stk hL
  obtain ⟨hloc, hlo2⟩ := zk_LS_loc hL
  obtain ⟨i1, i2⟩ := zk_zip_map (rho := rho) (n := n) (fun {a b} => zk_eq_ok hF (a := a) (b := b)) stk x.2.2.1 (Nat.eq_of_beq_eq_true h4) (fun q hq => by
    have := h5 q hq
    rw [Bool.and_eq_true]; exact this)
  refine ⟨by simpa using h1, fun y hy => ?_, ⟨hloc.1, hloc.2.1, fun q hq => ?_⟩, fun q hq => ?_, by rw [e1]; exact i1, i2⟩
  · have := Nat.eq_of_beq_eq_true (h2 y (List.mem_range.mpr hy))
    show v (zk_r rho y) = v0 y
    rw [this]
    obtain ⟨n', loc', stk', rest'⟩ := x
    exact hL.2.1 y hy
  · obtain ⟨r, hr, rfl⟩ := List.mem_map.mp hq
    obtain ⟨-, c⟩ := h3 r hr
    obtain ⟨r', hr', c⟩ := List.any_eq_true.mp c
    obtain ⟨c1, c2⟩ := Bool.and_eq_true_iff.mp c
    have := hloc.2.2 (r'.1, v r'.2) (List.mem_map.mpr ⟨r', hr', rfl⟩)
    rw [Nat.eq_of_beq_eq_true c1, zk_eq_ok hF c2] at this
    exact this
  · have := (h3 q hq).1
    simpa using this
noncomputable def zk_ff (x : zk_S) (y f : Nat) : Option (Nat × Nat × Nat) := @List.rec (Nat × Nat × Nat) (fun _ => Option (Nat × Nat × Nat)) none (fun r _ ih => @Bool.rec (fun _ => Option (Nat × Nat × Nat)) ih (@Bool.rec (fun _ => Option (Nat × Nat × Nat)) ih (some r) (Nat.beq r.2.1 f)) (Nat.beq r.1 y)) x.2.2.2.2.2.1
theorem zk_ff_eq (x : zk_S) (y f : Nat) : zk_ff x y f = x.2.2.2.2.2.1.find? fun r => Nat.beq r.1 y && Nat.beq r.2.1 f := by
  unfold zk_ff
  generalize x.2.2.2.2.2.1 = l
  induction l with
  | nil => rfl
  | cons r l ih =>
    rw [List.find?_cons, ← ih]
    show @Bool.rec (fun _ => Option (Nat × Nat × Nat)) _ (@Bool.rec (fun _ => Option (Nat × Nat × Nat)) _ (some r) (Nat.beq r.2.1 f)) (Nat.beq r.1 y) = _
    cases Nat.beq r.1 y
    · rfl
    · cases Nat.beq r.2.1 f <;> rfl
theorem zk_ff_ok {x : zk_S} {y f : Nat} {r : Nat × Nat × Nat} (h : zk_ff x y f = some r) : (y, f, r.2.2) ∈ x.2.2.2.2.2.1 := by
  rw [zk_ff_eq] at h
  have h1 := List.mem_of_find?_eq_some h
  have h2 := List.find?_some h
  obtain ⟨e1, e2⟩ := Bool.and_eq_true_iff.mp h2
  have e1 := Nat.eq_of_beq_eq_true e1
  have e2 := Nat.eq_of_beq_eq_true e2
  obtain ⟨a, b, c⟩ := r
  have e1 : a = y := e1
  have e2 : b = f := e2
  subst e1; subst e2; exact h1
/-- a field of which two values are known: they are one -/
def zk_dup (f : Nat → Nat) (t y : zk_S) : List (Nat × Nat × Int) := t.2.2.2.2.2.1.flatMap fun q => bif Nat.blt q.2.1 1000 then (match zk_ff y (f q.1) q.2.1 with
  | some r => bif Nat.beq r.2.2 (f q.2.2) then [] else [(f q.2.2, r.2.2, 0), (r.2.2, f q.2.2, 0)]
  | none => []) else []
/-- a contract: what is asked (its stack: the arguments), what comes back (one of several), what may change, how much is made -/
abbrev zk_C : Type := zk_S × List zk_S × List (Nat × Nat) × Nat × Nat
def zk_Qc (KT : List zk_K) (D : zk_D) (base : Nat) (Hb : Heap) (C : zk_C) (v : Nat → Value) (G : Nat → Nat) (H : Heap) (o : Option Value) (H' : Heap) : Prop :=
  ∃ (G' : Nat → Nat) (v' : Nat → Value) (t : zk_S), t ∈ C.2.1 ∧ o = (t.2.2.1.map v').head? ∧ t.2.2.1.length ≤ 1 ∧ (∀ y ∈ t.2.2.1, y < t.1) ∧ C.1.1 ≤ t.1 ∧ (∀ y, y < C.1.1 → v' y = v y) ∧ zk_hp KT D base Hb G' H' ∧ zk_ev KT D C.2.2.1 G H G' H' ∧ zk_F KT D G' H' v' t
section ZC
variable {p : Program} {l : Launch} {e : Env} {R : Room} {s : State} {m : MethodId} {args : Array Value} {below : List Frame} {meth : Method} {c : Code} {Q : State → Prop} {KT : List zk_K} {D : zk_D} {base : Nat} {Hb : Heap} {n0 nL : Nat} {v0 : Nat → Value} {E : List (Nat × Nat)} {G0 : Nat → Nat} {H0 : Heap} {cc : ByteArray}
variable {cells slots pc : Nat} {x : zk_S}
/-- what the pool says of a call -/
def zk_cok (p : Program) (l : Launch) (e : Env) (R : Room) (s : State) (m : MethodId) (args : Array Value) (below : List Frame) (meth : Method) (c : Code) (Q : State → Prop) (KT : List zk_K) (D : zk_D) (base : Nat) (Hb : Heap) (nL : Nat) (cc : ByteArray) (ins : Instr) (C : zk_C) : Prop :=
  ∀ {G : Nat → Nat} {H : Heap} {v : Nat → Value} {locs : List Loc} {cells slots pc : Nat} {ls : Array Slot} {rv : List Value}, zk_hp KT D base Hb G H → zk_F KT D G H v C.1 → (∀ q ∈ locs, base ≤ q.base) → cells + C.2.2.2.1 ≤ R.cells → slots + C.2.2.2.2 ≤ R.slots → (rv.map fun w => w.category).sum ≤ 8 → ls.size = nL → decode cc pc = .ok (ins, 3) →
    (∀ (o : Option Value) (H' : Heap) (locs' : List Loc), zk_Qc KT D base Hb C v G H o H' → (∀ q ∈ locs', base ≤ q.base) → W p l e R s m args below meth c H' locs' (cells + C.2.2.2.1) (slots + C.2.2.2.2) Q (F0 m (pc + 3) ls (o.toList ++ rv))) → W p l e R s m args below meth c H locs cells slots Q (F0 m pc ls ((C.1.2.2.1.map v).reverse ++ rv))
/-- the symbols of an answer in the caller -/
def zk_r2 (rho : List Nat) (n0 n : Nat) (y : Nat) : Nat := bif Nat.blt y n0 then zk_r rho y else n + (y - n0)
def zk_mt (x : zk_S) (f : Nat → Nat) (q : Nat × zk_T) : Nat × zk_T :=
  let t := zk_lk x.2.2.2.1 (f q.1)
  (f q.1, bif Nat.blt (f q.1) x.1 && zk_nu q.2 && Nat.beq t.1 q.2.1 then (q.2.1, zk_imax q.2.2.1 t.2.1, zk_imin q.2.2.2 t.2.2) else q.2)
def zk_mf (q : Nat × Nat × Nat × Nat) : Bool := Nat.beq q.1 2 || Nat.beq q.1 4 || Nat.beq q.1 5 || Nat.beq q.1 6 || Nat.beq q.1 8 || Nat.beq q.1 11
def zk_mm (f : Nat → Nat) (q : Nat × Nat × Nat × Nat) : Nat × Nat × Nat × Nat := bif Nat.beq q.1 2 then (2, f q.2.1, q.2.2.1, 0) else bif Nat.beq q.1 6 then (6, f q.2.1, f q.2.2.1, f q.2.2.2) else bif Nat.beq q.1 8 then (bif Nat.blt (f (zk_8b q.2.2.2)) 65536 then (8, f q.2.1, f q.2.2.1, (f (zk_8a q.2.2.2) * 65536 + f (zk_8b q.2.2.2)) * 65536 + zk_8c q.2.2.2) else (9, 0, 0, 0)) else bif Nat.beq q.1 11 then (11, f q.2.1, 0, 0) else (q.1, f q.2.1, f q.2.2.1, q.2.2.2)
def zk_af2 (KT : List zk_K) (x : zk_S) (rest : List Nat) (E : List (Nat × Nat)) (keep : Bool) (t : zk_S) (n0 : Nat) (rho : List Nat) : zk_S :=
  let f := zk_r2 rho n0 x.1
  let y := zk_ex KT E x keep
  (x.1 + (t.1 - n0), x.2.1, t.2.2.1.map f ++ rest, t.2.2.2.1.map (zk_mt x f) ++ y.2.2.2.1, t.2.2.2.2.1.map (fun q => (f q.1, f q.2.1, q.2.2)) ++ (zk_dup f t y ++ y.2.2.2.2.1), t.2.2.2.2.2.1.map (fun q => (f q.1, q.2.1, f q.2.2)) ++ y.2.2.2.2.2.1,
    t.2.2.2.2.2.2.1.map (fun q => (f q.1, f q.2)) ++ y.2.2.2.2.2.2.1, t.2.2.2.2.2.2.2.1.map (fun q => (f q.1, f q.2.1, q.2.2)) ++ y.2.2.2.2.2.2.2.1, (t.2.2.2.2.2.2.2.2.1.filter zk_mf).map (zk_mm f) ++ y.2.2.2.2.2.2.2.2.1, y.2.2.2.2.2.2.2.2.2)
/-- its numbers contradict themselves: a relation of the end's own against those that stood; one whose types are narrower now -/
def zk_bdx (n : Nat) (t z : zk_S) : Bool :=
  ((z.2.2.2.2.1.take t.2.2.2.2.1.length).any fun q => Nat.blt q.1 n && Nat.blt q.2.1 n && zk_le z.2.2.2.1 z.2.2.2.2.1 2 q.2.1 q.1 (-q.2.2 - 1)) ||
  (z.2.2.2.2.1.any fun q => ((z.2.2.2.1.take t.2.2.2.1.length).any fun a => Nat.beq a.1 q.1 || Nat.beq a.1 q.2.1) && zk_bs z.2.2.2.1 q.2.1 q.1 (-q.2.2 - 1))
theorem zk_bdx_no {KT : List zk_K} {D : zk_D} {G : Nat → Nat} {H : Heap} {v : Nat → Value} {n : Nat} {t z : zk_S} (hF : zk_F KT D G H v z) : zk_bdx n t z = false := by
  cases e : zk_bdx n t z
  · rfl
  · exfalso
    obtain ⟨nz, loc, stk, tys, rel, rest⟩ := z
    have ht : ∀ q ∈ tys, zk_tv G (v q.1) q.2 := fun q hq => (hF.1 q hq).2
    have hr : ∀ q ∈ rel, zk_rl nz v q := hF.2.1
    rcases Bool.or_eq_true_iff.mp e with e | e
    · obtain ⟨q, hq, e⟩ := List.any_eq_true.mp e
      have h1 := (hr q (List.mem_of_mem_take hq)).2.2
      have h2 := zk_le_ok ht hr (Bool.and_eq_true_iff.mp e).2
      omega
    · obtain ⟨q, hq, e⟩ := List.any_eq_true.mp e
      have h1 := (hr q hq).2.2
      have h2 := zk_bs_ok ht (Bool.and_eq_true_iff.mp e).2
      omega
/-- no type of it is empty -/
def zk_fe (n : Nat) (t : zk_S) (z : zk_S) : Bool := (((z.2.2.2.1.take t.2.2.2.1.length).all fun q => !(zk_nu q.2) || zk_ile q.2.2.1 q.2.2.2) &&
  (z.2.2.2.2.2.2.2.2.1.all fun q => !(Nat.beq q.1 2 && (let a := zk_lk z.2.2.2.1 q.2.1; zk_cst a && zk_ieq a.2.1 (q.2.2.1 : Int))))) && !(zk_bdx n t z)
theorem zk_af2_ok {KT : List zk_K} (hkt : zk_kt KT) {G G' : Nat → Nat} {H H' : Heap} {v v' : Nat → Value} {t : zk_S} {n1 : Nat} {rho : List Nat} {keep : Bool} {E1 : List (Nat × Nat)} {rest : List Nat} {D : zk_D}
    (hF : zk_F KT D G H v x) (he : zk_ev KT D E1 G H G' H') (hk : keep = true → H'.size = H.size) (ht : zk_F KT D G' H' v' t) (hn : n1 ≤ t.1) (hv : ∀ y, y < n1 → v' y = v (zk_r rho y)) (hr : ∀ y, y < n1 → zk_r rho y < x.1) :
    ∃ v2 : Nat → Value, (∀ y, y < x.1 → v2 y = v y) ∧ (∀ y, y < t.1 → v2 (zk_r2 rho n1 x.1 y) = v' y ∧ zk_r2 rho n1 x.1 y < x.1 + (t.1 - n1)) ∧ zk_F KT D G' H' v2 (zk_af2 KT x rest E1 keep t n1 rho) := by
  have hF2 := zk_F_ev (keep := keep) hkt hF he hk
  have hb : ∀ y, y < t.1 → zk_r2 rho n1 x.1 y < x.1 + (t.1 - n1) := by
    intro y hy
    unfold zk_r2
    cases e : Nat.blt y n1
    · have : ¬ y < n1 := fun z => by rw [show Nat.blt y n1 = true from by simpa using z] at e; cases e
      simp only [cond_false]; omega
    · have := hr y (by simpa using e)
      simp only [cond_true]; omega
  let v2 : Nat → Value := fun z => if z < x.1 then v z else v' (z - x.1 + n1)
  have hv2 : ∀ y, y < x.1 → v2 y = v y := fun y hy => if_pos hy
  have hvt : ∀ y, y < t.1 → v2 (zk_r2 rho n1 x.1 y) = v' y := by
    intro y hy
    unfold zk_r2
    cases e : Nat.blt y n1
    · have : ¬ y < n1 := fun z => by rw [show Nat.blt y n1 = true from by simpa using z] at e; cases e
      simp only [cond_false]
      show (if x.1 + (y - n1) < x.1 then _ else _) = _
      rw [if_neg (by omega)]
      congr 1; omega
    · have e := by simpa using e
      simp only [cond_true]
      rw [hv2 _ (hr y e), hv y e]
  refine ⟨v2, hv2, fun y hy => ⟨hvt y hy, hb y hy⟩, ?_⟩
  have hext := zk_F_ext (v' := v2) (n' := x.1 + (t.1 - n1)) hF2 (by show x.1 ≤ _; omega) (fun y hy => hv2 y hy)
  have hty := zk_F_ty hF
  unfold zk_af2
  generalize zk_ex KT E1 x keep = y at hext
  obtain ⟨ny, locy, stky, tyy, rely, fldy, leny, pfy, mscy, lay⟩ := y
  obtain ⟨a1, a2, a3, a4, a5, a6, a7⟩ := hext
  obtain ⟨n, loc, stk, tys, rel, fld, len, pf, msc, la⟩ := t
  obtain ⟨b1, b2, b3, b4, b5, b6, b7⟩ := ht
  refine ⟨fun q hq => ?_, fun q hq => ?_, fun q hq => ?_, fun q hq => ?_, fun q hq => ?_, fun q hq => ?_, a7⟩
  · rcases List.mem_append.mp hq with hq | hq
    · obtain ⟨r, hr2, rfl⟩ := List.mem_map.mp hq
      obtain ⟨c1, c2⟩ := b1 r hr2
      refine ⟨hb _ c1, ?_⟩
      show zk_tv G' (v2 (zk_r2 rho n1 x.1 r.1)) _
      have e0 := hvt _ c1
      unfold zk_mt
      dsimp only
      cases eb : Nat.blt (zk_r2 rho n1 x.1 r.1) x.1 && zk_nu r.2 && Nat.beq (zk_lk x.2.2.2.1 (zk_r2 rho n1 x.1 r.1)).1 r.2.1
      · rw [e0]; exact c2
      · obtain ⟨eb, d3⟩ := Bool.and_eq_true_iff.mp eb
        obtain ⟨d1, d2⟩ := Bool.and_eq_true_iff.mp eb
        have d1 : zk_r2 rho n1 x.1 r.1 < x.1 := by simpa using d1
        have d3 := Nat.eq_of_beq_eq_true d3
        have g1 := hty (zk_r2 rho n1 x.1 r.1)
        rw [← hv2 _ d1, e0] at g1
        have d4 : zk_nu (zk_lk x.2.2.2.1 (zk_r2 rho n1 x.1 r.1)) = true := by unfold zk_nu; rw [d3]; exact d2
        obtain ⟨f1, f2⟩ := zk_nu_tv g1 d4
        obtain ⟨f3, f4⟩ := zk_nu_tv c2 d2
        rw [e0]
        exact zk_tv_nu c2 d2 (zk_imax_le f3 f1) (zk_imin_le f4 f2)
    · exact a1 q hq
  · rcases List.mem_append.mp hq with hq | hq
    · obtain ⟨r, hr2, rfl⟩ := List.mem_map.mp hq
      obtain ⟨c1, c2, c3⟩ := b2 r hr2
      exact ⟨hb _ c1, hb _ c2, by show zk_i (v2 _) ≤ zk_i (v2 _) + _; rw [hvt _ c1, hvt _ c2]; exact c3⟩
    · rcases List.mem_append.mp hq with hq | hq
      case inr => exact a2 q hq
      obtain ⟨r, hr2, hq⟩ := List.mem_flatMap.mp hq
      try dsimp only at hq
      cases e0 : Nat.blt r.2.1 1000 <;> rw [e0] at hq
      · exact absurd hq List.not_mem_nil
      · simp only [cond_true] at hq
        split at hq
        · rename_i w hw
          obtain ⟨c1, c2, c3⟩ := b3 r hr2
          obtain ⟨d1, d2, d3⟩ := a3 _ (zk_ff_ok hw)
          obtain ⟨x1, y1, i1, -, -, -, i5, i6⟩ := zk_fl_real c3 e0
          obtain ⟨x2, y2, j1, -, -, -, j5, j6⟩ := zk_fl_real d3 e0
          have j1 : v2 (zk_r2 rho n1 _ r.1) = .ref x2 := j1
          rw [hvt _ c1, i1] at j1
          cases j1
          rw [i5] at j5
          cases j5
          rw [i6] at j6
          have hee : v' r.2.2 = v2 w.2.2 := Option.some.inj j6
          cases e1 : Nat.beq w.2.2 (zk_r2 rho n1 x.1 r.2.2) <;> rw [e1] at hq
          · simp only [cond_false, List.mem_cons, List.mem_nil_iff, or_false] at hq
            rcases hq with rfl | rfl
            · exact ⟨hb _ c2, d2, by show zk_i (v2 _) ≤ zk_i (v2 _) + 0; rw [hvt _ c2, hee, Int.add_zero]; exact Int.le_refl _⟩
            · exact ⟨d2, hb _ c2, by show zk_i (v2 _) ≤ zk_i (v2 _) + 0; rw [hvt _ c2, hee, Int.add_zero]; exact Int.le_refl _⟩
          · exact absurd hq List.not_mem_nil
        · exact absurd hq List.not_mem_nil
  · rcases List.mem_append.mp hq with hq | hq
    · obtain ⟨r, hr2, rfl⟩ := List.mem_map.mp hq
      obtain ⟨c1, c2, c3⟩ := b3 r hr2
      exact ⟨hb _ c1, hb _ c2, by show zk_fl KT D G' H' (v2 _) _ (v2 _); rw [hvt _ c1, hvt _ c2]; exact c3⟩
    · exact a3 q hq
  · rcases List.mem_append.mp hq with hq | hq
    · obtain ⟨r, hr2, rfl⟩ := List.mem_map.mp hq
      obtain ⟨c1, c2, c3⟩ := b4 r hr2
      exact ⟨hb _ c1, hb _ c2, by show zk_ln KT G' H' (v2 _) (v2 _); rw [hvt _ c1, hvt _ c2]; exact c3⟩
    · exact a4 q hq
  · rcases List.mem_append.mp hq with hq | hq
    · obtain ⟨r, hr2, rfl⟩ := List.mem_map.mp hq
      obtain ⟨c1, c2, c3⟩ := b5 r hr2
      exact ⟨hb _ c1, hb _ c2, by show zk_pf KT G' H' (v2 _) (zk_i (v2 _) + _); rw [hvt _ c1, hvt _ c2]; exact c3⟩
    · exact a5 q hq
  · rcases List.mem_append.mp hq with hq | hq
    · obtain ⟨r, hr2, rfl⟩ := List.mem_map.mp hq
      obtain ⟨r1, r2⟩ := List.mem_filter.mp hr2
      have c := b6 r r1
      unfold zk_mm
      cases e2 : Nat.beq r.1 2
      · cases e6 : Nat.beq r.1 6
        · cases e8 : Nat.beq r.1 8
          · cases e11 : Nat.beq r.1 11
            · have r2 : r.1 = 4 ∨ r.1 = 5 := by
                unfold zk_mf at r2
                rw [e2, e6, e8, e11] at r2
                simp only [Bool.false_or, Bool.or_false] at r2
                rcases Bool.or_eq_true_iff.mp r2 with z | z
                · exact Or.inl (Nat.eq_of_beq_eq_true z)
                · exact Or.inr (Nat.eq_of_beq_eq_true z)
              rcases r2 with r2 | r2
              · have c := zk_ms4 c r2
                simp only [cond_false, r2]
                exact zk_ms4i ⟨hb _ c.1, hb _ c.2.1, by rw [hvt _ c.1, hvt _ c.2.1]; exact c.2.2⟩
              · have c := zk_ms5 c r2
                simp only [cond_false, r2]
                exact zk_ms5i ⟨hb _ c.1, hb _ c.2.1, by rw [hvt _ c.1, hvt _ c.2.1]; exact c.2.2⟩
            · obtain ⟨l1, a, cell, m1, m2, m3, m4⟩ := zk_ms11 c (Nat.eq_of_beq_eq_true e11)
              simp only [cond_false, cond_true]
              exact zk_ms11i ⟨hb _ l1, a, cell, by rw [hvt _ l1]; exact m1, m2, m3, m4⟩
          · obtain ⟨l1, l2, l3, l4, l5⟩ := zk_ms8 c (Nat.eq_of_beq_eq_true e8)
            simp only [cond_false, cond_true]
            generalize hB : Nat.blt _ 65536 = b
            cases b
            · exact zk_ms9i
            · have hB : zk_r2 rho n1 x.1 (zk_8b r.2.2.2) < 65536 := by simpa using hB
              have hC : zk_8c r.2.2.2 < 65536 := Nat.mod_lt _ (by decide)
              have k1 : zk_8a ((zk_r2 rho n1 x.1 (zk_8a r.2.2.2) * 65536 + zk_r2 rho n1 x.1 (zk_8b r.2.2.2)) * 65536 + zk_8c r.2.2.2) = zk_r2 rho n1 x.1 (zk_8a r.2.2.2) := by
                generalize zk_8c r.2.2.2 = cc at *
                unfold zk_8a; omega
              have k2 : zk_8b ((zk_r2 rho n1 x.1 (zk_8a r.2.2.2) * 65536 + zk_r2 rho n1 x.1 (zk_8b r.2.2.2)) * 65536 + zk_8c r.2.2.2) = zk_r2 rho n1 x.1 (zk_8b r.2.2.2) := by
                generalize zk_8c r.2.2.2 = cc at *
                generalize zk_r2 rho n1 x.1 (zk_8b r.2.2.2) = bb at *
                unfold zk_8b; omega
              have k3 : zk_8c ((zk_r2 rho n1 x.1 (zk_8a r.2.2.2) * 65536 + zk_r2 rho n1 x.1 (zk_8b r.2.2.2)) * 65536 + zk_8c r.2.2.2) = zk_8c r.2.2.2 := by
                generalize zk_8c r.2.2.2 = cc at *
                unfold zk_8c; omega
              simp only [cond_true]
              exact zk_ms8i ⟨hb _ l1, hb _ l2, by rw [k1]; exact hb _ l3, by rw [k2]; exact hb _ l4, by rw [k1, k2, k3, hvt _ l1, hvt _ l2, hvt _ l3, hvt _ l4]; exact l5⟩
        · obtain ⟨l1, l2, l3, a, cell, i, m1, m2, m3, m4, m5⟩ := zk_ms6 c (Nat.eq_of_beq_eq_true e6)
          simp only [cond_false, cond_true]
          exact zk_ms6i ⟨hb _ l1, hb _ l2, hb _ l3, a, cell, i, by rw [hvt _ l1]; exact m1, m2, m3, by rw [hvt _ l2]; exact m4, by rw [hvt _ l3]; exact m5⟩
      · have c := zk_ms2 c (Nat.eq_of_beq_eq_true e2)
        simp only [cond_true]
        exact zk_ms2i ⟨hb _ c.1, by rw [hvt _ c.1]; exact c.2⟩
    · exact a6 q hq
/-- how many slots of a stack a value of a type takes -/
def zk_cgy (t : zk_T) : Nat := bif Nat.beq t.1 0 || Nat.beq t.1 2 then 1 else 2
theorem zk_cgy_ok {G : Nat → Nat} {v : Value} {t : zk_T} (h : zk_tv G v t) : v.category ≤ zk_cgy t := by
  unfold zk_cgy
  cases e0 : Nat.beq t.1 0
  · cases e2 : Nat.beq t.1 2
    · cases v <;> simp [Value.category]
    · have e := Nat.eq_of_beq_eq_true e2
      unfold zk_tv at h
      rw [if_neg (by omega), if_neg (by omega), if_pos e] at h
      rcases h with ⟨a, rfl, -⟩ | ⟨-, rfl⟩ <;> exact Nat.le_refl _
  · have e := Nat.eq_of_beq_eq_true e0
    unfold zk_tv at h
    rw [if_pos e] at h
    obtain ⟨a, rfl, -⟩ := h
    exact Nat.le_refl _
/-- a call: rho gives the callee's symbols; ar the arguments as they lie on the stack -/
theorem zs_call {ins : Instr} {C : zk_C} {ar rest : List Nat} {rho : List Nat} {keep : Bool} (hkt : zk_kt KT) (hg : zk_cok p l e R s m args below meth c Q KT D base Hb nL cc ins C) (hs : x.2.2.1 = ar ++ rest) (har : Nat.beq ar.length C.1.2.2.1.length = true) (hal : ((C.1.2.2.1.zip ar.reverse).all fun q => Nat.blt q.1 C.1.1 && zk_eq x q.2 (zk_r rho q.1)) = true) (hck : zk_ck KT C.1 x rho = true)
    (hrb : ((List.range C.1.1).all fun y => Nat.blt (zk_r rho y) x.1) = true) (hcat : (rest.all fun y => Nat.beq (zk_lk x.2.2.2.1 y).1 0 || Nat.beq (zk_lk x.2.2.2.1 y).1 2 || Nat.beq (zk_lk x.2.2.2.1 y).1 1) = true) (hlen : Nat.ble (rest.map fun y => zk_cgy (zk_lk x.2.2.2.1 y)).sum 8 = true) (hsb : zk_sb C.2.2.1 E = true)
    (hkeep : keep = true → C.2.2.2.1 = 0 ∧ False) (hc1 : cells + C.2.2.2.1 ≤ R.cells) (hc2 : slots + C.2.2.2.2 ≤ R.slots) (hdg : decode cc pc = .ok (ins, 3))
    (kk : ∀ t ∈ C.2.1, zk_fe x.1 t (zk_af2 KT x rest C.2.2.1 keep t C.1.1 rho) = true → zk_G p l e R s m args below meth c Q KT D base Hb n0 nL v0 E G0 H0 (cells + C.2.2.2.1) (slots + C.2.2.2.2) (pc + 3) (zk_af2 KT x rest C.2.2.1 keep t C.1.1 rho)) : zk_G p l e R s m args below meth c Q KT D base Hb n0 nL v0 E G0 H0 cells slots pc x := by
  intro G H locs ls vs v hp he hl hF hL
  obtain ⟨e1, hlt⟩ := zk_LS_stk hL
  obtain ⟨hloc, -⟩ := zk_LS_loc hL
  subst e1
  rw [hs] at hlt ⊢
  have hCF := zk_ck_ok hp hF hck
  have har := Nat.eq_of_beq_eq_true har
  obtain ⟨hm, -⟩ := zk_zip_map (rho := rho) (n := C.1.1) (fun {a b} => zk_eq_ok hF (a := a) (b := b)) C.1.2.2.1 ar.reverse (by rw [List.length_reverse]; exact har.symm) (fun q hq => List.all_eq_true.mp hal q hq)
  have hst : (ar ++ rest).map v = (C.1.2.2.1.map (fun y => v (zk_r rho y))).reverse ++ rest.map v := by
    rw [List.map_append, ← hm, List.map_reverse, List.reverse_reverse]
  rw [hst]
  have hty := zk_F_ty hF
  have hcs : ((rest.map v).map fun w => w.category).sum ≤ 8 := by
    have h2 : ∀ l : List Nat, ((l.map v).map fun w => w.category).sum ≤ (l.map fun y => zk_cgy (zk_lk x.2.2.2.1 y)).sum := by
      intro l
      induction l with
      | nil => exact Nat.le_refl _
      | cons a l ih =>
        have h3 := zk_cgy_ok (hty a)
        simp only [List.map_cons, List.sum_cons]
        omega
    exact Nat.le_trans (h2 rest) (Nat.le_of_ble_eq_true hlen)
  have hrb2 : ∀ y, y < C.1.1 → zk_r rho y < x.1 := fun y hy => by
    have := List.all_eq_true.mp hrb y (List.mem_range.mpr hy)
    simpa using this
  refine hg hp hCF hl hc1 hc2 hcs hloc.1 hdg (fun o H' locs' hq hl' => ?_)
  obtain ⟨G', v', t, q1, q2, q3, q4, q5, q6, q7, q8, q9⟩ := hq
  obtain ⟨v2, w1, w2, w3⟩ := zk_af2_ok (rest := rest) (keep := keep) hkt hF q8 (fun hk => absurd (hkeep hk).2 id) q9 q5 (fun y hy => q6 y hy) hrb2
  have hfe : zk_fe x.1 t (zk_af2 KT x rest C.2.2.1 keep t C.1.1 rho) = true := by
    unfold zk_fe
    rw [Bool.and_eq_true]
    refine ⟨?_, by rw [zk_bdx_no w3]; rfl⟩
    rw [Bool.and_eq_true, List.all_eq_true, List.all_eq_true]
    generalize zk_af2 KT x rest C.2.2.1 keep t C.1.1 rho = z at w3
    obtain ⟨n, loc, stk, tys, rel, fld, len, pf, msc, la⟩ := z
    refine ⟨fun q hq => ?_, fun q hq => ?_⟩
    · have hq := List.mem_of_mem_take hq
      have := (w3.1 q hq).2
      cases en : zk_nu q.2
      · rfl
      · have := zk_nu_tv this en
        simp only [Bool.not_true, Bool.false_or]
        exact (zk_ile_iff _ _).mpr (Int.le_trans this.1 this.2)
    · cases e : (Nat.beq q.1 2 && (let a := zk_lk tys q.2.1; zk_cst a && zk_ieq a.2.1 (q.2.2.1 : Int)))
      · rfl
      · exfalso
        obtain ⟨e1, e2⟩ := Bool.and_eq_true_iff.mp e
        obtain ⟨e2, e3⟩ := Bool.and_eq_true_iff.mp e2
        have hm := w3.2.2.2.2.2.1 q hq
        have e1 := Nat.eq_of_beq_eq_true e1
        unfold zk_ms at hm
        rw [if_neg (by omega), if_neg (by omega), if_pos e1] at hm
        have ht := zk_lk_ok (x := q.2.1) (fun q hq => (w3.1 q hq).2)
        have c := zk_cst_ok ht e2
        have d := (zk_ieq_iff _ _).mp e3
        exact hm.2 (by rw [c, d])
  have hL2 : zk_LS n0 v0 nL ls (o.toList ++ rest.map v) v2 (zk_af2 KT x rest C.2.2.1 keep t C.1.1 rho) := by
    have hx := zk_LS_ext (v' := v2) (n' := x.1 + (t.1 - C.1.1)) hL (Nat.le_add_right _ _) w1
    obtain ⟨n, loc, stk, restx⟩ := x
    obtain ⟨i1, i2, i3, i4, i5, i6⟩ := hx
    refine ⟨i1, i2, i3, i4, ?_, fun y hy => ?_⟩
    · show o.toList ++ rest.map v = (t.2.2.1.map (zk_r2 rho C.1.1 n) ++ rest).map v2
      rw [List.map_append]
      congr 1
      · rw [q2]
        match h : t.2.2.1, q3, q4 with
        | [], _, _ => rfl
        | [y], _, q4 =>
          show [v' y] = [v2 (zk_r2 rho C.1.1 n y)]
          rw [(w2 y (q4 y List.mem_cons_self)).1]
        | _ :: _ :: _, q3, _ => simp at q3
      · exact (List.map_congr_left fun y hy => w1 y (hlt y (List.mem_append_right _ hy))).symm
    · rcases List.mem_append.mp hy with hy | hy
      · obtain ⟨z, hz, rfl⟩ := List.mem_map.mp hy
        exact (w2 z (q4 z hz)).2
      · exact Nat.lt_of_lt_of_le (hlt y (List.mem_append_right _ hy)) (Nat.le_add_right _ _)
  exact kk t q1 hfe G' H' locs' ls _ v2 q7 (zk_ev_tr hkt he (zk_ev_sb hsb q8)) hl' w3 hL2
end ZC
end
