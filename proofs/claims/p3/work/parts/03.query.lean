/-! ENGINE, 2: what follows from the facts: bounds, refinement at a branch -/
noncomputable section
def zk_ile : Int → Int → Bool
  | .ofNat x, .ofNat y => Nat.ble x y
  | .negSucc x, .negSucc y => Nat.ble y x
  | .negSucc _, .ofNat _ => true
  | .ofNat _, .negSucc _ => false
theorem zk_ile_iff (a b : Int) : zk_ile a b = true ↔ a ≤ b := by
  cases a <;> cases b <;> simp [zk_ile, Nat.ble_eq] <;> omega
def zk_ieq (a b : Int) : Bool := zk_ile a b && zk_ile b a
theorem zk_ieq_iff (a b : Int) : zk_ieq a b = true ↔ a = b := by
  simp only [zk_ieq, Bool.and_eq_true, zk_ile_iff]; omega
def zk_imin (a b : Int) : Int := bif zk_ile a b then a else b
def zk_imax (a b : Int) : Int := bif zk_ile a b then b else a
theorem zk_imin_le {z a b : Int} (h1 : z ≤ a) (h2 : z ≤ b) : z ≤ zk_imin a b := by
  unfold zk_imin; cases zk_ile a b <;> simpa
theorem zk_imax_le {z a b : Int} (h1 : a ≤ z) (h2 : b ≤ z) : zk_imax a b ≤ z := by
  unfold zk_imax; cases zk_ile a b <;> simpa
/-- by recursors alone, and the symbol made a numeral first: quick in the kernel -/
noncomputable def zk_lk0 (l : List (Nat × zk_T)) (x : Nat) : zk_T := @List.rec (Nat × zk_T) (fun _ => zk_T) (3, 0, 0) (fun q _ ih => @Bool.rec (fun _ => zk_T) ih q.2 (Nat.beq q.1 x)) l
noncomputable def zk_lk (l : List (Nat × zk_T)) (x : Nat) : zk_T := @Nat.rec (fun _ => zk_T) (zk_lk0 l 0) (fun n _ => zk_lk0 l (Nat.succ n)) x
theorem zk_lk_eq (l : List (Nat × zk_T)) (x : Nat) : zk_lk l x = zk_lk0 l x := by cases x <;> rfl
theorem zk_lk_nil (x : Nat) : zk_lk [] x = (3, 0, 0) := by rw [zk_lk_eq]; rfl
theorem zk_lk_cons (q : Nat × zk_T) (r : List (Nat × zk_T)) (x : Nat) : zk_lk (q :: r) x = bif Nat.beq q.1 x then q.2 else zk_lk r x := by
  rw [zk_lk_eq, zk_lk_eq]
  show @Bool.rec (fun _ => zk_T) (zk_lk0 r x) q.2 (Nat.beq q.1 x) = _
  cases Nat.beq q.1 x <;> rfl
theorem zk_lk_ok {G : Nat → Nat} {v : Nat → Value} {x : Nat} : ∀ {tys : List (Nat × zk_T)}, (∀ q ∈ tys, zk_tv G (v q.1) q.2) → zk_tv G (v x) (zk_lk tys x)
  | [], _ => by rw [zk_lk_nil]; simp [zk_tv]
  | q :: r, h => by
    rw [zk_lk_cons]
    cases e : Nat.beq q.1 x
    · exact zk_lk_ok fun q hq => h q (List.mem_cons_of_mem _ hq)
    · have e2 := Nat.eq_of_beq_eq_true e
      have := h q List.mem_cons_self
      rw [e2] at this
      exact this
def zk_hi (t : zk_T) : Option Int := bif Nat.blt t.1 2 then some t.2.2 else none
def zk_lo (t : zk_T) : Option Int := bif Nat.blt t.1 2 then some t.2.1 else bif Nat.beq t.1 2 then (bif zk_ieq t.2.2 0 then some 0 else some (-1)) else none
theorem zk_hi_ok {G : Nat → Nat} {w : Value} {t : zk_T} {h : Int} (ht : zk_tv G w t) (e : zk_hi t = some h) : zk_i w ≤ h := by
  obtain ⟨a, b, c⟩ := t
  match a, ht, e with
  | 0, ⟨x, h1, h2, h3⟩, e => have e : some c = some h := e; cases e; subst h1; exact h3
  | 1, ⟨x, h1, h2, h3⟩, e => have e : some c = some h := e; cases e; subst h1; exact h3
  | n + 2, _, e => have e : (none : Option Int) = some h := e; cases e
theorem zk_lo_ok {G : Nat → Nat} {w : Value} {t : zk_T} {h : Int} (ht : zk_tv G w t) (e : zk_lo t = some h) : h ≤ zk_i w := by
  obtain ⟨a, b, c⟩ := t
  match a, ht, e with
  | 0, ⟨x, h1, h2, h3⟩, e => have e : some b = some h := e; cases e; subst h1; exact h2
  | 1, ⟨x, h1, h2, h3⟩, e => have e : some b = some h := e; cases e; subst h1; exact h2
  | 2, ht, e =>
    have e : (bif zk_ieq c 0 then some 0 else some (-1)) = some h := e
    rcases ht with ⟨x, h1, h2, h3⟩ | ⟨h1, h2⟩
    · subst h1
      cases q : zk_ieq c 0 <;> rw [q] at e <;> cases e <;> simp only [zk_i] <;> omega
    · subst h2
      have : zk_ieq c 0 = false := by
        cases q : zk_ieq c 0
        · rfl
        · exact absurd ((zk_ieq_iff _ _).mp q) h1
      rw [this] at e; cases e; simp [zk_i]
  | n + 3, _, e => have e : (none : Option Int) = some h := e; cases e
def zk_bs (tys : List (Nat × zk_T)) (x y : Nat) (c : Int) : Bool :=
  (Nat.beq x y && zk_ile 0 c) || (match zk_hi (zk_lk tys x), zk_lo (zk_lk tys y) with
    | some h, some l => zk_ile h (l + c)
    | _, _ => false)
noncomputable def zk_le (tys : List (Nat × zk_T)) (rel : List (Nat × Nat × Int)) (k : Nat) : Nat → Nat → Int → Bool := @Nat.rec (fun _ => Nat → Nat → Int → Bool) (fun x y c => zk_bs tys x y c)
  (fun _ ih x y c => @Bool.rec (fun _ => Bool) (zk_any rel fun q => @Bool.rec (fun _ => Bool) false (ih q.2.1 y (c - q.2.2)) (Nat.beq q.1 x)) true (zk_bs tys x y c)) k
theorem zk_le_s {tys : List (Nat × zk_T)} {rel : List (Nat × Nat × Int)} {k x y : Nat} {c : Int} : zk_le tys rel (k + 1) x y c = (zk_bs tys x y c || rel.any fun q => Nat.beq q.1 x && zk_le tys rel k q.2.1 y (c - q.2.2)) := by
  show @Bool.rec (fun _ => Bool) (zk_any rel fun q => @Bool.rec (fun _ => Bool) false (zk_le tys rel k q.2.1 y (c - q.2.2)) (Nat.beq q.1 x)) true (zk_bs tys x y c) = _
  rw [zk_any_eq (p' := fun q => Nat.beq q.1 x && zk_le tys rel k q.2.1 y (c - q.2.2)) (fun q => by cases Nat.beq q.1 x <;> rfl)]
  cases zk_bs tys x y c <;> rfl
theorem zk_bs_ok {G : Nat → Nat} {v : Nat → Value} {tys : List (Nat × zk_T)} (h : ∀ q ∈ tys, zk_tv G (v q.1) q.2) {x y : Nat} {c : Int} (e : zk_bs tys x y c = true) : zk_i (v x) ≤ zk_i (v y) + c := by
  unfold zk_bs at e
  rcases Bool.or_eq_true_iff.mp e with e | e
  · have h1 := Nat.eq_of_beq_eq_true (Bool.and_eq_true_iff.mp e).1
    have h2 := (zk_ile_iff _ _).mp (Bool.and_eq_true_iff.mp e).2
    subst h1; omega
  · cases h1 : zk_hi (zk_lk tys x) with
    | none => rw [h1] at e; simp at e
    | some hx =>
      cases h2 : zk_lo (zk_lk tys y) with
      | none => rw [h1, h2] at e; simp at e
      | some ly =>
        rw [h1, h2] at e
        have := (zk_ile_iff _ _).mp e
        have a1 := zk_hi_ok (zk_lk_ok (x := x) h) h1
        have a2 := zk_lo_ok (zk_lk_ok (x := y) h) h2
        omega
theorem zk_le_ok {G : Nat → Nat} {v : Nat → Value} {tys : List (Nat × zk_T)} {rel : List (Nat × Nat × Int)} {n : Nat} (h : ∀ q ∈ tys, zk_tv G (v q.1) q.2) (hr : ∀ q ∈ rel, zk_rl n v q) :
    ∀ {k x y : Nat} {c : Int}, zk_le tys rel k x y c = true → zk_i (v x) ≤ zk_i (v y) + c
  | 0, x, y, c, e => zk_bs_ok h e
  | k + 1, x, y, c, e => by
    rw [zk_le_s] at e
    rcases Bool.or_eq_true_iff.mp e with e | e
    · exact zk_bs_ok h e
    · obtain ⟨q, hq, e⟩ := List.any_eq_true.mp e
      have h1 := Nat.eq_of_beq_eq_true (Bool.and_eq_true_iff.mp e).1
      have h2 := zk_le_ok h hr (Bool.and_eq_true_iff.mp e).2
      have h3 := (hr q hq).2.2
      rw [h1] at h3; omega
/-- facts added in front -/
def zk_ad (s : zk_S) (tys : List (Nat × zk_T)) (rel : List (Nat × Nat × Int)) (ms : List (Nat × Nat × Nat × Nat)) : zk_S :=
  (s.1, s.2.1, s.2.2.1, tys ++ s.2.2.2.1, rel ++ s.2.2.2.2.1, s.2.2.2.2.2.1, s.2.2.2.2.2.2.1, s.2.2.2.2.2.2.2.1, ms ++ s.2.2.2.2.2.2.2.2.1, s.2.2.2.2.2.2.2.2.2)
theorem zk_F_ad {KT : List zk_K} {D : zk_D} {G : Nat → Nat} {H : Heap} {v : Nat → Value} {s : zk_S} {tys : List (Nat × zk_T)} {rel : List (Nat × Nat × Int)} {ms : List (Nat × Nat × Nat × Nat)} (h : zk_F KT D G H v s)
    (h1 : ∀ q ∈ tys, q.1 < s.1 ∧ zk_tv G (v q.1) q.2) (h2 : ∀ q ∈ rel, zk_rl s.1 v q) (h3 : ∀ q ∈ ms, zk_ms D G H s.1 v q) : zk_F KT D G H v (zk_ad s tys rel ms) := by
  obtain ⟨n, loc, stk, ty0, rel0, fld, len, pf, msc, la⟩ := s
  obtain ⟨a1, a2, a3, a4, a5, a6, a7⟩ := h
  exact ⟨fun q hq => (List.mem_append.mp hq).elim (h1 q) (a1 q), fun q hq => (List.mem_append.mp hq).elim (h2 q) (a2 q), a3, a4, a5, fun q hq => (List.mem_append.mp hq).elim (h3 q) (a6 q), a7⟩
theorem zk_LS_ad {n0 : Nat} {v0 : Nat → Value} {nL : Nat} {ls : Array Slot} {vs : List Value} {v : Nat → Value} {s : zk_S} {tys : List (Nat × zk_T)} {rel : List (Nat × Nat × Int)} {ms : List (Nat × Nat × Nat × Nat)}
    (h : zk_LS n0 v0 nL ls vs v s) : zk_LS n0 v0 nL ls vs v (zk_ad s tys rel ms) := by
  obtain ⟨n, loc, stk, rest⟩ := s
  exact h
/-- an int or a long -/
def zk_nu (t : zk_T) : Bool := Nat.blt t.1 2
theorem zk_nu_tv {G : Nat → Nat} {w : Value} {t : zk_T} (h : zk_tv G w t) (hn : zk_nu t = true) : t.2.1 ≤ zk_i w ∧ zk_i w ≤ t.2.2 := by
  refine ⟨zk_lo_ok h ?_, zk_hi_ok h ?_⟩
  · unfold zk_lo; rw [show Nat.blt t.1 2 = true from hn]; rfl
  · unfold zk_hi; rw [show Nat.blt t.1 2 = true from hn]; rfl
theorem zk_tv_nu {G : Nat → Nat} {w : Value} {t : zk_T} (h : zk_tv G w t) (hn : zk_nu t = true) {lo hi : Int} (h1 : lo ≤ zk_i w) (h2 : zk_i w ≤ hi) : zk_tv G w (t.1, lo, hi) := by
  obtain ⟨a, b, c⟩ := t
  match a, h, hn with
  | 0, ⟨x, e, _, _⟩, _ => subst e; exact ⟨x, rfl, h1, h2⟩
  | 1, ⟨x, e, _, _⟩, _ => subst e; exact ⟨x, rfl, h1, h2⟩
  | n + 2, _, hn => simp [zk_nu, Nat.blt] at hn
/-- x ≤ y + c holds: none, if that can't be -/
def zk_rf (s : zk_S) (x y : Nat) (c : Int) : Option zk_S :=
  bif zk_le s.2.2.2.1 s.2.2.2.2.1 3 y x (-c - 1) then none else
  let tx := zk_lk s.2.2.2.1 x
  let ty := zk_lk s.2.2.2.1 y
  bif zk_nu tx && zk_nu ty then some (zk_ad s [(x, tx.1, tx.2.1, zk_imin tx.2.2 (ty.2.2 + c)), (y, ty.1, zk_imax ty.2.1 (tx.2.1 - c), ty.2.2)] [(x, y, c)] [])
  else some (zk_ad s [] [(x, y, c)] [])
theorem zk_rf_ok {KT : List zk_K} {D : zk_D} {G : Nat → Nat} {H : Heap} {v : Nat → Value} {s : zk_S} {x y : Nat} {c : Int} (h : zk_F KT D G H v s) (hx : x < s.1) (hy : y < s.1) (hc : zk_i (v x) ≤ zk_i (v y) + c) :
    ∃ s', zk_rf s x y c = some s' ∧ zk_F KT D G H v s' ∧ ∀ {n0 v0 nL ls vs}, zk_LS n0 v0 nL ls vs v s → zk_LS n0 v0 nL ls vs v s' := by
  have ht : ∀ q ∈ s.2.2.2.1, zk_tv G (v q.1) q.2 := by
    obtain ⟨n, loc, stk, ty0, rel0, fld, len, pf, msc, la⟩ := s
    exact fun q hq => (h.1 q hq).2
  have hr : ∀ q ∈ s.2.2.2.2.1, zk_rl s.1 v q := by
    obtain ⟨n, loc, stk, ty0, rel0, fld, len, pf, msc, la⟩ := s
    exact h.2.1
  unfold zk_rf
  cases e : zk_le s.2.2.2.1 s.2.2.2.2.1 3 y x (-c - 1)
  · have tx := zk_lk_ok (x := x) ht
    have ty := zk_lk_ok (x := y) ht
    have hq : ∀ q ∈ [(x, y, c)], zk_rl s.1 v q := fun q hq => by
      rw [List.mem_singleton.mp hq]; exact ⟨hx, hy, hc⟩
    cases e2 : zk_nu (zk_lk s.2.2.2.1 x) && zk_nu (zk_lk s.2.2.2.1 y)
    · simp only [e2, cond_false]
      exact ⟨_, rfl, zk_F_ad h (fun q hq => by simp at hq) hq (fun q hq => by simp at hq), fun z => zk_LS_ad z⟩
    · simp only [e2, cond_false, cond_true]
      obtain ⟨n1, n2⟩ := Bool.and_eq_true_iff.mp e2
      obtain ⟨b1, b2⟩ := zk_nu_tv tx n1
      obtain ⟨b3, b4⟩ := zk_nu_tv ty n2
      refine ⟨_, rfl, zk_F_ad h (fun q hq => ?_) hq (fun q hq => by simp at hq), fun z => zk_LS_ad z⟩
      rcases List.mem_cons.mp hq with rfl | hq
      · exact ⟨hx, zk_tv_nu tx n1 b1 (zk_imin_le b2 (by omega))⟩
      · rw [List.mem_singleton.mp hq]
        exact ⟨hy, zk_tv_nu ty n2 (zk_imax_le b3 (by omega)) b4⟩
  · have := zk_le_ok ht hr e
    omega
/-- x lies in lo .. hi -/
def zk_iv (s : zk_S) (x : Nat) (lo hi : Int) : Option zk_S :=
  let tx := zk_lk s.2.2.2.1 x
  bif zk_nu tx then (let l := zk_imax tx.2.1 lo; let h := zk_imin tx.2.2 hi; bif zk_ile l h then some (zk_ad s [(x, tx.1, l, h)] [] []) else none) else some s
theorem zk_iv_ok {KT : List zk_K} {D : zk_D} {G : Nat → Nat} {H : Heap} {v : Nat → Value} {s : zk_S} {x : Nat} {lo hi : Int} (h : zk_F KT D G H v s) (hx : x < s.1) (h1 : lo ≤ zk_i (v x)) (h2 : zk_i (v x) ≤ hi) :
    ∃ s', zk_iv s x lo hi = some s' ∧ zk_F KT D G H v s' ∧ ∀ {n0 v0 nL ls vs}, zk_LS n0 v0 nL ls vs v s → zk_LS n0 v0 nL ls vs v s' := by
  have ht : ∀ q ∈ s.2.2.2.1, zk_tv G (v q.1) q.2 := by
    obtain ⟨n, loc, stk, ty0, rel0, fld, len, pf, msc, la⟩ := s
    exact fun q hq => (h.1 q hq).2
  have tx := zk_lk_ok (x := x) ht
  unfold zk_iv
  cases e2 : zk_nu (zk_lk s.2.2.2.1 x)
  · simp only [e2, cond_false]
    exact ⟨s, rfl, h, fun z => z⟩
  · obtain ⟨b1, b2⟩ := zk_nu_tv tx e2
    have c1 := zk_imax_le b1 h1
    have c2 := zk_imin_le b2 h2
    have e3 : zk_ile (zk_imax (zk_lk s.2.2.2.1 x).2.1 lo) (zk_imin (zk_lk s.2.2.2.1 x).2.2 hi) = true := (zk_ile_iff _ _).mpr (Int.le_trans c1 c2)
    simp only [e2, e3, cond_true]
    refine ⟨_, rfl, zk_F_ad h (fun q hq => ?_) (fun q hq => by simp at hq) (fun q hq => by simp at hq), fun z => zk_LS_ad z⟩
    rw [List.mem_singleton.mp hq]
    exact ⟨hx, zk_tv_nu tx e2 c1 c2⟩
/-- x isn't c -/
def zk_nc (s : zk_S) (x : Nat) (c : Int) : Option zk_S :=
  let tx := zk_lk s.2.2.2.1 x
  let ms := bif zk_ile 0 c then [(2, x, c.toNat, 0)] else []
  bif zk_nu tx then (let l := bif zk_ieq tx.2.1 c then c + 1 else tx.2.1; let h := bif zk_ieq tx.2.2 c then c - 1 else tx.2.2; bif zk_ile l h then some (zk_ad s [(x, tx.1, l, h)] [] ms) else none) else some (zk_ad s [] [] ms)
theorem zk_nc_ok {KT : List zk_K} {D : zk_D} {G : Nat → Nat} {H : Heap} {v : Nat → Value} {s : zk_S} {x : Nat} {c : Int} (h : zk_F KT D G H v s) (hx : x < s.1) (hc : zk_i (v x) ≠ c) :
    ∃ s', zk_nc s x c = some s' ∧ zk_F KT D G H v s' ∧ ∀ {n0 v0 nL ls vs}, zk_LS n0 v0 nL ls vs v s → zk_LS n0 v0 nL ls vs v s' := by
  have ht : ∀ q ∈ s.2.2.2.1, zk_tv G (v q.1) q.2 := by
    obtain ⟨n, loc, stk, ty0, rel0, fld, len, pf, msc, la⟩ := s
    exact fun q hq => (h.1 q hq).2
  have tx := zk_lk_ok (x := x) ht
  have hm : ∀ q ∈ (bif zk_ile 0 c then [(2, x, c.toNat, 0)] else [] : List (Nat × Nat × Nat × Nat)), zk_ms D G H s.1 v q := by
    intro q hq
    cases e : zk_ile 0 c
    · rw [e] at hq; simp at hq
    · rw [e] at hq
      simp at hq
      have e0 := (zk_ile_iff _ _).mp e
      subst hq
      simp only [zk_ms]
      exact ⟨hx, by rw [Int.toNat_of_nonneg e0]; exact hc⟩
  unfold zk_nc
  cases e2 : zk_nu (zk_lk s.2.2.2.1 x)
  · simp only [e2, cond_false]
    exact ⟨_, rfl, zk_F_ad h (fun q hq => by simp at hq) (fun q hq => by simp at hq) hm, fun z => zk_LS_ad z⟩
  · obtain ⟨b1, b2⟩ := zk_nu_tv tx e2
    have c1 : (bif zk_ieq (zk_lk s.2.2.2.1 x).2.1 c then c + 1 else (zk_lk s.2.2.2.1 x).2.1) ≤ zk_i (v x) := by
      cases e : zk_ieq (zk_lk s.2.2.2.1 x).2.1 c
      · exact b1
      · have := (zk_ieq_iff _ _).mp e
        simp only [cond_true]; omega
    have c2 : zk_i (v x) ≤ (bif zk_ieq (zk_lk s.2.2.2.1 x).2.2 c then c - 1 else (zk_lk s.2.2.2.1 x).2.2) := by
      cases e : zk_ieq (zk_lk s.2.2.2.1 x).2.2 c
      · exact b2
      · have := (zk_ieq_iff _ _).mp e
        simp only [cond_true]; omega
    have e3 := (zk_ile_iff _ _).mpr (Int.le_trans c1 c2)
    simp only [e2, e3, cond_true]
    refine ⟨_, rfl, zk_F_ad h (fun q hq => ?_) (fun q hq => by simp at hq) hm, fun z => zk_LS_ad z⟩
    rw [List.mem_singleton.mp hq]
    exact ⟨hx, zk_tv_nu tx e2 c1 c2⟩
def zk_cst (t : zk_T) : Bool := zk_nu t && zk_ieq t.2.1 t.2.2
theorem zk_cst_ok {G : Nat → Nat} {w : Value} {t : zk_T} (h : zk_tv G w t) (hc : zk_cst t = true) : zk_i w = t.2.1 := by
  obtain ⟨a, b⟩ := Bool.and_eq_true_iff.mp hc
  have := zk_nu_tv h a
  have := (zk_ieq_iff _ _).mp b
  omega
/-- x and y differ -/
def zk_ne (s : zk_S) (x y : Nat) : Option zk_S :=
  let a := zk_le s.2.2.2.1 s.2.2.2.2.1 3 x y 0
  let b := zk_le s.2.2.2.1 s.2.2.2.2.1 3 y x 0
  bif a && b then none else
  bif zk_cst (zk_lk s.2.2.2.1 y) then zk_nc s x (zk_lk s.2.2.2.1 y).2.1 else
  bif zk_cst (zk_lk s.2.2.2.1 x) then zk_nc s y (zk_lk s.2.2.2.1 x).2.1 else
  bif a then zk_rf s x y (-1) else bif b then zk_rf s y x (-1) else some s
theorem zk_ne_ok {KT : List zk_K} {D : zk_D} {G : Nat → Nat} {H : Heap} {v : Nat → Value} {s : zk_S} {x y : Nat} (h : zk_F KT D G H v s) (hx : x < s.1) (hy : y < s.1) (hc : zk_i (v x) ≠ zk_i (v y)) :
    ∃ s', zk_ne s x y = some s' ∧ zk_F KT D G H v s' ∧ ∀ {n0 v0 nL ls vs}, zk_LS n0 v0 nL ls vs v s → zk_LS n0 v0 nL ls vs v s' := by
  have ht : ∀ q ∈ s.2.2.2.1, zk_tv G (v q.1) q.2 := by
    obtain ⟨n, loc, stk, ty0, rel0, fld, len, pf, msc, la⟩ := s
    exact fun q hq => (h.1 q hq).2
  have hr : ∀ q ∈ s.2.2.2.2.1, zk_rl s.1 v q := by
    obtain ⟨n, loc, stk, ty0, rel0, fld, len, pf, msc, la⟩ := s
    exact h.2.1
  unfold zk_ne
  cases ea : zk_le s.2.2.2.1 s.2.2.2.2.1 3 x y 0 <;> cases eb : zk_le s.2.2.2.1 s.2.2.2.2.1 3 y x 0 <;>
    simp only [Bool.and_self, Bool.and_true, Bool.and_false, Bool.false_and, Bool.true_and, cond_false, cond_true]
  all_goals first
    | (exfalso
       have h1 := zk_le_ok ht hr ea
       have h2 := zk_le_ok ht hr eb
       omega)
    | skip
  all_goals cases e1 : zk_cst (zk_lk s.2.2.2.1 y) <;> simp only [cond_false, cond_true]
  all_goals first
    | exact zk_nc_ok h hx (by rw [← zk_cst_ok (zk_lk_ok ht) e1]; exact hc)
    | skip
  all_goals cases e2 : zk_cst (zk_lk s.2.2.2.1 x) <;> simp only [cond_false, cond_true]
  all_goals first
    | exact zk_nc_ok h hy (by rw [← zk_cst_ok (zk_lk_ok ht) e2]; exact fun q => hc q.symm)
    | exact ⟨s, rfl, h, fun z => z⟩
    | (have h1 := zk_le_ok ht hr ea
       exact zk_rf_ok h hx hy (by omega))
    | (have h1 := zk_le_ok ht hr eb
       exact zk_rf_ok h hy hx (by omega))
/-- what a comparison says: holds between x and y -/
def zk_cp : ClassFile.Cond → Int → Int → Prop
  | .eq, a, b => a = b
  | .ne, a, b => a ≠ b
  | .lt, a, b => a < b
  | .ge, a, b => b ≤ a
  | .gt, a, b => b < a
  | .le, a, b => a ≤ b
def zk_no : ClassFile.Cond → ClassFile.Cond
  | .eq => .ne | .ne => .eq | .lt => .ge | .ge => .lt | .gt => .le | .le => .gt
theorem zk_no_ok {o : ClassFile.Cond} {a b : Int} (h : ¬ zk_cp o a b) : zk_cp (zk_no o) a b := by
  cases o <;> simp only [zk_cp, zk_no] at h ⊢ <;> omega
def zk_cm (s : zk_S) (x y : Nat) : ClassFile.Cond → Option zk_S
  | .lt => zk_rf s x y (-1)
  | .ge => zk_rf s y x 0
  | .gt => zk_rf s y x (-1)
  | .le => zk_rf s x y 0
  | .eq => (zk_rf s x y 0).bind fun s => zk_rf s y x 0
  | .ne => zk_ne s x y
theorem zk_rf_n {s s' : zk_S} {x y : Nat} {c : Int} (h : zk_rf s x y c = some s') : s'.1 = s.1 := by
  unfold zk_rf at h
  cases e : zk_le s.2.2.2.1 s.2.2.2.2.1 3 y x (-c - 1) <;> rw [e] at h <;> simp only [cond_true, cond_false] at h
  · cases e2 : zk_nu (zk_lk s.2.2.2.1 x) && zk_nu (zk_lk s.2.2.2.1 y) <;> rw [e2] at h <;> simp only [cond_true, cond_false] at h <;> cases h <;> rfl
  · cases h
theorem zk_cm_ok {KT : List zk_K} {D : zk_D} {G : Nat → Nat} {H : Heap} {v : Nat → Value} {s : zk_S} {x y : Nat} {o : ClassFile.Cond} (h : zk_F KT D G H v s) (hx : x < s.1) (hy : y < s.1) (hc : zk_cp o (zk_i (v x)) (zk_i (v y))) :
    ∃ s', zk_cm s x y o = some s' ∧ zk_F KT D G H v s' ∧ ∀ {n0 v0 nL ls vs}, zk_LS n0 v0 nL ls vs v s → zk_LS n0 v0 nL ls vs v s' := by
  cases o <;> simp only [zk_cp] at hc
  · obtain ⟨s1, a1, a2, a3⟩ := zk_rf_ok h hx hy (c := 0) (by omega)
    have en := zk_rf_n a1
    obtain ⟨s2, b1, b2, b3⟩ := zk_rf_ok a2 (x := y) (y := x) (by rw [en]; exact hy) (by rw [en]; exact hx) (c := 0) (by omega)
    exact ⟨s2, by simp only [zk_cm, a1, Option.bind_some]; exact b1, b2, fun z => b3 (a3 z)⟩
  · exact zk_ne_ok h hx hy hc
  · exact zk_rf_ok h hx hy (by omega)
  · exact zk_rf_ok h hy hx (by omega)
  · exact zk_rf_ok h hy hx (by omega)
  · exact zk_rf_ok h hx hy (by omega)
/-- the same against 0 -/
def zk_c0 (s : zk_S) (x : Nat) : ClassFile.Cond → Option zk_S
  | .lt => zk_iv s x (-9223372036854775808) (-1)
  | .ge => zk_iv s x 0 9223372036854775807
  | .gt => zk_iv s x 1 9223372036854775807
  | .le => zk_iv s x (-9223372036854775808) 0
  | .eq => zk_iv s x 0 0
  | .ne => zk_nc s x 0
theorem zk_c0_ok {KT : List zk_K} {D : zk_D} {G : Nat → Nat} {H : Heap} {v : Nat → Value} {s : zk_S} {x : Nat} {o : ClassFile.Cond} (h : zk_F KT D G H v s) (hx : x < s.1) (h1 : -9223372036854775808 ≤ zk_i (v x)) (h2 : zk_i (v x) ≤ 9223372036854775807) (hc : zk_cp o (zk_i (v x)) 0) :
    ∃ s', zk_c0 s x o = some s' ∧ zk_F KT D G H v s' ∧ ∀ {n0 v0 nL ls vs}, zk_LS n0 v0 nL ls vs v s → zk_LS n0 v0 nL ls vs v s' := by
  cases o <;> simp only [zk_cp] at hc
  · exact zk_iv_ok h hx (by omega) (by omega)
  · exact zk_nc_ok h hx hc
  · exact zk_iv_ok h hx h1 (by omega)
  · exact zk_iv_ok h hx (by omega) h2
  · exact zk_iv_ok h hx (by omega) h2
  · exact zk_iv_ok h hx h1 (by omega)
end
