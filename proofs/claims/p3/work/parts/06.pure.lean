/-! ENGINE, 5: a goal at a place of the code, and the instructions that leave the heap alone -/
noncomputable section
def zk_G (p : Program) (l : Launch) (e : Env) (R : Room) (s : State) (m : MethodId) (args : Array Value) (below : List Frame) (meth : Method) (c : Code) (Q : State → Prop) (KT : List zk_K) (D : zk_D) (base : Nat) (Hb : Heap) (n0 nL : Nat) (v0 : Nat → Value) (E : List (Nat × Nat)) (G0 : Nat → Nat) (H0 : Heap) (cells slots pc : Nat) (x : zk_S) : Prop :=
  ∀ (G : Nat → Nat) (H : Heap) (locs : List Loc) (ls : Array Slot) (vs : List Value) (v : Nat → Value), zk_hp KT D base Hb G H → zk_ev KT D E G0 H0 G H → (∀ q ∈ locs, base ≤ q.base) → zk_F KT D G H v x → zk_LS n0 v0 nL ls vs v x → W p l e R s m args below meth c H locs cells slots Q (F0 m pc ls vs)
theorem zk_F_ty {KT : List zk_K} {D : zk_D} {G : Nat → Nat} {H : Heap} {v : Nat → Value} {x : zk_S} (h : zk_F KT D G H v x) (y : Nat) : zk_tv G (v y) (zk_lk x.2.2.2.1 y) := by
  obtain ⟨n, loc, stk, tys, rel, fld, len, pf, msc, la⟩ := x
  exact zk_lk_ok fun q hq => (h.1 q hq).2
theorem zk_F_rl {KT : List zk_K} {D : zk_D} {G : Nat → Nat} {H : Heap} {v : Nat → Value} {x : zk_S} (h : zk_F KT D G H v x) : ∀ q ∈ x.2.2.2.2.1, zk_rl x.1 v q := by
  obtain ⟨n, loc, stk, tys, rel, fld, len, pf, msc, la⟩ := x
  exact h.2.1
theorem zk_F_le {KT : List zk_K} {D : zk_D} {G : Nat → Nat} {H : Heap} {v : Nat → Value} {x : zk_S} (h : zk_F KT D G H v x) {k y z : Nat} {c : Int} (e : zk_le x.2.2.2.1 x.2.2.2.2.1 k y z c = true) : zk_i (v y) ≤ zk_i (v z) + c := by
  obtain ⟨n, loc, stk, tys, rel, fld, len, pf, msc, la⟩ := x
  exact zk_le_ok (fun q hq => (h.1 q hq).2) h.2.1 e
theorem zk_LS_stk {n0 : Nat} {v0 : Nat → Value} {nL : Nat} {ls : Array Slot} {vs : List Value} {v : Nat → Value} {x : zk_S} (h : zk_LS n0 v0 nL ls vs v x) : vs = x.2.2.1.map v ∧ ∀ y ∈ x.2.2.1, y < x.1 := by
  obtain ⟨n, loc, stk, rest⟩ := x
  exact ⟨h.2.2.2.2.1, h.2.2.2.2.2⟩
theorem zk_LS_loc {n0 : Nat} {v0 : Nat → Value} {nL : Nat} {ls : Array Slot} {vs : List Value} {v : Nat → Value} {x : zk_S} (h : zk_LS n0 v0 nL ls vs v x) : lv_has ls nL (x.2.1.map fun q => (q.1, v q.2)) ∧ ∀ q ∈ x.2.1, q.2 < x.1 := by
  obtain ⟨n, loc, stk, rest⟩ := x
  exact ⟨h.2.2.1, h.2.2.2.1⟩
theorem zk_gi {G : Nat → Nat} {w : Value} {t : zk_T} (h : zk_tv G w t) (ht : t.1 = 0) : ∃ a : Int32, w = .int a ∧ t.2.1 ≤ a.toInt ∧ a.toInt ≤ t.2.2 := by
  unfold zk_tv at h; rw [if_pos ht] at h; exact h
theorem zk_gl {G : Nat → Nat} {w : Value} {t : zk_T} (h : zk_tv G w t) (ht : t.1 = 1) : ∃ a : Int64, w = .long a ∧ t.2.1 ≤ a.toInt ∧ a.toInt ≤ t.2.2 := by
  unfold zk_tv at h; rw [if_neg (by omega), if_pos ht] at h; exact h
theorem zk_gr {G : Nat → Nat} {w : Value} {t : zk_T} (h : zk_tv G w t) (ht : t.1 = 2) (hz : t.2.2 = 0) : ∃ a : Nat, w = .ref a ∧ G a = t.2.1.toNat ∧ G a ≠ 0 := by
  unfold zk_tv at h; rw [if_neg (by omega), if_neg (by omega), if_pos ht] at h
  rcases h with ⟨a, e, q1, q2⟩ | ⟨q, -⟩
  · exact ⟨a, e, by rw [← q1]; exact (Int.toNat_natCast _).symm, q2⟩
  · exact absurd hz q
theorem zk_tv_int {G : Nat → Nat} {a : Int32} {lo hi : Int} (h1 : lo ≤ a.toInt) (h2 : a.toInt ≤ hi) : zk_tv G (.int a) (0, lo, hi) := ⟨a, rfl, h1, h2⟩
theorem zk_tv_long {G : Nat → Nat} {a : Int64} {lo hi : Int} (h1 : lo ≤ a.toInt) (h2 : a.toInt ≤ hi) : zk_tv G (.long a) (1, lo, hi) := ⟨a, rfl, h1, h2⟩
theorem zk_rng (x : Int32) : -2147483648 ≤ x.toInt ∧ x.toInt ≤ 2147483647 := by
  have h1 := Int32.le_toInt x
  have h2 := Int32.toInt_lt x
  omega
theorem zk_rngL (x : Int64) : -9223372036854775808 ≤ x.toInt ∧ x.toInt ≤ 9223372036854775807 := by
  have h1 := Int64.le_toInt x
  have h2 := Int64.toInt_lt x
  omega
def zk_I : zk_T := (0, -2147483648, 2147483647)
def zk_J : zk_T := (1, -9223372036854775808, 9223372036854775807)
theorem zk_tv_I {G : Nat → Nat} (a : Int32) : zk_tv G (.int a) zk_I := zk_tv_int (zk_rng a).1 (zk_rng a).2
theorem zk_tv_J {G : Nat → Nat} (a : Int64) : zk_tv G (.long a) zk_J := zk_tv_long (zk_rngL a).1 (zk_rngL a).2
def zk_fit (lo hi : Int) : Bool := zk_ile (-2147483648) lo && zk_ile hi 2147483647
def zk_w32 (lo hi : Int) : zk_T := bif zk_fit lo hi then (0, lo, hi) else zk_I
theorem zk_fit_ok {lo hi z : Int} (h : zk_fit lo hi = true) (h1 : lo ≤ z) (h2 : z ≤ hi) : z.bmod (2 ^ 32) = z := by
  obtain ⟨a, b⟩ := Bool.and_eq_true_iff.mp h
  have a := (zk_ile_iff _ _).mp a
  have b := (zk_ile_iff _ _).mp b
  rw [Int.bmod_eq_of_le (by omega) (by omega)]
theorem zk_w32_ok {G : Nat → Nat} {a : Int32} {lo hi z : Int} (e : a.toInt = z.bmod (2 ^ 32)) (h1 : lo ≤ z) (h2 : z ≤ hi) : zk_tv G (.int a) (zk_w32 lo hi) := by
  unfold zk_w32
  cases h : zk_fit lo hi
  · exact zk_tv_I a
  · rw [zk_fit_ok h h1 h2] at e
    exact zk_tv_int (by omega) (by omega)
section ZP
variable {p : Program} {l : Launch} {e : Env} {R : Room} {s : State} {m : MethodId} {args : Array Value} {below : List Frame} {meth : Method} {c : Code} {Q : State → Prop} {KT : List zk_K} {D : zk_D} {base : Nat} {Hb : Heap} {n0 nL : Nat} {v0 : Nat → Value} {E : List (Nat × Nat)} {G0 : Nat → Nat} {H0 : Heap} {cc : ByteArray}
variable {cells slots pc : Nat} {x : zk_S}
/-- an instruction that takes from the stack and puts one value -/
theorem zs_push {pc' : Nat} {stk' : List Nat} {t : zk_T} {rs : List (Nat × Nat × Int)} {ms : List (Nat × Nat × Nat × Nat)} (hk : ∀ y ∈ stk', y ∈ x.2.2.1)
    (step : ∀ (G : Nat → Nat) (H : Heap) (locs : List Loc) (ls : Array Slot) (v : Nat → Value), zk_F KT D G H v x → (∀ y ∈ x.2.2.1, y < x.1) → lv_has ls nL (x.2.1.map fun q => (q.1, v q.2)) → (∀ q ∈ x.2.1, q.2 < x.1) →
      ∃ w : Value, zk_tv G w t ∧ (∀ q ∈ rs, zk_rl (x.1 + 1) (zk_up v x.1 w) q) ∧ (∀ q ∈ ms, zk_ms D G H (x.1 + 1) (zk_up v x.1 w) q) ∧
        (W p l e R s m args below meth c H locs cells slots Q (F0 m pc' ls (w :: stk'.map v)) → W p l e R s m args below meth c H locs cells slots Q (F0 m pc ls (x.2.2.1.map v))))
    (kk : zk_G p l e R s m args below meth c Q KT D base Hb n0 nL v0 E G0 H0 cells slots pc' (zk_pu x stk' t rs ms)) : zk_G p l e R s m args below meth c Q KT D base Hb n0 nL v0 E G0 H0 cells slots pc x := by
  intro G H locs ls vs v hp he hl hF hL
  obtain ⟨e1, hlt⟩ := zk_LS_stk hL
  obtain ⟨hloc, hlo2⟩ := zk_LS_loc hL
  subst e1
  obtain ⟨w, h1, h2, h3, h4⟩ := step G H locs ls v hF hlt hloc hlo2
  exact h4 (kk G H locs ls _ _ hp he hl (zk_F_up hF h1 h2 h3) (zk_LS_up hL fun y hy => hlt y (hk y hy)))
/-- one that only moves the stack -/
theorem zs_move {pc' : Nat} {stk' : List Nat} (hk : ∀ y ∈ stk', y ∈ x.2.2.1)
    (step : ∀ (G : Nat → Nat) (H : Heap) (locs : List Loc) (ls : Array Slot) (v : Nat → Value), zk_F KT D G H v x → W p l e R s m args below meth c H locs cells slots Q (F0 m pc' ls (stk'.map v)) → W p l e R s m args below meth c H locs cells slots Q (F0 m pc ls (x.2.2.1.map v)))
    (kk : zk_G p l e R s m args below meth c Q KT D base Hb n0 nL v0 E G0 H0 cells slots pc' (zk_st x stk')) : zk_G p l e R s m args below meth c Q KT D base Hb n0 nL v0 E G0 H0 cells slots pc x := by
  intro G H locs ls vs v hp he hl hF hL
  obtain ⟨e1, hlt⟩ := zk_LS_stk hL
  subst e1
  exact step G H locs ls v hF (kk G H locs ls _ _ hp he hl (zk_F_st _ hF) (zk_LS_st hL fun y hy => hlt y (hk y hy)))
/-- a constant -/
theorem zs_const {pc' : Nat} {w : Value} {t : zk_T} (ht : ∀ G, zk_tv G w t)
    (row : ∀ {H : Heap} {locs : List Loc} {ls : Array Slot} {rest : List Value}, W p l e R s m args below meth c H locs cells slots Q (F0 m pc' ls (w :: rest)) → W p l e R s m args below meth c H locs cells slots Q (F0 m pc ls rest))
    (kk : zk_G p l e R s m args below meth c Q KT D base Hb n0 nL v0 E G0 H0 cells slots pc' (zk_pu x x.2.2.1 t [] [])) : zk_G p l e R s m args below meth c Q KT D base Hb n0 nL v0 E G0 H0 cells slots pc x :=
  zs_push (fun y hy => hy) (fun G H locs ls v hF hlt _ _ => ⟨w, ht G, fun q hq => by simp at hq, fun q hq => by simp at hq, fun k => row k⟩) kk
theorem zk_loc_at {ls : Array Slot} {v : Nat → Value} {loc : List (Nat × Nat)} {i y : Nat} (h : lv_has ls nL (loc.map fun q => (q.1, v q.2))) (hm : (i, y) ∈ loc) : ls[i]? = some (.val (v y)) :=
  h.2.2 (i, v y) (List.mem_map.mpr ⟨(i, y), hm, rfl⟩)
/-- a variable on the stack -/
theorem zs_load {pc' i y : Nat} (hm : (i, y) ∈ x.2.1)
    (row : ∀ {H : Heap} {locs : List Loc} {ls : Array Slot} {rest : List Value} {v : Nat → Value} {G : Nat → Nat}, zk_tv G (v y) (zk_lk x.2.2.2.1 y) → ls[i]? = some (.val (v y)) → W p l e R s m args below meth c H locs cells slots Q (F0 m pc' ls (v y :: rest)) → W p l e R s m args below meth c H locs cells slots Q (F0 m pc ls rest))
    (kk : zk_G p l e R s m args below meth c Q KT D base Hb n0 nL v0 E G0 H0 cells slots pc' (zk_st x (y :: x.2.2.1))) : zk_G p l e R s m args below meth c Q KT D base Hb n0 nL v0 E G0 H0 cells slots pc x := by
  intro G H locs ls vs v hp he hl hF hL
  obtain ⟨e1, hlt⟩ := zk_LS_stk hL
  obtain ⟨hloc, hlo2⟩ := zk_LS_loc hL
  subst e1
  have hy : y < x.1 := hlo2 (i, y) hm
  refine row (zk_F_ty hF y) (zk_loc_at hloc hm) (kk G H locs ls _ _ hp he hl (zk_F_st _ hF) (zk_LS_st (stk' := y :: x.2.2.1) hL fun z hz => ?_))
  rcases List.mem_cons.mp hz with rfl | hz
  · exact hy
  · exact hlt z hz
/-- locals behind a store at i: of a value of category 1, of category 2 -/
def zk_s1 (x : zk_S) (i y : Nat) (stk' : List Nat) : zk_S :=
  (x.1, (i, y) :: x.2.1.filter (fun q => !(Nat.beq q.1 i) && !(Nat.beq (q.1 + 1) i && !(Nat.beq (zk_lk x.2.2.2.1 q.2).1 0 || Nat.beq (zk_lk x.2.2.2.1 q.2).1 2))), stk', x.2.2.2)
def zk_s2 (x : zk_S) (i y : Nat) (stk' : List Nat) : zk_S :=
  (x.1, (i, y) :: x.2.1.filter (fun q => !(Nat.beq q.1 i) && !(Nat.beq q.1 (i + 1)) && !(Nat.beq (q.1 + 1) i && !(Nat.beq (zk_lk x.2.2.2.1 q.2).1 0 || Nat.beq (zk_lk x.2.2.2.1 q.2).1 2))), stk', x.2.2.2)
theorem zk_cat {G : Nat → Nat} {w : Value} {t : zk_T} (h : zk_tv G w t) (hc : (Nat.beq t.1 0 || Nat.beq t.1 2) = true) : w.category = 1 := by
  rcases Bool.or_eq_true_iff.mp hc with e | e
  · obtain ⟨a, q, -⟩ := zk_gi h (Nat.eq_of_beq_eq_true e); rw [q]; rfl
  · have e := Nat.eq_of_beq_eq_true e
    unfold zk_tv at h; rw [if_neg (by omega), if_neg (by omega), if_pos e] at h
    rcases h with ⟨a, q, -⟩ | ⟨-, q⟩ <;> rw [q] <;> rfl
theorem zs_store1 {pc' i y : Nat} {rest : List Nat} (hs : x.2.2.1 = y :: rest) (hi : i < nL) (hc : (Nat.beq (zk_lk x.2.2.2.1 y).1 0 || Nat.beq (zk_lk x.2.2.2.1 y).1 2) = true)
    (row : ∀ {H : Heap} {locs : List Loc} {ls : Array Slot} {rv : List Value} {w : Value} {lv lv' : List (Nat × Value)} {G : Nat → Nat}, zk_tv G w (zk_lk x.2.2.2.1 y) → lv_has ls nL lv → (i, w) :: lv.filter (fun q => !(q.1 == i) && !(q.1 + 1 == i && q.2.category == 2)) = lv' → (∀ ls' : Array Slot, lv_has ls' nL lv' → W p l e R s m args below meth c H locs cells slots Q (F0 m pc' ls' rv)) → W p l e R s m args below meth c H locs cells slots Q (F0 m pc ls (w :: rv)))
    (kk : zk_G p l e R s m args below meth c Q KT D base Hb n0 nL v0 E G0 H0 cells slots pc' (zk_s1 x i y rest)) : zk_G p l e R s m args below meth c Q KT D base Hb n0 nL v0 E G0 H0 cells slots pc x := by
  intro G H locs ls vs v hp he hl hF hL
  obtain ⟨e1, hlt⟩ := zk_LS_stk hL
  obtain ⟨hloc, hlo2⟩ := zk_LS_loc hL
  subst e1
  have hty := zk_F_ty hF
  rw [hs] at hlt ⊢
  refine row (hty y) hloc rfl (fun ls' h' => ?_)
  obtain ⟨n, loc, stk, tys, restx⟩ := x
  refine kk G H locs ls' _ v hp he hl hF ⟨hL.1, hL.2.1, ⟨h'.1, h'.2.1, fun q hq => h'.2.2 q ?_⟩, fun q hq => ?_, rfl, fun z hz => hlt z (List.mem_cons_of_mem _ hz)⟩
  · obtain ⟨r, hr, rfl⟩ := List.mem_map.mp hq
    rcases List.mem_cons.mp hr with rfl | hr
    · exact List.mem_cons_self
    · obtain ⟨r1, r2⟩ := List.mem_filter.mp hr
      refine List.mem_cons_of_mem _ (List.mem_filter.mpr ⟨List.mem_map.mpr ⟨r, r1, rfl⟩, ?_⟩)
      obtain ⟨r3, r4⟩ := Bool.and_eq_true_iff.mp r2
      have r3' : ¬ r.1 = i := fun z => by rw [z, Nat.beq_refl] at r3; cases r3
      simp only [Bool.and_eq_true, Bool.not_eq_true', beq_eq_false_iff_ne, ne_eq, Bool.and_eq_false_iff]
      refine ⟨r3', ?_⟩
      by_cases z : r.1 + 1 = i
      · right
        rw [z, Nat.beq_refl, Bool.true_and, Bool.not_not] at r4
        rw [zk_cat (hty r.2) r4]
        decide
      · exact Or.inl z
  · rcases List.mem_cons.mp hq with rfl | hq
    · exact hlt y List.mem_cons_self
    · exact hlo2 q (List.mem_filter.mp hq).1
theorem zs_store2 {pc' i y : Nat} {rest : List Nat} (hs : x.2.2.1 = y :: rest) (hi : i + 1 < nL)
    (row : ∀ {H : Heap} {locs : List Loc} {ls : Array Slot} {rv : List Value} {w : Value} {lv lv' : List (Nat × Value)} {G : Nat → Nat}, zk_tv G w (zk_lk x.2.2.2.1 y) → lv_has ls nL lv → (i, w) :: lv.filter (fun q => !(q.1 == i) && (!(q.1 == i + 1) && !(q.1 + 1 == i && q.2.category == 2))) = lv' → (∀ ls' : Array Slot, lv_has ls' nL lv' → W p l e R s m args below meth c H locs cells slots Q (F0 m pc' ls' rv)) → W p l e R s m args below meth c H locs cells slots Q (F0 m pc ls (w :: rv)))
    (kk : zk_G p l e R s m args below meth c Q KT D base Hb n0 nL v0 E G0 H0 cells slots pc' (zk_s2 x i y rest)) : zk_G p l e R s m args below meth c Q KT D base Hb n0 nL v0 E G0 H0 cells slots pc x := by
  intro G H locs ls vs v hp he hl hF hL
  obtain ⟨e1, hlt⟩ := zk_LS_stk hL
  obtain ⟨hloc, hlo2⟩ := zk_LS_loc hL
  subst e1
  have hty := zk_F_ty hF
  rw [hs] at hlt ⊢
  refine row (hty y) hloc rfl (fun ls' h' => ?_)
  obtain ⟨n, loc, stk, tys, restx⟩ := x
  refine kk G H locs ls' _ v hp he hl hF ⟨hL.1, hL.2.1, ⟨h'.1, h'.2.1, fun q hq => h'.2.2 q ?_⟩, fun q hq => ?_, rfl, fun z hz => hlt z (List.mem_cons_of_mem _ hz)⟩
  · obtain ⟨r, hr, rfl⟩ := List.mem_map.mp hq
    rcases List.mem_cons.mp hr with rfl | hr
    · exact List.mem_cons_self
    · obtain ⟨r1, r2⟩ := List.mem_filter.mp hr
      refine List.mem_cons_of_mem _ (List.mem_filter.mpr ⟨List.mem_map.mpr ⟨r, r1, rfl⟩, ?_⟩)
      obtain ⟨r3, r4⟩ := Bool.and_eq_true_iff.mp r2
      obtain ⟨r3, r5⟩ := Bool.and_eq_true_iff.mp r3
      have r3' : ¬ r.1 = i := fun z => by rw [z, Nat.beq_refl] at r3; cases r3
      have r5' : ¬ r.1 = i + 1 := fun z => by rw [z, Nat.beq_refl] at r5; cases r5
      simp only [Bool.and_eq_true, Bool.not_eq_true', beq_eq_false_iff_ne, ne_eq, Bool.and_eq_false_iff]
      refine ⟨r3', r5', ?_⟩
      by_cases z : r.1 + 1 = i
      · right
        rw [z, Nat.beq_refl, Bool.true_and, Bool.not_not] at r4
        rw [zk_cat (hty r.2) r4]
        decide
      · exact Or.inl z
  · rcases List.mem_cons.mp hq with rfl | hq
    · exact hlt y List.mem_cons_self
    · exact hlo2 q (List.mem_filter.mp hq).1
/-- an int of two ints -/
theorem zs_bin {g : Int32 → Int32 → Int32} {y z : Nat} {rest : List Nat} {t : zk_T} {rs : List (Nat × Nat × Int)} {ms : List (Nat × Nat × Nat × Nat)} (hs : x.2.2.1 = z :: y :: rest) (hy : (zk_lk x.2.2.2.1 y).1 = 0) (hz : (zk_lk x.2.2.2.1 z).1 = 0)
    (row : ∀ {G : Nat → Nat} {H : Heap} {v : Nat → Value} {locs : List Loc} {ls : Array Slot} {rv : List Value} {a b : Int32}, zk_F KT D G H v x → v z = .int b → W p l e R s m args below meth c H locs cells slots Q (F0 m (pc + 1) ls (.int (g a b) :: rv)) → W p l e R s m args below meth c H locs cells slots Q (F0 m pc ls (.int b :: .int a :: rv)))
    (ht : ∀ (G : Nat → Nat) (H : Heap) (a b : Int32), (zk_lk x.2.2.2.1 y).2.1 ≤ a.toInt → a.toInt ≤ (zk_lk x.2.2.2.1 y).2.2 → (zk_lk x.2.2.2.1 z).2.1 ≤ b.toInt → b.toInt ≤ (zk_lk x.2.2.2.1 z).2.2 → zk_tv G (.int (g a b)) t ∧
      ∀ v : Nat → Value, y < x.1 → z < x.1 → v y = .int a → v z = .int b → (∀ q ∈ rs, zk_rl (x.1 + 1) (zk_up v x.1 (.int (g a b))) q) ∧ (∀ q ∈ ms, zk_ms D G H (x.1 + 1) (zk_up v x.1 (.int (g a b))) q))
    (kk : zk_G p l e R s m args below meth c Q KT D base Hb n0 nL v0 E G0 H0 cells slots (pc + 1) (zk_pu x rest t rs ms)) : zk_G p l e R s m args below meth c Q KT D base Hb n0 nL v0 E G0 H0 cells slots pc x := by
  refine zs_push (stk' := rest) (fun q hq => by rw [hs]; exact List.mem_cons_of_mem _ (List.mem_cons_of_mem _ hq)) (fun G H locs ls v hF hlt _ _ => ?_) kk
  obtain ⟨a, ea, a1, a2⟩ := zk_gi (zk_F_ty hF y) hy
  obtain ⟨b, eb, b1, b2⟩ := zk_gi (zk_F_ty hF z) hz
  rw [hs] at hlt ⊢
  obtain ⟨h1, h2⟩ := ht G H a b a1 a2 b1 b2
  obtain ⟨h3, h4⟩ := h2 v (hlt y (List.mem_cons_of_mem _ List.mem_cons_self)) (hlt z List.mem_cons_self) ea eb
  refine ⟨_, h1, h3, h4, fun k => ?_⟩
  rw [List.map_cons, List.map_cons, ea, eb]
  exact row hF eb k
/-- a long of two longs -/
theorem zs_binl {g : Int64 → Int64 → Int64} {y z : Nat} {rest : List Nat} {t : zk_T} {rs : List (Nat × Nat × Int)} {ms : List (Nat × Nat × Nat × Nat)} (hs : x.2.2.1 = z :: y :: rest) (hy : (zk_lk x.2.2.2.1 y).1 = 1) (hz : (zk_lk x.2.2.2.1 z).1 = 1)
    (row : ∀ {G : Nat → Nat} {H : Heap} {v : Nat → Value} {locs : List Loc} {ls : Array Slot} {rv : List Value} {a b : Int64}, zk_F KT D G H v x → v z = .long b → W p l e R s m args below meth c H locs cells slots Q (F0 m (pc + 1) ls (.long (g a b) :: rv)) → W p l e R s m args below meth c H locs cells slots Q (F0 m pc ls (.long b :: .long a :: rv)))
    (ht : ∀ (G : Nat → Nat) (H : Heap) (v : Nat → Value) (a b : Int64), zk_F KT D G H v x → y < x.1 → z < x.1 → v y = .long a → v z = .long b → (zk_lk x.2.2.2.1 y).2.1 ≤ a.toInt → a.toInt ≤ (zk_lk x.2.2.2.1 y).2.2 → (zk_lk x.2.2.2.1 z).2.1 ≤ b.toInt → b.toInt ≤ (zk_lk x.2.2.2.1 z).2.2 → zk_tv G (.long (g a b)) t ∧
      (∀ q ∈ rs, zk_rl (x.1 + 1) (zk_up v x.1 (.long (g a b))) q) ∧ (∀ q ∈ ms, zk_ms D G H (x.1 + 1) (zk_up v x.1 (.long (g a b))) q))
    (kk : zk_G p l e R s m args below meth c Q KT D base Hb n0 nL v0 E G0 H0 cells slots (pc + 1) (zk_pu x rest t rs ms)) : zk_G p l e R s m args below meth c Q KT D base Hb n0 nL v0 E G0 H0 cells slots pc x := by
  refine zs_push (stk' := rest) (fun q hq => by rw [hs]; exact List.mem_cons_of_mem _ (List.mem_cons_of_mem _ hq)) (fun G H locs ls v hF hlt _ _ => ?_) kk
  obtain ⟨a, ea, a1, a2⟩ := zk_gl (zk_F_ty hF y) hy
  obtain ⟨b, eb, b1, b2⟩ := zk_gl (zk_F_ty hF z) hz
  rw [hs] at hlt
  obtain ⟨h1, h3, h4⟩ := ht G H v a b hF (hlt y (List.mem_cons_of_mem _ List.mem_cons_self)) (hlt z List.mem_cons_self) ea eb a1 a2 b1 b2
  refine ⟨_, h1, h3, h4, fun k => ?_⟩
  rw [hs, List.map_cons, List.map_cons, ea, eb]
  exact row hF eb k
/-- a value of one int, of one long -/
theorem zs_uni {g : Int32 → Value} {y : Nat} {rest : List Nat} {t : zk_T} (hs : x.2.2.1 = y :: rest) (hy : (zk_lk x.2.2.2.1 y).1 = 0)
    (row : ∀ {H : Heap} {locs : List Loc} {ls : Array Slot} {rv : List Value} {a : Int32}, W p l e R s m args below meth c H locs cells slots Q (F0 m (pc + 1) ls (g a :: rv)) → W p l e R s m args below meth c H locs cells slots Q (F0 m pc ls (.int a :: rv)))
    (ht : ∀ (G : Nat → Nat) (a : Int32), (zk_lk x.2.2.2.1 y).2.1 ≤ a.toInt → a.toInt ≤ (zk_lk x.2.2.2.1 y).2.2 → zk_tv G (g a) t)
    (kk : zk_G p l e R s m args below meth c Q KT D base Hb n0 nL v0 E G0 H0 cells slots (pc + 1) (zk_pu x rest t [] [])) : zk_G p l e R s m args below meth c Q KT D base Hb n0 nL v0 E G0 H0 cells slots pc x := by
  refine zs_push (stk' := rest) (fun q hq => by rw [hs]; exact List.mem_cons_of_mem _ hq) (fun G H locs ls v hF hlt _ _ => ?_) kk
  obtain ⟨a, ea, a1, a2⟩ := zk_gi (zk_F_ty hF y) hy
  refine ⟨_, ht G a a1 a2, fun q hq => by simp at hq, fun q hq => by simp at hq, fun k => ?_⟩
  rw [hs, List.map_cons, ea]
  exact row k
theorem zs_unr {g : Int32 → Value} {y : Nat} {rest : List Nat} {t : zk_T} {rs : List (Nat × Nat × Int)} {ms : List (Nat × Nat × Nat × Nat)} (hs : x.2.2.1 = y :: rest) (hy : (zk_lk x.2.2.2.1 y).1 = 0)
    (row : ∀ {H : Heap} {locs : List Loc} {ls : Array Slot} {rv : List Value} {a : Int32}, W p l e R s m args below meth c H locs cells slots Q (F0 m (pc + 1) ls (g a :: rv)) → W p l e R s m args below meth c H locs cells slots Q (F0 m pc ls (.int a :: rv)))
    (ht : ∀ (G : Nat → Nat) (a : Int32), (zk_lk x.2.2.2.1 y).2.1 ≤ a.toInt → a.toInt ≤ (zk_lk x.2.2.2.1 y).2.2 → zk_tv G (g a) t)
    (hr : ∀ (G : Nat → Nat) (H : Heap) (v : Nat → Value) (a : Int32), zk_F KT D G H v x → y < x.1 → v y = .int a → (∀ q ∈ rs, zk_rl (x.1 + 1) (zk_up v x.1 (g a)) q) ∧ (∀ q ∈ ms, zk_ms D G H (x.1 + 1) (zk_up v x.1 (g a)) q))
    (kk : zk_G p l e R s m args below meth c Q KT D base Hb n0 nL v0 E G0 H0 cells slots (pc + 1) (zk_pu x rest t rs ms)) : zk_G p l e R s m args below meth c Q KT D base Hb n0 nL v0 E G0 H0 cells slots pc x := by
  refine zs_push (stk' := rest) (fun q hq => by rw [hs]; exact List.mem_cons_of_mem _ hq) (fun G H locs ls v hF hlt _ _ => ?_) kk
  obtain ⟨a, ea, a1, a2⟩ := zk_gi (zk_F_ty hF y) hy
  obtain ⟨h3, h4⟩ := hr G H v a hF (hlt y (by rw [hs]; exact List.mem_cons_self)) ea
  refine ⟨_, ht G a a1 a2, h3, h4, fun k => ?_⟩
  rw [hs, List.map_cons, ea]
  exact row k
theorem zs_unl {g : Int64 → Value} {y : Nat} {rest : List Nat} {t : zk_T} (hs : x.2.2.1 = y :: rest) (hy : (zk_lk x.2.2.2.1 y).1 = 1)
    (row : ∀ {H : Heap} {locs : List Loc} {ls : Array Slot} {rv : List Value} {a : Int64}, W p l e R s m args below meth c H locs cells slots Q (F0 m (pc + 1) ls (g a :: rv)) → W p l e R s m args below meth c H locs cells slots Q (F0 m pc ls (.long a :: rv)))
    (ht : ∀ (G : Nat → Nat) (a : Int64), (zk_lk x.2.2.2.1 y).2.1 ≤ a.toInt → a.toInt ≤ (zk_lk x.2.2.2.1 y).2.2 → zk_tv G (g a) t)
    (kk : zk_G p l e R s m args below meth c Q KT D base Hb n0 nL v0 E G0 H0 cells slots (pc + 1) (zk_pu x rest t [] [])) : zk_G p l e R s m args below meth c Q KT D base Hb n0 nL v0 E G0 H0 cells slots pc x := by
  refine zs_push (stk' := rest) (fun q hq => by rw [hs]; exact List.mem_cons_of_mem _ hq) (fun G H locs ls v hF hlt _ _ => ?_) kk
  obtain ⟨a, ea, a1, a2⟩ := zk_gl (zk_F_ty hF y) hy
  refine ⟨_, ht G a a1 a2, fun q hq => by simp at hq, fun q hq => by simp at hq, fun k => ?_⟩
  rw [hs, List.map_cons, ea]
  exact row k
/-- lcmp -/
theorem zs_lcmp (hx : p.tables.exec = Jvm.exec) (hb : c.code = cc) {y z : Nat} {rest : List Nat} (hs : x.2.2.1 = z :: y :: rest) (hy : (zk_lk x.2.2.2.1 y).1 = 1) (hz : (zk_lk x.2.2.2.1 z).1 = 1) (hdg : decode cc pc = .ok (.lcmp, 1))
    (kk : zk_G p l e R s m args below meth c Q KT D base Hb n0 nL v0 E G0 H0 cells slots (pc + 1) (zk_pu x rest (0, -1, 1) [] [(1, y, z, x.1)])) : zk_G p l e R s m args below meth c Q KT D base Hb n0 nL v0 E G0 H0 cells slots pc x := by
  refine zs_push (stk' := rest) (fun q hq => by rw [hs]; exact List.mem_cons_of_mem _ (List.mem_cons_of_mem _ hq)) (fun G H locs ls v hF hlt _ _ => ?_) kk
  obtain ⟨a, ea, a1, a2⟩ := zk_gl (zk_F_ty hF y) hy
  obtain ⟨b, eb, b1, b2⟩ := zk_gl (zk_F_ty hF z) hz
  rw [hs] at hlt ⊢
  have ly := hlt y (List.mem_cons_of_mem _ List.mem_cons_self)
  have lz := hlt z List.mem_cons_self
  refine ⟨.int (lg_cmp a b), ?_, fun q hq => by simp at hq, fun q hq => ?_, fun k => ?_⟩
  · have : lg_cmp a b = 1 ∨ lg_cmp a b = 0 ∨ lg_cmp a b = -1 := by
      unfold lg_cmp; split
      · exact Or.inl rfl
      · split
        · exact Or.inr (Or.inl rfl)
        · exact Or.inr (Or.inr rfl)
    rcases this with e | e | e <;> rw [e] <;> exact zk_tv_int (by decide) (by decide)
  · rw [List.mem_singleton.mp hq]
    unfold zk_ms
    rw [if_neg (show ¬ (1 : Nat) = 0 by decide), if_pos (show (1 : Nat) = 1 from rfl)]
    refine ⟨Nat.lt_succ_of_lt ly, Nat.lt_succ_of_lt lz, Nat.lt_succ_self _, a, b, ?_, ?_, ?_⟩
    · show zk_up v x.1 _ y = _; rw [zk_up_lt ly]; exact ea
    · show zk_up v x.1 _ z = _; rw [zk_up_lt lz]; exact eb
    · exact zk_up_at _ _ _
  · rw [List.map_cons, List.map_cons, ea, eb]
    exact W.lcmp hx hb hdg k
/-- a branch on two ints -/
theorem zs_icmp {o : ClassFile.Cond} {tgt y z : Nat} {rest : List Nat} (hs : x.2.2.1 = z :: y :: rest) (hy : (zk_lk x.2.2.2.1 y).1 = 0) (hz : (zk_lk x.2.2.2.1 z).1 = 0)
    (row : ∀ {H : Heap} {locs : List Loc} {ls : Array Slot} {rv : List Value} {a b : Int32}, (zk_cp o a.toInt b.toInt → W p l e R s m args below meth c H locs cells slots Q (F0 m tgt ls rv)) → (¬ zk_cp o a.toInt b.toInt → W p l e R s m args below meth c H locs cells slots Q (F0 m (pc + 3) ls rv)) → W p l e R s m args below meth c H locs cells slots Q (F0 m pc ls (.int b :: .int a :: rv)))
    (k1 : ∀ x', zk_cm (zk_st x rest) y z o = some x' → zk_G p l e R s m args below meth c Q KT D base Hb n0 nL v0 E G0 H0 cells slots tgt x') (k2 : ∀ x', zk_cm (zk_st x rest) y z (zk_no o) = some x' → zk_G p l e R s m args below meth c Q KT D base Hb n0 nL v0 E G0 H0 cells slots (pc + 3) x') : zk_G p l e R s m args below meth c Q KT D base Hb n0 nL v0 E G0 H0 cells slots pc x := by
  intro G H locs ls vs v hp he hl hF hL
  obtain ⟨e1, hlt⟩ := zk_LS_stk hL
  subst e1
  obtain ⟨a, ea, a1, a2⟩ := zk_gi (zk_F_ty hF y) hy
  obtain ⟨b, eb, b1, b2⟩ := zk_gi (zk_F_ty hF z) hz
  rw [hs] at hlt ⊢
  have ly := hlt y (List.mem_cons_of_mem _ List.mem_cons_self)
  have lz := hlt z List.mem_cons_self
  have hL' := zk_LS_st (stk' := rest) hL fun q hq => hlt q (List.mem_cons_of_mem _ (List.mem_cons_of_mem _ hq))
  have hF' := zk_F_st rest hF
  have go : ∀ {o' : ClassFile.Cond} {pc' : Nat}, (∀ x', zk_cm (zk_st x rest) y z o' = some x' → zk_G p l e R s m args below meth c Q KT D base Hb n0 nL v0 E G0 H0 cells slots pc' x') → zk_cp o' a.toInt b.toInt → W p l e R s m args below meth c H locs cells slots Q (F0 m pc' ls (rest.map v)) := by
    intro o' pc' k h
    obtain ⟨x', q1, q2, q3⟩ := zk_cm_ok hF' (x := y) (y := z) ly lz (o := o') (by rw [ea, eb]; exact h)
    exact k x' q1 G H locs ls _ v hp he hl q2 (q3 hL')
  rw [List.map_cons, List.map_cons, ea, eb]
  exact row (fun h => go k1 h) (fun h => go k2 (zk_no_ok h))
/-- a branch on an int against 0, an lcmp in it or not -/
def zk_fc : List (Nat × Nat × Nat × Nat) → Nat → Option (Nat × Nat)
  | [], _ => none
  | q :: r, y => bif Nat.beq q.1 1 && Nat.beq q.2.2.2 y then some (q.2.1, q.2.2.1) else zk_fc r y
theorem zk_fc_ok : ∀ {l : List (Nat × Nat × Nat × Nat)} {y a b : Nat}, zk_fc l y = some (a, b) → (1, a, b, y) ∈ l
  | [], y, a, b, h => by simp [zk_fc] at h
  | q :: r, y, a, b, h => by
    unfold zk_fc at h
    cases e : Nat.beq q.1 1 && Nat.beq q.2.2.2 y <;> rw [e] at h
    · exact List.mem_cons_of_mem _ (zk_fc_ok h)
    · obtain ⟨e1, e2⟩ := Bool.and_eq_true_iff.mp e
      obtain ⟨q1, q2, q3, q4⟩ := q
      have e1' : q1 = 1 := Nat.eq_of_beq_eq_true e1
      have e2' : q4 = y := Nat.eq_of_beq_eq_true e2
      have h : some (q2, q3) = some (a, b) := h
      cases h; rw [e1', e2']
      exact List.mem_cons_self
def zk_ci (x : zk_S) (y : Nat) (o : ClassFile.Cond) : Option zk_S := match zk_fc x.2.2.2.2.2.2.2.2.1 y with
  | some (a, b) => zk_cm x a b o
  | none => zk_c0 x y o
theorem zk_lcmp_cp (a b : Int64) (o : ClassFile.Cond) : zk_cp o (lg_cmp a b).toInt 0 → zk_cp o a.toInt b.toInt := by
  unfold lg_cmp
  split
  · rename_i h
    have h := Int64.lt_iff_toInt_lt.mp h
    rw [show (1 : Int32).toInt = 1 from rfl]
    intro q; cases o <;> simp only [zk_cp] at q ⊢ <;> omega
  · rename_i h
    have h : ¬ b.toInt < a.toInt := fun z => h (Int64.lt_iff_toInt_lt.mpr z)
    split
    · rename_i h2
      subst h2
      rw [show (0 : Int32).toInt = 0 from rfl]
      intro q; cases o <;> simp only [zk_cp] at q ⊢ <;> omega
    · rename_i h2
      have h3 : a.toInt ≠ b.toInt := fun z => h2 (Int64.toInt_inj.mp z)
      rw [show (-1 : Int32).toInt = -1 from rfl]
      intro q; cases o <;> simp only [zk_cp] at q ⊢ <;> omega
theorem zs_if {o : ClassFile.Cond} {tgt y : Nat} {rest : List Nat} (hs : x.2.2.1 = y :: rest) (hy : (zk_lk x.2.2.2.1 y).1 = 0)
    (row : ∀ {H : Heap} {locs : List Loc} {ls : Array Slot} {rv : List Value} {a : Int32}, (zk_cp o a.toInt 0 → W p l e R s m args below meth c H locs cells slots Q (F0 m tgt ls rv)) → (¬ zk_cp o a.toInt 0 → W p l e R s m args below meth c H locs cells slots Q (F0 m (pc + 3) ls rv)) → W p l e R s m args below meth c H locs cells slots Q (F0 m pc ls (.int a :: rv)))
    (k1 : ∀ x', zk_ci (zk_st x rest) y o = some x' → zk_G p l e R s m args below meth c Q KT D base Hb n0 nL v0 E G0 H0 cells slots tgt x') (k2 : ∀ x', zk_ci (zk_st x rest) y (zk_no o) = some x' → zk_G p l e R s m args below meth c Q KT D base Hb n0 nL v0 E G0 H0 cells slots (pc + 3) x') : zk_G p l e R s m args below meth c Q KT D base Hb n0 nL v0 E G0 H0 cells slots pc x := by
  intro G H locs ls vs v hp he hl hF hL
  obtain ⟨e1, hlt⟩ := zk_LS_stk hL
  subst e1
  obtain ⟨a, ea, a1, a2⟩ := zk_gi (zk_F_ty hF y) hy
  rw [hs] at hlt ⊢
  have ly := hlt y List.mem_cons_self
  have hL' := zk_LS_st (stk' := rest) hL fun q hq => hlt q (List.mem_cons_of_mem _ hq)
  have hF' := zk_F_st rest hF
  have go : ∀ {o' : ClassFile.Cond} {pc' : Nat}, (∀ x', zk_ci (zk_st x rest) y o' = some x' → zk_G p l e R s m args below meth c Q KT D base Hb n0 nL v0 E G0 H0 cells slots pc' x') → zk_cp o' a.toInt 0 → W p l e R s m args below meth c H locs cells slots Q (F0 m pc' ls (rest.map v)) := by
    intro o' pc' k h
    unfold zk_ci at k
    cases e : zk_fc (zk_st x rest).2.2.2.2.2.2.2.2.1 y with
    | none =>
      rw [e] at k
      have := zk_rng a
      obtain ⟨x', q1, q2, q3⟩ := zk_c0_ok hF' (x := y) ly (o := o') (by rw [ea]; show _ ≤ a.toInt; omega) (by rw [ea]; show a.toInt ≤ _; omega) (by rw [ea]; exact h)
      exact k x' q1 G H locs ls _ v hp he hl q2 (q3 hL')
    | some q =>
      obtain ⟨y1, y2⟩ := q
      rw [e] at k
      have hm : zk_ms D G H x.1 v (1, y1, y2, y) := by
        have hmem := zk_fc_ok e
        obtain ⟨n, loc, stk, tys, rel, fld, len, pf, msc, la⟩ := x
        exact hF.2.2.2.2.2.1 _ hmem
      unfold zk_ms at hm
      rw [if_neg (show ¬ (1 : Nat) = 0 by decide), if_pos (show (1 : Nat) = 1 from rfl)] at hm
      obtain ⟨l1, l2, -, b1, b2, r1, r2, r3⟩ := hm
      have r3 : v y = _ := r3
      rw [ea] at r3
      cases r3
      obtain ⟨x', q1, q2, q3⟩ := zk_cm_ok hF' (x := y1) (y := y2) l1 l2 (o := o') (by rw [r1, r2]; exact zk_lcmp_cp _ _ _ h)
      exact k x' q1 G H locs ls _ v hp he hl q2 (q3 hL')
  rw [List.map_cons, ea]
  exact row (fun h => go k1 h) (fun h => go k2 (zk_no_ok h))
/-- null or not -/
def zk_nn (x : zk_S) (y : Nat) : zk_S := bif Nat.beq (zk_lk x.2.2.2.1 y).1 2 then zk_ad x [(y, 2, (zk_lk x.2.2.2.1 y).2.1, 0)] [] [] else x
theorem zk_nn_ok {G : Nat → Nat} {H : Heap} {v : Nat → Value} {y : Nat} (hF : zk_F KT D G H v x) (hy : y < x.1) (h : v y ≠ .null) : zk_F KT D G H v (zk_nn x y) ∧ ∀ {ls vs}, zk_LS n0 v0 nL ls vs v x → zk_LS n0 v0 nL ls vs v (zk_nn x y) := by
  unfold zk_nn
  cases e : Nat.beq (zk_lk x.2.2.2.1 y).1 2
  · simp only [cond_false]; exact ⟨hF, fun z => z⟩
  · simp only [cond_true]
    refine ⟨zk_F_ad hF (fun q hq => ?_) (fun q hq => by simp at hq) (fun q hq => by simp at hq), fun z => zk_LS_ad z⟩
    rw [List.mem_singleton.mp hq]
    refine ⟨hy, ?_⟩
    have e := Nat.eq_of_beq_eq_true e
    have := zk_F_ty hF y
    unfold zk_tv at this ⊢
    rw [if_neg (by omega), if_neg (by omega), if_pos e] at this
    rw [if_neg (show ¬ (2 : Nat) = 0 by decide), if_neg (show ¬ (2 : Nat) = 1 by decide), if_pos (show (2 : Nat) = 2 from rfl)]
    rcases this with q | ⟨-, q⟩
    · exact Or.inl q
    · exact absurd q h
end ZP
end
