/-! ENGINE, 3: the heap: cells by kinds, and what a step or a call may change -/
def zk_fin (KT : List zk_K) (k : Nat) : Nat := (zk_kd KT k).2.2.2.2.2.2.1
def zk_me (E : List (Nat × Nat)) (k f : Nat) : Bool := E.any fun q => Nat.beq q.1 k && Nat.beq q.2 f
def zk_wr (KT : List zk_K) (E : List (Nat × Nat)) (k f : Nat) : Bool := zk_me E k f || zk_me E (zk_fin KT k) f
def zk_ct (G : Nat → Nat) (a : Nat) (w : Value) (t : zk_T) : Prop := zk_tv G w t ∧ (t.1 = 2 → t.2.2 = 2 → zk_i w < (a : Int))
/-- an object or an array whose contents are known -/
def zk_vk (cell : Cell) : Prop := cell.vm ≠ .unknown ∧ cell.vm.isStatics = false
theorem zk_vk_of {cell : Cell} (h : cell.vm = .none) : zk_vk cell := ⟨fun z => (by rw [h] at z; cases z), by rw [h]; rfl⟩
def zk_oc (KT : List zk_K) (D : zk_D) (G : Nat → Nat) (k a : Nat) (cell : Cell) : Prop :=
  (zk_vk cell ∧ ((zk_kd KT k).2.2.2.2.2.2.2 = 0 → cell.vm = .none)) ∧
  ((zk_kd KT k).1 = 0 → cell.cls = D.1 (zk_kd KT k).2.1 ∧ ∀ (f : Nat) (t : zk_T), (zk_kd KT k).2.2.1[f]? = some t → ∃ w, cell.slots[zk_sl KT D k f]? = some w ∧ zk_ct G a w t) ∧
  ((zk_kd KT k).1 ≠ 0 → cell.cls = D.2.2.1 (zk_kd KT k).2.1 ∧ (zk_kd KT k).2.2.2.1 ≤ (cell.slots.size : Int) ∧ (cell.slots.size : Int) ≤ (zk_kd KT k).2.2.2.2.1 ∧
    ∀ (t : zk_T), (zk_kd KT k).2.2.1[0]? = some t → ∀ (j : Nat) (w : Value), cell.slots[j]? = some w → zk_ct G a w t)
def zk_in (KT : List zk_K) (D : zk_D) (G : Nat → Nat) (H : Heap) (k : Nat) (cell : Cell) (q : Nat × Nat × Nat) : Prop :=
  ∃ (b : Nat) (cb : Cell) (z : Int32), cell.slots[zk_sl KT D k q.2.1]? = some (.ref b) ∧ cell.slots[zk_sl KT D k q.2.2]? = some (.int z) ∧ G b ≠ 0 ∧ (zk_kd KT (G b)).1 ≠ 0 ∧ H[b]? = some cb ∧
    (q.1 = 0 → ∀ j : Nat, (j : Int) < z.toInt → cb.slots[j]? ≠ some .null) ∧ (q.1 ≠ 0 → z.toInt ≤ (cb.slots.size : Int))
def zk_hp (KT : List zk_K) (D : zk_D) (base : Nat) (Hb : Heap) (G : Nat → Nat) (H : Heap) : Prop :=
  (base ≤ H.size ∧ (∀ k, (zk_kd KT k).2.2.2.2.2.2.2 = 1 → G (D.2.2.2.1 k) = k) ∧ ∀ (k : Nat) (cell : Cell), (zk_kd KT k).2.2.2.2.2.2.2 = 1 → Hb[D.2.2.2.1 k]? = some cell → ∀ (j : Nat) (w : Value), cell.slots[j]? = some w → w = D.2.2.2.2 k j) ∧ (∀ a : Nat, a < base → H[a]? = Hb[a]?) ∧
  ∀ a : Nat, G a ≠ 0 → (((zk_kd KT (G a)).2.2.2.2.2.2.2 = 0 → base ≤ a) ∧ ((zk_kd KT (G a)).2.2.2.2.2.2.2 = 1 → a = D.2.2.2.1 (G a) ∧ a < base)) ∧ ∃ cell : Cell, H[a]? = some cell ∧ zk_oc KT D G (G a) a cell ∧ ∀ q ∈ (zk_kd KT (G a)).2.2.2.2.2.1, zk_in KT D G H (G a) cell q
def zk_ec (KT : List zk_K) (D : zk_D) (E : List (Nat × Nat)) (k : Nat) (cell cell' : Cell) : Prop :=
  cell'.slots.size = cell.slots.size ∧
  ((zk_kd KT k).1 = 0 → ∀ f, f < (zk_kd KT k).2.2.1.length → zk_wr KT E k f = false → cell'.slots[zk_sl KT D k f]? = cell.slots[zk_sl KT D k f]?) ∧
  ((zk_kd KT k).1 ≠ 0 → (zk_wr KT E k 0 = false → cell'.slots = cell.slots) ∧ ∀ j : Nat, cell.slots[j]? ≠ some .null → cell'.slots[j]? ≠ some .null)
def zk_ev (KT : List zk_K) (D : zk_D) (E : List (Nat × Nat)) (G : Nat → Nat) (H : Heap) (G' : Nat → Nat) (H' : Heap) : Prop :=
  H.size ≤ H'.size ∧ (∀ a : Nat, a < H.size → G a = 0 → G' a = 0 ∧ H'[a]? = H[a]?) ∧
  (∀ a : Nat, G a ≠ 0 → G' a = G a ∨ (zk_me E (G a) 1000 = true ∧ G' a = zk_fin KT (G a) ∧ G' a ≠ 0)) ∧
  ∀ (a : Nat) (cell : Cell), G a ≠ 0 → H[a]? = some cell → ∃ cell' : Cell, H'[a]? = some cell' ∧ zk_ec KT D E (G a) cell cell'
/-- what the table of kinds must keep -/
def zk_kt (KT : List zk_K) : Prop := ¬ (zk_kd KT 0).2.2.2.2.2.2.2 = 1 ∧ ∀ k, (zk_kd KT (zk_fin KT k)).1 = (zk_kd KT k).1 ∧ (zk_kd KT (zk_fin KT k)).2.1 = (zk_kd KT k).2.1 ∧ (zk_kd KT (zk_fin KT k)).2.2.1.length = (zk_kd KT k).2.2.1.length ∧
  zk_fin KT (zk_fin KT k) = zk_fin KT k ∧ (zk_kd KT (zk_fin KT k)).2.2.2.2.2.2.2 = (zk_kd KT k).2.2.2.2.2.2.2 ∧ ∀ t ∈ (zk_kd KT k).2.2.1, t.1 = 2 → zk_fin KT t.2.1.toNat = t.2.1.toNat
theorem zk_sl_fin {KT : List zk_K} (hk : zk_kt KT) (D : zk_D) (k f : Nat) : zk_sl KT D (zk_fin KT k) f = zk_sl KT D k f := by
  unfold zk_sl; rw [(hk.2 k).2.1]
theorem zk_ec_rf {KT : List zk_K} {D : zk_D} {E : List (Nat × Nat)} {k : Nat} {cell : Cell} : zk_ec KT D E k cell cell := ⟨rfl, fun _ _ _ _ => rfl, fun _ => ⟨fun _ => rfl, fun _ h => h⟩⟩
theorem zk_ev_rf {KT : List zk_K} {D : zk_D} {E : List (Nat × Nat)} {G : Nat → Nat} {H : Heap} : zk_ev KT D E G H G H :=
  ⟨Nat.le_refl _, fun _ _ h => ⟨h, rfl⟩, fun _ _ => Or.inl rfl, fun _ cell _ h => ⟨cell, h, zk_ec_rf⟩⟩
theorem zk_ec_tr {KT : List zk_K} {D : zk_D} {E : List (Nat × Nat)} {k : Nat} {c0 c1 c2 : Cell} (h1 : zk_ec KT D E k c0 c1) (h2 : zk_ec KT D E k c1 c2) : zk_ec KT D E k c0 c2 :=
  ⟨h2.1.trans h1.1, fun s f hf hw => (h2.2.1 s f hf hw).trans (h1.2.1 s f hf hw), fun s => ⟨fun hw => ((h2.2.2 s).1 hw).trans ((h1.2.2 s).1 hw), fun j hj => (h2.2.2 s).2 j ((h1.2.2 s).2 j hj)⟩⟩
theorem zk_wr_fin {KT : List zk_K} (hk : zk_kt KT) {E : List (Nat × Nat)} {k f : Nat} (h : zk_wr KT E k f = false) : zk_wr KT E (zk_fin KT k) f = false := by
  unfold zk_wr at h ⊢
  rw [(hk.2 k).2.2.2.1]
  rw [Bool.or_eq_false_iff] at h ⊢
  exact ⟨h.2, h.2⟩
theorem zk_ec_fin {KT : List zk_K} (hk : zk_kt KT) {D : zk_D} {E : List (Nat × Nat)} {k : Nat} {c0 c1 : Cell} (h : zk_ec KT D E (zk_fin KT k) c0 c1) : zk_ec KT D E k c0 c1 := by
  refine ⟨h.1, fun s f hf hw => ?_, fun s => ⟨fun hw => ?_, ?_⟩⟩
  · have := h.2.1 (by rw [(hk.2 k).1]; exact s) f (by rw [(hk.2 k).2.2.1]; exact hf) (zk_wr_fin hk hw)
    rw [zk_sl_fin hk] at this; exact this
  · exact (h.2.2 (by rw [(hk.2 k).1]; exact s)).1 (zk_wr_fin hk hw)
  · exact (h.2.2 (by rw [(hk.2 k).1]; exact s)).2
theorem zk_ev_tr {KT : List zk_K} (hk : zk_kt KT) {D : zk_D} {E : List (Nat × Nat)} {G G1 G2 : Nat → Nat} {H H1 H2 : Heap} (h1 : zk_ev KT D E G H G1 H1) (h2 : zk_ev KT D E G1 H1 G2 H2) : zk_ev KT D E G H G2 H2 := by
  refine ⟨Nat.le_trans h1.1 h2.1, fun a ha hg => ?_, fun a hg => ?_, fun a cell hg hc => ?_⟩
  · obtain ⟨a1, a2⟩ := h1.2.1 a ha hg
    obtain ⟨b1, b2⟩ := h2.2.1 a (Nat.lt_of_lt_of_le ha h1.1) a1
    exact ⟨b1, b2.trans a2⟩
  · rcases h1.2.2.1 a hg with e | ⟨m, e, z⟩
    · rcases h2.2.2.1 a (by rw [e]; exact hg) with e2 | ⟨m2, e2, z2⟩
      · exact Or.inl (e2.trans e)
      · rw [e] at m2 e2; exact Or.inr ⟨m2, e2, z2⟩
    · rcases h2.2.2.1 a z with e2 | ⟨m2, e2, z2⟩
      · exact Or.inr ⟨m, e2.trans e, by rw [e2]; exact z⟩
      · exact Or.inr ⟨m, by rw [e2, e]; exact (hk.2 _).2.2.2.1, z2⟩
  · obtain ⟨c1, q1, w1⟩ := h1.2.2.2 a cell hg hc
    rcases h1.2.2.1 a hg with e | ⟨m, e, z⟩
    · obtain ⟨c2, q2, w2⟩ := h2.2.2.2 a c1 (by rw [e]; exact hg) q1
      rw [e] at w2
      exact ⟨c2, q2, zk_ec_tr w1 w2⟩
    · obtain ⟨c2, q2, w2⟩ := h2.2.2.2 a c1 z q1
      rw [e] at w2
      exact ⟨c2, q2, zk_ec_tr w1 (zk_ec_fin hk w2)⟩
def zk_sb (E' E : List (Nat × Nat)) : Bool := E'.all fun q => zk_me E q.1 q.2
theorem zk_me_sb {E' E : List (Nat × Nat)} (h : zk_sb E' E = true) {k f : Nat} (hm : zk_me E' k f = true) : zk_me E k f = true := by
  obtain ⟨q, hq, e⟩ := List.any_eq_true.mp hm
  obtain ⟨e1, e2⟩ := Bool.and_eq_true_iff.mp e
  have := List.all_eq_true.mp h q hq
  rw [Nat.eq_of_beq_eq_true e1, Nat.eq_of_beq_eq_true e2] at this
  exact this
theorem zk_wr_sb {KT : List zk_K} {E' E : List (Nat × Nat)} (h : zk_sb E' E = true) {k f : Nat} (hw : zk_wr KT E k f = false) : zk_wr KT E' k f = false := by
  unfold zk_wr at hw ⊢
  rw [Bool.or_eq_false_iff] at hw ⊢
  refine ⟨?_, ?_⟩
  · cases e : zk_me E' k f
    · rfl
    · rw [zk_me_sb h e] at hw; exact absurd hw.1 (by simp)
  · cases e : zk_me E' (zk_fin KT k) f
    · rfl
    · rw [zk_me_sb h e] at hw; exact absurd hw.2 (by simp)
theorem zk_ev_sb {KT : List zk_K} {D : zk_D} {E' E : List (Nat × Nat)} {G G1 : Nat → Nat} {H H1 : Heap} (h : zk_sb E' E = true) (h1 : zk_ev KT D E' G H G1 H1) : zk_ev KT D E G H G1 H1 :=
  ⟨h1.1, h1.2.1, fun a hg => (h1.2.2.1 a hg).imp id fun ⟨m, e⟩ => ⟨zk_me_sb h m, e⟩, fun a cell hg hc => by
    obtain ⟨c1, q1, w1⟩ := h1.2.2.2 a cell hg hc
    exact ⟨c1, q1, w1.1, fun s f hf hw => w1.2.1 s f hf (zk_wr_sb h hw), fun s => ⟨fun hw => (w1.2.2 s).1 (zk_wr_sb h hw), (w1.2.2 s).2⟩⟩⟩
/-- the facts that stay under such a change -/
def zk_ex (KT : List zk_K) (E : List (Nat × Nat)) (s : zk_S) (keep : Bool) : zk_S :=
  (s.1, s.2.1, s.2.2.1, s.2.2.2.1.filter (fun q => !(Nat.beq q.2.1 2 && zk_me E q.2.2.1.toNat 1000)), s.2.2.2.2.1,
    s.2.2.2.2.2.1.filter (fun q => let t := zk_lk s.2.2.2.1 q.1; Nat.beq t.1 2 && !(zk_wr KT E t.2.1.toNat q.2.1)), s.2.2.2.2.2.2.1, s.2.2.2.2.2.2.2.1, s.2.2.2.2.2.2.2.2.1, bif keep then s.2.2.2.2.2.2.2.2.2 else none)
theorem zk_tv_ev {KT : List zk_K} {D : zk_D} {E : List (Nat × Nat)} {G G' : Nat → Nat} {H H' : Heap} (h : zk_ev KT D E G H G' H') {w : Value} {t : zk_T} (ht : zk_tv G w t) (hn : t.1 = 2 → zk_me E t.2.1.toNat 1000 = false) : zk_tv G' w t := by
  unfold zk_tv at ht ⊢
  by_cases e0 : t.1 = 0
  · rw [if_pos e0] at ht ⊢; exact ht
  · rw [if_neg e0] at ht ⊢
    by_cases e1 : t.1 = 1
    · rw [if_pos e1] at ht ⊢; exact ht
    · rw [if_neg e1] at ht ⊢
      by_cases e2 : t.1 = 2
      · rw [if_pos e2] at ht ⊢
        rcases ht with ⟨a, q1, q2, q3⟩ | q
        · refine Or.inl ⟨a, q1, ?_⟩
          rcases h.2.2.1 a q3 with e | ⟨m, -⟩
          · rw [e]; exact ⟨q2, q3⟩
          · have := hn e2
            rw [← q2] at this
            rw [show ((G a : Int)).toNat = G a from Int.toNat_natCast _, m] at this
            exact absurd this (by simp)
        · exact Or.inr q
      · rw [if_neg e2]; trivial
theorem zk_sort_ev {KT : List zk_K} (hk : zk_kt KT) {D : zk_D} {E : List (Nat × Nat)} {G G' : Nat → Nat} {H H' : Heap} (h : zk_ev KT D E G H G' H') {a : Nat} (hg : G a ≠ 0) : G' a ≠ 0 ∧ (zk_kd KT (G' a)).1 = (zk_kd KT (G a)).1 ∧ (zk_kd KT (G' a)).2.2.1.length = (zk_kd KT (G a)).2.2.1.length ∧ ∀ f, zk_sl KT D (G' a) f = zk_sl KT D (G a) f := by
  rcases h.2.2.1 a hg with e | ⟨m, e, z⟩
  · rw [e]; exact ⟨hg, rfl, rfl, fun _ => rfl⟩
  · refine ⟨z, ?_⟩
    rw [e]; exact ⟨(hk.2 _).1, (hk.2 _).2.2.1, fun f => zk_sl_fin hk D _ f⟩
theorem zk_ln_ev {KT : List zk_K} (hk : zk_kt KT) {D : zk_D} {E : List (Nat × Nat)} {G G' : Nat → Nat} {H H' : Heap} (h : zk_ev KT D E G H G' H') {o w : Value} (hl : zk_ln KT G H o w) : zk_ln KT G' H' o w := by
  obtain ⟨a, cell, e, g, s, c, z⟩ := hl
  obtain ⟨c', q, w1⟩ := h.2.2.2 a cell g c
  obtain ⟨z1, z2, -⟩ := zk_sort_ev hk h g
  exact ⟨a, c', e, z1, by rw [z2]; exact s, q, by rw [w1.1]; exact z⟩
theorem zk_pf_ev {KT : List zk_K} (hk : zk_kt KT) {D : zk_D} {E : List (Nat × Nat)} {G G' : Nat → Nat} {H H' : Heap} (h : zk_ev KT D E G H G' H') {o : Value} {z : Int} (hl : zk_pf KT G H o z) : zk_pf KT G' H' o z := by
  obtain ⟨a, cell, e, g, s, c, y⟩ := hl
  obtain ⟨c', q, w1⟩ := h.2.2.2 a cell g c
  obtain ⟨z1, z2, -⟩ := zk_sort_ev hk h g
  exact ⟨a, c', e, z1, by rw [z2]; exact s, q, fun j hj => (w1.2.2 s).2 j (y j hj)⟩
theorem zk_fl_ev {KT : List zk_K} (hk : zk_kt KT) {D : zk_D} {E : List (Nat × Nat)} {G G' : Nat → Nat} {H H' : Heap} (h : zk_ev KT D E G H G' H') {o w : Value} {f : Nat} {t : zk_T} (hl : zk_fl KT D G H o f w) (ht : zk_tv G o t) (h2 : t.1 = 2) (hw : zk_wr KT E t.2.1.toNat f = false) : zk_fl KT D G' H' o f w := by
  obtain ⟨a, cell, e, g, s, b, c, y⟩ := hl
  obtain ⟨c', q, w1⟩ := h.2.2.2 a cell g c
  obtain ⟨z1, z2, z3, z4⟩ := zk_sort_ev hk h g
  have hga : t.2.1.toNat = G a := by
    unfold zk_tv at ht
    rw [if_neg (by omega), if_neg (by omega), if_pos h2] at ht
    rcases ht with ⟨a2, q1, q2, q3⟩ | ⟨-, q⟩
    · rw [e] at q1
      cases q1
      rw [← q2]; exact Int.toNat_natCast _
    · rw [e] at q; cases q
  rw [hga] at hw
  exact ⟨a, c', e, z1, by rw [z2]; exact s, by rw [z3]; exact b, q, by rw [z4, w1.2.1 s f b hw]; exact y⟩
theorem zk_F_ev {KT : List zk_K} (hk : zk_kt KT) {D : zk_D} {E : List (Nat × Nat)} {G G' : Nat → Nat} {H H' : Heap} {v : Nat → Value} {s : zk_S} {keep : Bool} (h : zk_F KT D G H v s) (he : zk_ev KT D E G H G' H') (hz : keep = true → H'.size = H.size) : zk_F KT D G' H' v (zk_ex KT E s keep) := by
  obtain ⟨n, loc, stk, tys, rel, fld, len, pf, msc, la⟩ := s
  obtain ⟨h1, h2, h3, h4, h5, h6, h7⟩ := h
  refine ⟨fun q hq => ?_, h2, fun q hq => ?_, fun q hq => ?_, fun q hq => ?_, h6, fun x hx => ?_⟩
  · obtain ⟨m, c⟩ := List.mem_filter.mp hq
    refine ⟨(h1 q m).1, zk_tv_ev he (h1 q m).2 fun e => ?_⟩
    cases z : zk_me E q.2.2.1.toNat 1000
    · rfl
    · rw [z, e] at c; simp at c
  · obtain ⟨m, c⟩ := List.mem_filter.mp hq
    obtain ⟨a1, a2, a3⟩ := h3 q m
    obtain ⟨c1, c2⟩ := Bool.and_eq_true_iff.mp c
    refine ⟨a1, a2, zk_fl_ev hk he a3 (zk_lk_ok (x := q.1) fun q hq => (h1 q hq).2) (Nat.eq_of_beq_eq_true c1) ?_⟩
    simpa using c2
  · obtain ⟨a1, a2, a3⟩ := h4 q hq
    exact ⟨a1, a2, zk_ln_ev hk he a3⟩
  · obtain ⟨a1, a2, a3⟩ := h5 q hq
    exact ⟨a1, a2, zk_pf_ev hk he a3⟩
  · cases keep with
    | false => simp at hx
    | true =>
      obtain ⟨a1, a, e, z⟩ := h7 x hx
      exact ⟨a1, a, e, (hz rfl).trans z⟩
theorem zk_LS_ex {KT : List zk_K} {E : List (Nat × Nat)} {keep : Bool} {n0 : Nat} {v0 : Nat → Value} {nL : Nat} {ls : Array Slot} {vs : List Value} {v : Nat → Value} {s : zk_S}
    (h : zk_LS n0 v0 nL ls vs v s) : zk_LS n0 v0 nL ls vs v (zk_ex KT E s keep) := by
  obtain ⟨n, loc, stk, rest⟩ := s
  exact h
