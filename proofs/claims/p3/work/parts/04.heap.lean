/-! ENGINE, 3: the heap: cells by kinds, and what a step or a call may change -/
noncomputable section
def zk_ct (G : Nat → Nat) (a : Nat) (w : Value) (t : zk_T) : Prop := zk_tv G w t ∧ (t.1 = 2 → t.2.2 = 2 → zk_i w < (a : Int))
/-- an object or an array whose contents are known -/
def zk_vk (cell : Cell) : Prop := cell.vm ≠ .unknown ∧ cell.vm.isStatics = false
theorem zk_vk_of {cell : Cell} (h : cell.vm = .none) : zk_vk cell := ⟨fun z => (by rw [h] at z; cases z), by rw [h]; rfl⟩
def zk_oc (KT : List zk_K) (D : zk_D) (G : Nat → Nat) (k a : Nat) (cell : Cell) : Prop :=
  (zk_vk cell ∧ ((zk_kd KT k).2.2.2.2.2.2.2 = 0 → cell.vm = .none)) ∧
  ((zk_kd KT k).1 = 0 → cell.cls = D.1 (zk_kd KT k).2.1 ∧ ∀ (f : Nat) (t : zk_T), (zk_kd KT k).2.2.1[f]? = some t → ∃ w, cell.slots[zk_sl KT D k f]? = some w ∧ zk_ct G a w t) ∧
  ((zk_kd KT k).1 ≠ 0 → cell.cls = D.2.2.1 (zk_kd KT k).2.1 ∧ (zk_kd KT k).2.2.2.1 ≤ (cell.slots.size : Int) ∧ (cell.slots.size : Int) ≤ (zk_kd KT k).2.2.2.2.1 ∧
    ∀ (t : zk_T), (zk_kd KT k).2.2.1[0]? = some t → ∀ (j : Nat) (w : Value), cell.slots[j]? = some w → zk_ct G a w t)
def zk_in (KT : List zk_K) (D : zk_D) (G : Nat → Nat) (H : Heap) (k : Nat) (cell : Cell) (q : Nat × Nat × Nat) : Prop :=
  ∃ (b : Nat) (cb : Cell) (z : Int32), cell.slots[zk_sl KT D k q.2.1]? = some (.ref b) ∧ cell.slots[zk_sl KT D k q.2.2]? = some (.int z) ∧ G b ≠ 0 ∧ (zk_kd KT (G b)).1 ≠ 0 ∧ H[b]? = some cb ∧
    (q.1 = 0 → ∀ j : Nat, (j : Int) < z.toInt → cb.slots[j]? ≠ some .null) ∧ (q.1 ≠ 0 → z.toInt ≤ (cb.slots.size : Int))
def zk_hp (KT : List zk_K) (D : zk_D) (base : Nat) (Hb : Heap) (G : Nat → Nat) (H : Heap) : Prop :=
  (base ≤ H.size ∧ (∀ k, (zk_kd KT k).2.2.2.2.2.2.2 = 1 → G (D.2.2.2.1 k) = k) ∧ ∀ (k : Nat) (cell : Cell), (zk_kd KT k).2.2.2.2.2.2.2 = 1 → Hb[D.2.2.2.1 k]? = some cell → ∀ (j : Nat) (w : Value), cell.slots[j]? = some w → w = D.2.2.2.2.1 k j) ∧ (∀ a : Nat, a < base → H[a]? = Hb[a]?) ∧
  ∀ a : Nat, G a ≠ 0 → (((zk_kd KT (G a)).2.2.2.2.2.2.2 = 0 → base ≤ a) ∧ ((zk_kd KT (G a)).2.2.2.2.2.2.2 = 1 → a = D.2.2.2.1 (G a) ∧ a < base)) ∧ ∃ cell : Cell, H[a]? = some cell ∧ zk_oc KT D G (G a) a cell ∧ ∀ q ∈ (zk_kd KT (G a)).2.2.2.2.2.1, zk_in KT D G H (G a) cell q
/-- what the table of kinds must keep -/
def zk_kt (KT : List zk_K) : Prop := ¬ (zk_kd KT 0).2.2.2.2.2.2.2 = 1 ∧ ∀ k, (zk_kd KT (zk_fin KT k)).1 = (zk_kd KT k).1 ∧ (zk_kd KT (zk_fin KT k)).2.1 = (zk_kd KT k).2.1 ∧ (zk_kd KT (zk_fin KT k)).2.2.1.length = (zk_kd KT k).2.2.1.length ∧
  zk_fin KT (zk_fin KT k) = zk_fin KT k ∧ (zk_kd KT (zk_fin KT k)).2.2.2.2.2.2.2 = (zk_kd KT k).2.2.2.2.2.2.2 ∧ ∀ t ∈ (zk_kd KT k).2.2.1, t.1 = 2 → zk_fin KT t.2.1.toNat = t.2.1.toNat
theorem zk_sl_fin {KT : List zk_K} (hk : zk_kt KT) (D : zk_D) (k f : Nat) : zk_sl KT D (zk_fin KT k) f = zk_sl KT D k f := by
  unfold zk_sl; rw [(hk.2 k).2.1]
theorem zk_ec_rf {KT : List zk_K} {D : zk_D} {E : List (Nat × Nat)} {k : Nat} {cell : Cell} : zk_ec KT D E k cell cell := ⟨rfl, fun _ _ _ _ => rfl, fun _ => ⟨fun _ => rfl, fun _ h => h⟩⟩
theorem zk_ev_rf {KT : List zk_K} {D : zk_D} {E : List (Nat × Nat)} {G : Nat → Nat} {H : Heap} : zk_ev KT D E G H G H :=
  ⟨Nat.le_refl _, fun _ _ h => ⟨h, rfl⟩, fun _ _ => Or.inl rfl, fun _ cell _ h => ⟨cell, h, zk_ec_rf⟩⟩
theorem zk_ec_tr {KT : List zk_K} {D : zk_D} {E : List (Nat × Nat)} {k : Nat} {c0 c1 c2 : Cell} (h1 : zk_ec KT D E k c0 c1) (h2 : zk_ec KT D E k c1 c2) : zk_ec KT D E k c0 c2 :=
  ⟨h2.1.trans h1.1, fun s f hf hw => (h2.2.1 s f hf hw).trans (h1.2.1 s f hf hw), fun s => ⟨fun hw => ((h2.2.2 s).1 hw).trans ((h1.2.2 s).1 hw), fun j hj => (h2.2.2 s).2 j ((h1.2.2 s).2 j hj)⟩⟩
theorem zk_wr_fin {KT : List zk_K} (hk : zk_kt KT) {E : List (Nat × Nat)} {k f : Nat} (h : zk_wr KT E k f = false) : zk_wr KT E (zk_fin KT k) f = false := by
  unfold zk_wr at h ⊢
  rw [(hk.2 k).2.2.2.1]
  rw [Bool.or_eq_false_iff] at h ⊢
  exact ⟨h.2, h.2⟩
theorem zk_ec_fin {KT : List zk_K} (hk : zk_kt KT) {D : zk_D} {E : List (Nat × Nat)} {k : Nat} {c0 c1 : Cell} (h : zk_ec KT D E (zk_fin KT k) c0 c1) : zk_ec KT D E k c0 c1 := by
  refine ⟨h.1, fun s f hf hw => ?_, fun s => ⟨fun hw => ?_, ?_⟩⟩
  · have := h.2.1 (by rw [(hk.2 k).1]; exact s) f (by rw [(hk.2 k).2.2.1]; exact hf) (zk_wr_fin hk hw)
    rw [zk_sl_fin hk] at this; exact this
  · exact (h.2.2 (by rw [(hk.2 k).1]; exact s)).1 (zk_wr_fin hk hw)
  · exact (h.2.2 (by rw [(hk.2 k).1]; exact s)).2
theorem zk_ev_tr {KT : List zk_K} (hk : zk_kt KT) {D : zk_D} {E : List (Nat × Nat)} {G G1 G2 : Nat → Nat} {H H1 H2 : Heap} (h1 : zk_ev KT D E G H G1 H1) (h2 : zk_ev KT D E G1 H1 G2 H2) : zk_ev KT D E G H G2 H2 := by
  refine ⟨Nat.le_trans h1.1 h2.1, fun a ha hg => ?_, fun a hg => ?_, fun a cell hg hc => ?_⟩
  · obtain ⟨a1, a2⟩ := h1.2.1 a ha hg
    obtain ⟨b1, b2⟩ := h2.2.1 a (Nat.lt_of_lt_of_le ha h1.1) a1
    exact ⟨b1, b2.trans a2⟩
  · rcases h1.2.2.1 a hg with e | ⟨m, e, z⟩
    · rcases h2.2.2.1 a (by rw [e]; exact hg) with e2 | ⟨m2, e2, z2⟩
      · exact Or.inl (e2.trans e)
      · rw [e] at m2 e2; exact Or.inr ⟨m2, e2, z2⟩
    · rcases h2.2.2.1 a z with e2 | ⟨m2, e2, z2⟩
      · exact Or.inr ⟨m, e2.trans e, by rw [e2]; exact z⟩
      · exact Or.inr ⟨m, by rw [e2, e]; exact (hk.2 _).2.2.2.1, z2⟩
  · obtain ⟨c1, q1, w1⟩ := h1.2.2.2 a cell hg hc
    rcases h1.2.2.1 a hg with e | ⟨m, e, z⟩
    · obtain ⟨c2, q2, w2⟩ := h2.2.2.2 a c1 (by rw [e]; exact hg) q1
      rw [e] at w2
      exact ⟨c2, q2, zk_ec_tr w1 w2⟩
    · obtain ⟨c2, q2, w2⟩ := h2.2.2.2 a c1 z q1
      rw [e] at w2
      exact ⟨c2, q2, zk_ec_tr w1 (zk_ec_fin hk w2)⟩
def zk_sb (E' E : List (Nat × Nat)) : Bool := E'.all fun q => zk_me E q.1 q.2
theorem zk_me_sb {E' E : List (Nat × Nat)} (h : zk_sb E' E = true) {k f : Nat} (hm : zk_me E' k f = true) : zk_me E k f = true := by
  obtain ⟨q, hq, e⟩ := List.any_eq_true.mp ((zk_me_eq _ _ _).symm.trans hm)
  obtain ⟨e1, e2⟩ := Bool.and_eq_true_iff.mp e
  have := List.all_eq_true.mp h q hq
  rw [Nat.eq_of_beq_eq_true e1, Nat.eq_of_beq_eq_true e2] at this
  exact this
theorem zk_wr_sb {KT : List zk_K} {E' E : List (Nat × Nat)} (h : zk_sb E' E = true) {k f : Nat} (hw : zk_wr KT E k f = false) : zk_wr KT E' k f = false := by
  unfold zk_wr at hw ⊢
  rw [Bool.or_eq_false_iff] at hw ⊢
  refine ⟨?_, ?_⟩
  · cases e : zk_me E' k f
    · rfl
    · rw [zk_me_sb h e] at hw; exact absurd hw.1 (by simp)
  · cases e : zk_me E' (zk_fin KT k) f
    · rfl
    · rw [zk_me_sb h e] at hw; exact absurd hw.2 (by simp)
theorem zk_ev_sb {KT : List zk_K} {D : zk_D} {E' E : List (Nat × Nat)} {G G1 : Nat → Nat} {H H1 : Heap} (h : zk_sb E' E = true) (h1 : zk_ev KT D E' G H G1 H1) : zk_ev KT D E G H G1 H1 :=
  ⟨h1.1, h1.2.1, fun a hg => (h1.2.2.1 a hg).imp id fun ⟨m, e⟩ => ⟨zk_me_sb h m, e⟩, fun a cell hg hc => by
    obtain ⟨c1, q1, w1⟩ := h1.2.2.2 a cell hg hc
    exact ⟨c1, q1, w1.1, fun s f hf hw => w1.2.1 s f hf (zk_wr_sb h hw), fun s => ⟨fun hw => (w1.2.2 s).1 (zk_wr_sb h hw), (w1.2.2 s).2⟩⟩⟩
/-- the facts that stay under such a change -/
def zk_exf (KT : List zk_K) (E : List (Nat × Nat)) (tys : List (Nat × zk_T)) (q : Nat × Nat × Nat) : Bool := let t := zk_lk tys q.1; Nat.beq t.1 2 && !(zk_wr KT E t.2.1.toNat q.2.1) && (Nat.blt q.2.1 1000 || zk_gu KT E q.2.1)
def zk_exm (KT : List zk_K) (E : List (Nat × Nat)) (tys : List (Nat × zk_T)) (q : Nat × Nat × Nat × Nat) : Bool := bif Nat.beq q.1 6 || Nat.beq q.1 11 then (let t := zk_lk tys q.2.1; Nat.beq t.1 2 && !(Nat.beq (zk_kd KT t.2.1.toNat).1 0) && !(zk_wr KT E t.2.1.toNat 0)) else true
def zk_ex (KT : List zk_K) (E : List (Nat × Nat)) (s : zk_S) (keep : Bool) : zk_S :=
  (s.1, s.2.1, s.2.2.1, s.2.2.2.1.filter (fun q => !(Nat.beq q.2.1 2 && zk_me E q.2.2.1.toNat 1000)), s.2.2.2.2.1,
    s.2.2.2.2.2.1.filter (zk_exf KT E s.2.2.2.1), s.2.2.2.2.2.2.1, s.2.2.2.2.2.2.2.1, s.2.2.2.2.2.2.2.2.1.filter (zk_exm KT E s.2.2.2.1), bif keep then s.2.2.2.2.2.2.2.2.2 else none)
theorem zk_tv_ev {KT : List zk_K} {D : zk_D} {E : List (Nat × Nat)} {G G' : Nat → Nat} {H H' : Heap} (h : zk_ev KT D E G H G' H') {w : Value} {t : zk_T} (ht : zk_tv G w t) (hn : t.1 = 2 → zk_me E t.2.1.toNat 1000 = false) : zk_tv G' w t := by
  unfold zk_tv at ht ⊢
  by_cases e0 : t.1 = 0
  · rw [if_pos e0] at ht ⊢; exact ht
  · rw [if_neg e0] at ht ⊢
    by_cases e1 : t.1 = 1
    · rw [if_pos e1] at ht ⊢; exact ht
    · rw [if_neg e1] at ht ⊢
      by_cases e2 : t.1 = 2
      · rw [if_pos e2] at ht ⊢
        rcases ht with ⟨a, q1, q2, q3⟩ | q
        · refine Or.inl ⟨a, q1, ?_⟩
          rcases h.2.2.1 a q3 with e | ⟨m, -⟩
          · rw [e]; exact ⟨q2, q3⟩
          · have := hn e2
            rw [← q2] at this
            rw [show ((G a : Int)).toNat = G a from Int.toNat_natCast _, m] at this
            exact absurd this (by simp)
        · exact Or.inr q
      · rw [if_neg e2]; trivial
theorem zk_sort_ev {KT : List zk_K} (hk : zk_kt KT) {D : zk_D} {E : List (Nat × Nat)} {G G' : Nat → Nat} {H H' : Heap} (h : zk_ev KT D E G H G' H') {a : Nat} (hg : G a ≠ 0) : G' a ≠ 0 ∧ (zk_kd KT (G' a)).1 = (zk_kd KT (G a)).1 ∧ (zk_kd KT (G' a)).2.2.1.length = (zk_kd KT (G a)).2.2.1.length ∧ ∀ f, zk_sl KT D (G' a) f = zk_sl KT D (G a) f := by
  rcases h.2.2.1 a hg with e | ⟨m, e, z⟩
  · rw [e]; exact ⟨hg, rfl, rfl, fun _ => rfl⟩
  · refine ⟨z, ?_⟩
    rw [e]; exact ⟨(hk.2 _).1, (hk.2 _).2.2.1, fun f => zk_sl_fin hk D _ f⟩
theorem zk_ln_ev {KT : List zk_K} (hk : zk_kt KT) {D : zk_D} {E : List (Nat × Nat)} {G G' : Nat → Nat} {H H' : Heap} (h : zk_ev KT D E G H G' H') {o w : Value} (hl : zk_ln KT G H o w) : zk_ln KT G' H' o w := by
  obtain ⟨a, cell, e, g, s, c, z⟩ := hl
  obtain ⟨c', q, w1⟩ := h.2.2.2 a cell g c
  obtain ⟨z1, z2, -⟩ := zk_sort_ev hk h g
  exact ⟨a, c', e, z1, by rw [z2]; exact s, q, by rw [w1.1]; exact z⟩
theorem zk_pf_ev {KT : List zk_K} (hk : zk_kt KT) {D : zk_D} {E : List (Nat × Nat)} {G G' : Nat → Nat} {H H' : Heap} (h : zk_ev KT D E G H G' H') {o : Value} {z : Int} (hl : zk_pf KT G H o z) : zk_pf KT G' H' o z := by
  obtain ⟨a, cell, e, g, s, c, y⟩ := hl
  obtain ⟨c', q, w1⟩ := h.2.2.2 a cell g c
  obtain ⟨z1, z2, -⟩ := zk_sort_ev hk h g
  exact ⟨a, c', e, z1, by rw [z2]; exact s, q, fun j hj => (w1.2.2 s).2 j (y j hj)⟩
theorem zk_ref_ty {G : Nat → Nat} {o : Value} {t : zk_T} {a : Nat} (ht : zk_tv G o t) (h2 : t.1 = 2) (e : o = .ref a) : t.2.1.toNat = G a := by
  unfold zk_tv at ht
  rw [if_neg (by omega), if_neg (by omega), if_pos h2] at ht
  rcases ht with ⟨a2, q1, q2, q3⟩ | ⟨-, q⟩
  · rw [e] at q1
    cases q1
    rw [← q2]; exact Int.toNat_natCast _
  · rw [e] at q; cases q
theorem zk_me_app {E E' : List (Nat × Nat)} {k f : Nat} : zk_me (E ++ E') k f = (zk_me E k f || zk_me E' k f) := by simp only [zk_me_eq]; rw [List.any_append]
theorem zk_gu_app {KT : List zk_K} {E E' : List (Nat × Nat)} {f : Nat} (h : zk_gu KT E f = true) (h' : zk_gu KT E' f = true) : zk_gu KT (E ++ E') f = true := by
  unfold zk_gu at h h' ⊢
  rw [List.all_eq_true] at h h' ⊢
  intro q hq
  have a := h q hq
  have b := h' q hq
  cases e : Nat.beq q.1 f
  · rfl
  · rw [e] at a b
    simp only [Bool.not_true, Bool.false_or, Bool.and_eq_true, Bool.not_eq_true', zk_wr, Bool.or_eq_false_iff] at a b ⊢
    simp only [zk_me_app, Bool.or_eq_false_iff]
    exact ⟨⟨⟨a.1.1, b.1.1⟩, a.1.2, b.1.2⟩, a.2, b.2⟩
theorem zk_sb_l {E E' : List (Nat × Nat)} : zk_sb E (E ++ E') = true := List.all_eq_true.mpr fun q hq => by
  simp only [zk_me_eq]
  exact List.any_eq_true.mpr ⟨q, List.mem_append_left _ hq, by rw [Nat.beq_refl, Nat.beq_refl]; rfl⟩
theorem zk_sb_r {E E' : List (Nat × Nat)} : zk_sb E' (E ++ E') = true := List.all_eq_true.mpr fun q hq => by
  simp only [zk_me_eq]
  exact List.any_eq_true.mpr ⟨q, List.mem_append_right _ hq, by rw [Nat.beq_refl, Nat.beq_refl]; rfl⟩
theorem zk_gh_ev {KT : List zk_K} (hk : zk_kt KT) {D : zk_D} {E : List (Nat × Nat)} {G G' : Nat → Nat} {H H' : Heap} (h : zk_ev KT D E G H G' H') {a f : Nat} {w : Value} (hg : zk_gh KT D G H a f w) (hu : zk_gu KT E f = true) : zk_gh KT D G' H' a f w :=
  fun E' _ _ hu' h' => hg (E ++ E') _ _ (zk_gu_app hu hu') (zk_ev_tr hk (zk_ev_sb zk_sb_l h) (zk_ev_sb zk_sb_r h'))
theorem zk_gh_at {KT : List zk_K} {D : zk_D} {G : Nat → Nat} {H : Heap} {a f : Nat} {w : Value} (hg : zk_gh KT D G H a f w) : D.2.2.2.2.2 f G H a w :=
  hg [] G H (List.all_eq_true.mpr fun q _ => by show (!(Nat.beq q.1 f) || (!(false || false) && !false)) = true; simp) zk_ev_rf
theorem zk_fl_ev {KT : List zk_K} (hk : zk_kt KT) {D : zk_D} {E : List (Nat × Nat)} {G G' : Nat → Nat} {H H' : Heap} (h : zk_ev KT D E G H G' H') {o w : Value} {f : Nat} {t : zk_T} (hl : zk_fl KT D G H o f w) (ht : zk_tv G o t) (h2 : t.1 = 2) (hw : zk_wr KT E t.2.1.toNat f = false) (hu : (Nat.blt f 1000 || zk_gu KT E f) = true) : zk_fl KT D G' H' o f w := by
  obtain ⟨a, cell, e, g, s, c, y⟩ := hl
  obtain ⟨c', q, w1⟩ := h.2.2.2 a cell g c
  obtain ⟨z1, z2, z3, z4⟩ := zk_sort_ev hk h g
  refine ⟨a, c', e, z1, by rw [z2]; exact s, q, ?_⟩
  rcases y with ⟨b, y⟩ | ⟨b, y⟩
  · rw [zk_ref_ty ht h2 e] at hw
    exact Or.inl ⟨by rw [z3]; exact b, by rw [z4, w1.2.1 s f b hw]; exact y⟩
  · refine Or.inr ⟨b, zk_gh_ev hk h y ?_⟩
    rcases Bool.or_eq_true_iff.mp hu with hf | hf
    · have hf : f < 1000 := by simpa using hf
      omega
    · exact hf
theorem zk_gu_nil {KT : List zk_K} {f : Nat} : zk_gu KT [] f = true := List.all_eq_true.mpr fun q _ => by show (!(Nat.beq q.1 f) || (!(false || false) && !false)) = true; simp
theorem zk_fl_ev0 {KT : List zk_K} (hk : zk_kt KT) {D : zk_D} {G G' : Nat → Nat} {H H' : Heap} (h : zk_ev KT D [] G H G' H') {o w : Value} {f : Nat} (hl : zk_fl KT D G H o f w) : zk_fl KT D G' H' o f w := by
  obtain ⟨a, cell, e, g, s, c, y⟩ := hl
  obtain ⟨c', q, w1⟩ := h.2.2.2 a cell g c
  obtain ⟨z1, z2, z3, z4⟩ := zk_sort_ev hk h g
  refine ⟨a, c', e, z1, by rw [z2]; exact s, q, ?_⟩
  rcases y with ⟨b, y⟩ | ⟨b, y⟩
  · exact Or.inl ⟨by rw [z3]; exact b, by rw [z4, w1.2.1 s f b rfl]; exact y⟩
  · exact Or.inr ⟨b, zk_gh_ev hk h y zk_gu_nil⟩
theorem zk_ms_new {D : zk_D} {G G' : Nat → Nat} {H H' : Heap} {n : Nat} {v : Nat → Value} {q : Nat × Nat × Nat × Nat} (hG : ∀ a : Nat, a < H.size → G' a = G a) (hH : ∀ a : Nat, a < H.size → H'[a]? = H[a]?) (h : zk_ms D G H n v q) : zk_ms D G' H' n v q := by
  by_cases e11 : q.1 = 11
  · obtain ⟨l1, a, cell, m1, m2, m3, m4⟩ := zk_ms11 h e11
    have ha : a < H.size := (Array.getElem?_eq_some_iff.mp m3).1
    obtain ⟨q1, q2, q3, q4⟩ := q
    have e11 : q1 = 11 := e11
    subst e11
    exact zk_ms11i ⟨l1, a, cell, m1, by rw [hG a ha]; exact m2, by rw [hH a ha]; exact m3, m4⟩
  by_cases e : q.1 = 6
  · obtain ⟨l1, l2, l3, a, cell, i, m1, m2, m3, m4, m5⟩ := zk_ms6 h e
    have ha : a < H.size := (Array.getElem?_eq_some_iff.mp m3).1
    obtain ⟨q1, q2, q3, q4⟩ := q
    have e : q1 = 6 := e
    subst e
    exact zk_ms6i ⟨l1, l2, l3, a, cell, i, m1, by rw [hG a ha]; exact m2, by rw [hH a ha]; exact m3, m4, m5⟩
  · exact zk_ms_gh h e e11
theorem zk_F_ev {KT : List zk_K} (hk : zk_kt KT) {D : zk_D} {E : List (Nat × Nat)} {G G' : Nat → Nat} {H H' : Heap} {v : Nat → Value} {s : zk_S} {keep : Bool} (h : zk_F KT D G H v s) (he : zk_ev KT D E G H G' H') (hz : keep = true → H'.size = H.size) : zk_F KT D G' H' v (zk_ex KT E s keep) := by
  obtain ⟨n, loc, stk, tys, rel, fld, len, pf, msc, la⟩ := s
  obtain ⟨h1, h2, h3, h4, h5, h6, h7⟩ := h
  have hty : ∀ y, zk_tv G (v y) (zk_lk tys y) := fun y => zk_lk_ok (x := y) fun q hq => (h1 q hq).2
  refine ⟨fun q hq => ?_, h2, fun q hq => ?_, fun q hq => ?_, fun q hq => ?_, fun q hq => ?_, fun x hx => ?_⟩
  · obtain ⟨m, c⟩ := List.mem_filter.mp hq
    refine ⟨(h1 q m).1, zk_tv_ev he (h1 q m).2 fun e => ?_⟩
    cases z : zk_me E q.2.2.1.toNat 1000
    · rfl
    · rw [z, e] at c; simp at c
  · obtain ⟨m, c⟩ := List.mem_filter.mp hq
    obtain ⟨a1, a2, a3⟩ := h3 q m
    obtain ⟨c, c3⟩ := Bool.and_eq_true_iff.mp c
    obtain ⟨c1, c2⟩ := Bool.and_eq_true_iff.mp c
    exact ⟨a1, a2, zk_fl_ev hk he a3 (hty q.1) (Nat.eq_of_beq_eq_true c1) (by simpa using c2) c3⟩
  · obtain ⟨a1, a2, a3⟩ := h4 q hq
    exact ⟨a1, a2, zk_ln_ev hk he a3⟩
  · obtain ⟨a1, a2, a3⟩ := h5 q hq
    exact ⟨a1, a2, zk_pf_ev hk he a3⟩
  · obtain ⟨m, c⟩ := List.mem_filter.mp hq
    have c6 := h6 q m
    by_cases e11 : q.1 = 11
    · unfold zk_exm at c
      rw [e11] at c
      have c : (Nat.beq (zk_lk tys q.2.1).1 2 && !(Nat.beq (zk_kd KT (zk_lk tys q.2.1).2.1.toNat).1 0) && !(zk_wr KT E (zk_lk tys q.2.1).2.1.toNat 0)) = true := c
      obtain ⟨l1, a, cell, e1, e2, e3, e5⟩ := zk_ms11 c6 e11
      obtain ⟨c, d3⟩ := Bool.and_eq_true_iff.mp c
      obtain ⟨d1, d2⟩ := Bool.and_eq_true_iff.mp c
      have hga := zk_ref_ty (hty q.2.1) (Nat.eq_of_beq_eq_true d1) e1
      rw [hga] at d2 d3
      obtain ⟨c', q', w1⟩ := he.2.2.2 a cell e2 e3
      have hs : (zk_kd KT (G a)).1 ≠ 0 := fun z => by rw [z] at d2; exact absurd d2 (by decide)
      have hw : zk_wr KT E (G a) 0 = false := by simpa using d3
      obtain ⟨z1, -⟩ := zk_sort_ev hk he e2
      obtain ⟨q1, q2, q3, q4⟩ := q
      have e11 : q1 = 11 := e11
      subst e11
      exact zk_ms11i ⟨l1, a, c', e1, z1, q', by rw [(w1.2.2 hs).1 hw]; exact e5⟩
    by_cases e6 : q.1 = 6
    · unfold zk_exm at c
      rw [e6] at c
      have c : (Nat.beq (zk_lk tys q.2.1).1 2 && !(Nat.beq (zk_kd KT (zk_lk tys q.2.1).2.1.toNat).1 0) && !(zk_wr KT E (zk_lk tys q.2.1).2.1.toNat 0)) = true := c
      obtain ⟨l1, l2, l3, a, cell, i, e1, e2, e3, e4, e5⟩ := zk_ms6 c6 e6
      obtain ⟨c, d3⟩ := Bool.and_eq_true_iff.mp c
      obtain ⟨d1, d2⟩ := Bool.and_eq_true_iff.mp c
      have hga := zk_ref_ty (hty q.2.1) (Nat.eq_of_beq_eq_true d1) e1
      rw [hga] at d2 d3
      obtain ⟨c', q', w1⟩ := he.2.2.2 a cell e2 e3
      have hs : (zk_kd KT (G a)).1 ≠ 0 := fun z => by rw [z] at d2; exact absurd d2 (by decide)
      have hw : zk_wr KT E (G a) 0 = false := by simpa using d3
      obtain ⟨z1, -⟩ := zk_sort_ev hk he e2
      obtain ⟨q1, q2, q3, q4⟩ := q
      have e6 : q1 = 6 := e6
      subst e6
      exact zk_ms6i ⟨l1, l2, l3, a, c', i, e1, z1, q', e4, by rw [(w1.2.2 hs).1 hw]; exact e5⟩
    · exact zk_ms_gh c6 e6 e11
  · cases keep with
    | false => simp at hx
    | true =>
      obtain ⟨a1, a, e, z⟩ := h7 x hx
      exact ⟨a1, a, e, (hz rfl).trans z⟩
theorem zk_LS_ex {KT : List zk_K} {E : List (Nat × Nat)} {keep : Bool} {n0 : Nat} {v0 : Nat → Value} {nL : Nat} {ls : Array Slot} {vs : List Value} {v : Nat → Value} {s : zk_S}
    (h : zk_LS n0 v0 nL ls vs v s) : zk_LS n0 v0 nL ls vs v (zk_ex KT E s keep) := by
  obtain ⟨n, loc, stk, rest⟩ := s
  exact h
end
