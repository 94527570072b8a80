/-! ENGINE, 4: one write, one new cell, one cell that becomes what it was made for -/
noncomputable section
def zk_dj (KT : List zk_K) (D : zk_D) : Prop := ∀ k x y, (zk_kd KT k).1 = 0 → x < (zk_kd KT k).2.2.1.length → y < (zk_kd KT k).2.2.1.length → x ≠ y → zk_sl KT D k x ≠ zk_sl KT D k y
theorem zk_me_1 {k f k' f' : Nat} : zk_me [(k, f)] k' f' = true ↔ k' = k ∧ f' = f := by
  simp only [zk_me_eq, List.any_cons, List.any_nil, Bool.or_false, Bool.and_eq_true]
  constructor
  · intro h; exact ⟨(Nat.eq_of_beq_eq_true h.1).symm, (Nat.eq_of_beq_eq_true h.2).symm⟩
  · intro h; rw [h.1, h.2]; exact ⟨Nat.beq_refl _, Nat.beq_refl _⟩
theorem zk_wr_1 {KT : List zk_K} {k f : Nat} : zk_wr KT [(k, f)] k f = true := by
  unfold zk_wr; rw [zk_me_1.mpr ⟨rfl, rfl⟩]; rfl
theorem zk_lt_len {α : Type} {l : List α} {i : Nat} {t : α} (h : l[i]? = some t) : i < l.length := (List.getElem?_eq_some_iff.mp h).1
theorem zk_size_set (cell : Cell) (i : Nat) (w : Value) : (cell.setSlot i w).slots.size = cell.slots.size := by simp [Cell.setSlot]
/-- a field of an object -/
theorem zk_hp_put {KT : List zk_K} {D : zk_D} {base : Nat} {Hb H H' : Heap} {G : Nat → Nat} (hdj : zk_dj KT D) (hp : zk_hp KT D base Hb G H) {a f : Nat} {cell : Cell} {t : zk_T} {w : Value} (hg : G a ≠ 0) (hs : (zk_kd KT (G a)).1 = 0) (hro : (zk_kd KT (G a)).2.2.2.2.2.2.2 = 0)
    (hc : H[a]? = some cell) (ht : (zk_kd KT (G a)).2.2.1[f]? = some t) (hw : zk_ct G a w t)
    (hinv : ∀ q ∈ (zk_kd KT (G a)).2.2.2.2.2.1, q.2.1 ≠ f ∧ q.2.1 < (zk_kd KT (G a)).2.2.1.length ∧ q.2.2 < (zk_kd KT (G a)).2.2.1.length ∧ (q.2.2 = f → ∃ (b : Nat) (cb : Cell) (z : Int32), w = .int z ∧ cell.slots[zk_sl KT D (G a) q.2.1]? = some (.ref b) ∧ H[b]? = some cb ∧
      (q.1 = 0 → ∀ j : Nat, (j : Int) < z.toInt → cb.slots[j]? ≠ some .null) ∧ (q.1 ≠ 0 → z.toInt ≤ (cb.slots.size : Int))))
    (h1 : H'[a]? = some (cell.setSlot (zk_sl KT D (G a) f) w)) (h2 : H'.size = H.size) (h3 : ∀ q : Nat, q ≠ a → H'[q]? = H[q]?) :
    zk_hp KT D base Hb G H' ∧ zk_ev KT D [(G a, f)] G H G H' ∧ zk_fl KT D G H' (.ref a) f w ∧ base ≤ a := by
  obtain ⟨p1, p2, p3⟩ := hp
  obtain ⟨b0, cell0, e0, ok0, inv0⟩ := p3 a hg
  obtain rfl : cell = cell0 := Option.some.inj (hc.symm.trans e0)
  have hba := b0.1 hro
  have hfl := zk_lt_len ht
  obtain ⟨ok1, ok2, ok3⟩ := ok0
  have hsl : ∀ g, g < (zk_kd KT (G a)).2.2.1.length → g ≠ f → (cell.setSlot (zk_sl KT D (G a) f) w).slots[zk_sl KT D (G a) g]? = cell.slots[zk_sl KT D (G a) g]? :=
    fun g hg2 hne => slot_ne _ _ (hdj _ _ _ hs hfl hg2 (Ne.symm hne))
  have hself : (cell.setSlot (zk_sl KT D (G a) f) w).slots[zk_sl KT D (G a) f]? = some w := by
    obtain ⟨w0, q0, -⟩ := (ok2 hs).2 f t ht
    exact Cell.slots_setSlot_self _ (k2_hasslot q0)
  have hother : ∀ (b : Nat) (cb : Cell), G b ≠ 0 → (zk_kd KT (G b)).1 ≠ 0 → H[b]? = some cb → H'[b]? = some cb := by
    intro b cb hb1 hb2 hb3
    rw [h3 b (fun e => hb2 (by rw [e]; exact hs))]; exact hb3
  refine ⟨⟨⟨by rw [h2]; exact p1.1, p1.2⟩, fun q hq => by rw [h3 q (by omega)]; exact p2 q hq, fun x hx => ?_⟩, ⟨Nat.le_of_eq h2.symm, fun x hx hgx => ⟨hgx, h3 x (fun e => hg (by rw [← e]; exact hgx))⟩, fun _ _ => Or.inl rfl, fun x cx hx hcx => ?_⟩, zk_fl_mk ⟨a, _, rfl, hg, hs, hfl, h1, hself⟩, hba⟩
  · by_cases hxa : x = a
    · subst hxa
      refine ⟨b0, _, h1, ⟨ok1, fun s => ⟨(ok2 s).1, fun g tg hg2 => ?_⟩, fun s => absurd hs s⟩, fun q hq => ?_⟩
      · by_cases hgf : g = f
        · subst hgf
          exact ⟨w, hself, by rw [ht] at hg2; cases hg2; exact hw⟩
        · obtain ⟨w0, q0, q1⟩ := (ok2 s).2 g tg hg2
          exact ⟨w0, by rw [hsl g (zk_lt_len hg2) hgf]; exact q0, q1⟩
      · obtain ⟨n1, n2, n3, n4⟩ := hinv q hq
        obtain ⟨b, cb, z, i1, i2, i3, i4, i5, i6, i7⟩ := inv0 q hq
        by_cases hqf : q.2.2 = f
        · obtain ⟨b', cb', z', j1, j2, j3, j4, j5⟩ := n4 hqf
          rw [i1] at j2; cases j2
          rw [i5] at j3; cases j3
          exact ⟨b, cb, z', by rw [hsl _ n2 n1]; exact i1, by rw [hqf, hself, j1], i3, i4, hother b cb i3 i4 i5, j4, j5⟩
        · exact ⟨b, cb, z, by rw [hsl _ n2 n1]; exact i1, by rw [hsl _ n3 hqf]; exact i2, i3, i4, hother b cb i3 i4 i5, i6, i7⟩
    · obtain ⟨bx, cx, ex, okx, invx⟩ := p3 x hx
      refine ⟨bx, cx, by rw [h3 x hxa]; exact ex, okx, fun q hq => ?_⟩
      obtain ⟨b, cb, z, i1, i2, i3, i4, i5, i6⟩ := invx q hq
      exact ⟨b, cb, z, i1, i2, i3, i4, hother b cb i3 i4 i5, i6⟩
  · by_cases hxa : x = a
    · subst hxa
      obtain rfl : cell = cx := Option.some.inj (hc.symm.trans hcx)
      refine ⟨_, h1, zk_size_set _ _ _, fun s g hg2 hwr => hsl g hg2 (fun e => ?_), fun s => absurd hs s⟩
      rw [e, zk_wr_1] at hwr; exact absurd hwr (by simp)
    · exact ⟨cx, by rw [h3 x hxa]; exact hcx, zk_ec_rf⟩
/-- an element of an array -/
theorem zk_hp_arr {KT : List zk_K} {D : zk_D} {base : Nat} {Hb H H' : Heap} {G : Nat → Nat} (hp : zk_hp KT D base Hb G H) {a i : Nat} {cell : Cell} {t : zk_T} {w : Value} (hg : G a ≠ 0) (hs : (zk_kd KT (G a)).1 ≠ 0) (hro : (zk_kd KT (G a)).2.2.2.2.2.2.2 = 0)
    (hnoinv : (zk_kd KT (G a)).2.2.2.2.2.1 = []) (hc : H[a]? = some cell) (ht : (zk_kd KT (G a)).2.2.1[0]? = some t) (hi : i < cell.slots.size) (hw : zk_ct G a w t) (hnn : w ≠ .null)
    (h1 : H'[a]? = some (cell.setSlot i w)) (h2 : H'.size = H.size) (h3 : ∀ q : Nat, q ≠ a → H'[q]? = H[q]?) :
    zk_hp KT D base Hb G H' ∧ zk_ev KT D [(G a, 0)] G H G H' ∧ base ≤ a ∧ ∀ z : Int, (∀ j : Nat, (j : Int) < z → cell.slots[j]? ≠ some .null) → (z = (i : Int)) → zk_pf KT G H' (.ref a) (z + 1) := by
  obtain ⟨p1, p2, p3⟩ := hp
  obtain ⟨b0, cell0, e0, ok0, inv0⟩ := p3 a hg
  obtain rfl : cell = cell0 := Option.some.inj (hc.symm.trans e0)
  have hba := b0.1 hro
  obtain ⟨ok1, ok2, ok3⟩ := ok0
  have hself : (cell.setSlot i w).slots[i]? = some w := Cell.slots_setSlot_self _ hi
  have hmono : ∀ j : Nat, cell.slots[j]? ≠ some .null → (cell.setSlot i w).slots[j]? ≠ some .null := by
    intro j hj
    by_cases e : i = j
    · subst e; rw [hself]; intro q; exact hnn (Option.some.inj q)
    · rw [slot_ne _ _ e]; exact hj
  have harr : ∀ (b : Nat) (cb : Cell), H[b]? = some cb → ∃ cb', H'[b]? = some cb' ∧ cb'.slots.size = cb.slots.size ∧ ∀ j : Nat, cb.slots[j]? ≠ some .null → cb'.slots[j]? ≠ some .null := by
    intro b cb hb
    by_cases e : b = a
    · subst e
      obtain rfl : cell = cb := Option.some.inj (hc.symm.trans hb)
      exact ⟨_, h1, zk_size_set _ _ _, hmono⟩
    · exact ⟨cb, by rw [h3 b e]; exact hb, rfl, fun _ h => h⟩
  refine ⟨⟨⟨by rw [h2]; exact p1.1, p1.2⟩, fun q hq => by rw [h3 q (by omega)]; exact p2 q hq, fun x hx => ?_⟩, ⟨Nat.le_of_eq h2.symm, fun x hx hgx => ⟨hgx, h3 x (fun e => hg (by rw [← e]; exact hgx))⟩, fun _ _ => Or.inl rfl, fun x cx hx hcx => ?_⟩, hba, fun z hz hzi => ⟨a, _, rfl, hg, hs, h1, fun j hj => ?_⟩⟩
  · have hinv : ∀ (k : Nat) (cx : Cell), (∀ q ∈ (zk_kd KT k).2.2.2.2.2.1, zk_in KT D G H k cx q) → ∀ q ∈ (zk_kd KT k).2.2.2.2.2.1, zk_in KT D G H' k cx q := by
      intro k cx h q hq
      obtain ⟨b, cb, z, i1, i2, i3, i4, i5, i6, i7⟩ := h q hq
      obtain ⟨cb', r1, r2, r3⟩ := harr b cb i5
      exact ⟨b, cb', z, i1, i2, i3, i4, r1, fun e j hj => r3 j (i6 e j hj), fun e => by rw [r2]; exact i7 e⟩
    by_cases hxa : x = a
    · subst hxa
      refine ⟨b0, _, h1, ⟨ok1, fun s => absurd s hs, fun s => ⟨(ok3 s).1, by rw [zk_size_set]; exact (ok3 s).2.1, by rw [zk_size_set]; exact (ok3 s).2.2.1, fun tg htg j w' hj => ?_⟩⟩, fun q hq => ?_⟩
      · by_cases e : i = j
        · subst e
          rw [hself] at hj; cases hj
          rw [ht] at htg; cases htg
          exact hw
        · rw [slot_ne _ _ e] at hj
          exact (ok3 s).2.2.2 tg htg j w' hj
      · rw [hnoinv] at hq; exact absurd hq List.not_mem_nil
    · obtain ⟨bx, cx, ex, okx, invx⟩ := p3 x hx
      exact ⟨bx, cx, by rw [h3 x hxa]; exact ex, okx, hinv _ _ invx⟩
  · by_cases hxa : x = a
    · subst hxa
      obtain rfl : cell = cx := Option.some.inj (hc.symm.trans hcx)
      refine ⟨_, h1, zk_size_set _ _ _, fun s => absurd s hs, fun s => ⟨fun hwr => ?_, hmono⟩⟩
      rw [zk_wr_1] at hwr; exact absurd hwr (by simp)
    · exact ⟨cx, by rw [h3 x hxa]; exact hcx, zk_ec_rf⟩
  · by_cases e : i = j
    · subst e; rw [hself]; intro q; exact hnn (Option.some.inj q)
    · rw [slot_ne _ _ e]; exact hz j (by omega)
def zk_un (G : Nat → Nat) (a k : Nat) : Nat → Nat := fun x => if x = a then k else G x
theorem zk_un_at (G : Nat → Nat) (a k : Nat) : zk_un G a k a = k := if_pos rfl
theorem zk_un_ne {G : Nat → Nat} {a k x : Nat} (h : x ≠ a) : zk_un G a k x = G x := if_neg h
theorem zk_tv_up {G G' : Nat → Nat} (hG : ∀ b, G b ≠ 0 → G' b = G b) {w : Value} {t : zk_T} (h : zk_tv G w t) : zk_tv G' w t := by
  unfold zk_tv at h ⊢
  by_cases e0 : t.1 = 0
  · rw [if_pos e0] at h ⊢; exact h
  · rw [if_neg e0] at h ⊢
    by_cases e1 : t.1 = 1
    · rw [if_pos e1] at h ⊢; exact h
    · rw [if_neg e1] at h ⊢
      by_cases e2 : t.1 = 2
      · rw [if_pos e2] at h ⊢
        rcases h with ⟨a, q1, q2, q3⟩ | q
        · exact Or.inl ⟨a, q1, by rw [hG a q3]; exact q2, by rw [hG a q3]; exact q3⟩
        · exact Or.inr q
      · rw [if_neg e2]; trivial
theorem zk_hp_lt {KT : List zk_K} {D : zk_D} {base : Nat} {Hb H : Heap} {G : Nat → Nat} (hp : zk_hp KT D base Hb G H) {a : Nat} (hg : G a ≠ 0) : a < H.size := by
  obtain ⟨-, cell, e, -⟩ := hp.2.2 a hg
  exact (Array.getElem?_eq_some_iff.mp e).1
/-- a new cell -/
theorem zk_hp_new {KT : List zk_K} (hz0 : ¬ (zk_kd KT 0).2.2.2.2.2.2.2 = 1) {D : zk_D} {base : Nat} {Hb H H' : Heap} {G : Nat → Nat} (hp : zk_hp KT D base Hb G H) {h k : Nat} {cell : Cell} (hh : H.size = h) (hk : k ≠ 0) (hrk : (zk_kd KT k).2.2.2.2.2.2.2 = 0) (hi : (zk_kd KT k).2.2.2.2.2.1 = [])
    (hok : zk_oc KT D (zk_un G h k) k h cell) (h1 : H'[h]? = some cell) (h2 : H'.size = h + 1) (h3 : ∀ q : Nat, q < h → H'[q]? = H[q]?) :
    zk_hp KT D base Hb (zk_un G h k) H' ∧ zk_ev KT D [] G H (zk_un G h k) H' ∧ G h = 0 := by
  have hG0 : G h = 0 := by
    rcases Nat.eq_zero_or_pos (G h) with e | e
    · exact e
    · have := zk_hp_lt hp (a := h) (by omega); omega
  have hG : ∀ b, G b ≠ 0 → zk_un G h k b = G b := fun b hb => zk_un_ne fun e => hb (by rw [e]; exact hG0)
  have hct : ∀ (a : Nat) (w : Value) (t : zk_T), zk_ct G a w t → zk_ct (zk_un G h k) a w t := fun a w t q => ⟨zk_tv_up hG q.1, q.2⟩
  obtain ⟨p1, p2, p3⟩ := hp
  refine ⟨⟨⟨by have := p1.1; omega, fun k1 hk1 => ?_, p1.2.2⟩, fun q hq => by rw [h3 q (by have := p1.1; omega)]; exact p2 q hq, fun x hx => ?_⟩, ⟨by omega, fun x hx hgx => ⟨by rw [zk_un_ne (by omega)]; exact hgx, h3 x (by omega)⟩, fun x hx => Or.inl (hG x hx), fun x cx hx hcx => ?_⟩, hG0⟩
  · have hk1' := p1.2.1 k1 hk1
    by_cases e : k1 = 0
    · by_cases e2 : D.2.2.2.1 k1 = h
      · exact absurd hk1 (by rw [e]; exact hz0)
      · rw [zk_un_ne e2]; exact hk1'
    · rw [zk_un_ne (fun e2 => e (by rw [← hk1', e2]; exact hG0))]; exact hk1'
  · by_cases hxh : x = h
    · subst hxh
      rw [zk_un_at]
      exact ⟨⟨fun _ => by have := p1.1; omega, fun e => by omega⟩, cell, h1, hok, fun q hq => by rw [hi] at hq; exact absurd hq List.not_mem_nil⟩
    · rw [zk_un_ne hxh] at hx ⊢
      obtain ⟨bx, cx, ex, okx, invx⟩ := p3 x hx
      have hlt : x < H.size := (Array.getElem?_eq_some_iff.mp ex).1
      refine ⟨bx, cx, by rw [h3 x (by omega)]; exact ex, ⟨okx.1, fun s => ⟨(okx.2.1 s).1, fun f t ht => ?_⟩, fun s => ⟨(okx.2.2 s).1, (okx.2.2 s).2.1, (okx.2.2 s).2.2.1, fun t ht j w hj => hct _ _ _ ((okx.2.2 s).2.2.2 t ht j w hj)⟩⟩, fun q hq => ?_⟩
      · obtain ⟨w, q1, q2⟩ := (okx.2.1 s).2 f t ht
        exact ⟨w, q1, hct _ _ _ q2⟩
      · obtain ⟨b, cb, z, i1, i2, i3, i4, i5, i6⟩ := invx q hq
        have hb : b < H.size := (Array.getElem?_eq_some_iff.mp i5).1
        exact ⟨b, cb, z, i1, i2, by rw [hG b i3]; exact i3, by rw [hG b i3]; exact i4, by rw [h3 b (by omega)]; exact i5, i6⟩
  · have hlt : x < H.size := (Array.getElem?_eq_some_iff.mp hcx).1
    exact ⟨cx, by rw [h3 x (by omega)]; exact hcx, zk_ec_rf⟩
/-- a cell becomes what it was made for -/
theorem zk_hp_rt {KT : List zk_K} (hkt : zk_kt KT) {D : zk_D} {base : Nat} {Hb H : Heap} {G : Nat → Nat} (hp : zk_hp KT D base Hb G H) {a : Nat} {cell : Cell} (hg : G a ≠ 0) (hne : zk_fin KT (G a) ≠ G a) (hf0 : zk_fin KT (G a) ≠ 0) (hro : (zk_kd KT (G a)).2.2.2.2.2.2.2 = 0) (hc : H[a]? = some cell)
    (hok : zk_oc KT D G (zk_fin KT (G a)) a cell) (hinv : ∀ q ∈ (zk_kd KT (zk_fin KT (G a))).2.2.2.2.2.1, zk_in KT D G H (zk_fin KT (G a)) cell q) :
    zk_hp KT D base Hb (zk_un G a (zk_fin KT (G a))) H ∧ zk_ev KT D [(G a, 1000)] G H (zk_un G a (zk_fin KT (G a))) H := by
  have hct : ∀ (k x : Nat) (w : Value) (t : zk_T), t ∈ (zk_kd KT k).2.2.1 → zk_ct G x w t → zk_ct (zk_un G a (zk_fin KT (G a))) x w t := by
    intro k x w t htm q
    refine ⟨?_, q.2⟩
    have q1 := q.1
    unfold zk_tv at q1 ⊢
    by_cases e0 : t.1 = 0
    · rw [if_pos e0] at q1 ⊢; exact q1
    · rw [if_neg e0] at q1 ⊢
      by_cases e1 : t.1 = 1
      · rw [if_pos e1] at q1 ⊢; exact q1
      · rw [if_neg e1] at q1 ⊢
        by_cases e2 : t.1 = 2
        · rw [if_pos e2] at q1 ⊢
          rcases q1 with ⟨y, r1, r2, r3⟩ | r
          · have hya : y ≠ a := by
              intro e
              subst e
              have := (hkt.2 k).2.2.2.2.2 t htm e2
              rw [← r2, show ((G y : Int)).toNat = G y from Int.toNat_natCast _] at this
              exact hne this
            exact Or.inl ⟨y, r1, by rw [zk_un_ne hya]; exact ⟨r2, r3⟩⟩
          · exact Or.inr r
        · rw [if_neg e2]; trivial
  have hsort : ∀ b : Nat, G b ≠ 0 → zk_un G a (zk_fin KT (G a)) b ≠ 0 ∧ (zk_kd KT (zk_un G a (zk_fin KT (G a)) b)).1 = (zk_kd KT (G b)).1 := by
    intro b hb
    by_cases e : b = a
    · subst e; rw [zk_un_at]; exact ⟨hf0, (hkt.2 _).1⟩
    · rw [zk_un_ne e]; exact ⟨hb, rfl⟩
  have hin : ∀ (k : Nat) (cx : Cell) (q : Nat × Nat × Nat), zk_in KT D G H k cx q → zk_in KT D (zk_un G a (zk_fin KT (G a))) H k cx q := by
    rintro k cx q ⟨b, cb, z, i1, i2, i3, i4, i5, i6⟩
    exact ⟨b, cb, z, i1, i2, (hsort b i3).1, by rw [(hsort b i3).2]; exact i4, i5, i6⟩
  have hoc : ∀ (k x : Nat) (cx : Cell), zk_oc KT D G k x cx → zk_oc KT D (zk_un G a (zk_fin KT (G a))) k x cx := by
    intro k x cx okx
    refine ⟨okx.1, fun s => ⟨(okx.2.1 s).1, fun f t ht => ?_⟩, fun s => ⟨(okx.2.2 s).1, (okx.2.2 s).2.1, (okx.2.2 s).2.2.1, fun t ht j w hj => hct k _ _ _ (List.mem_of_getElem? ht) ((okx.2.2 s).2.2.2 t ht j w hj)⟩⟩
    obtain ⟨w, q1, q2⟩ := (okx.2.1 s).2 f t ht
    exact ⟨w, q1, hct k _ _ _ (List.mem_of_getElem? ht) q2⟩
  obtain ⟨p1, p2, p3⟩ := hp
  refine ⟨⟨⟨p1.1, fun k1 hk1 => ?_, p1.2.2⟩, p2, fun x hx => ?_⟩, ⟨Nat.le_refl _, fun x hx hgx => ⟨by rw [zk_un_ne (fun e => hg (by rw [← e]; exact hgx))]; exact hgx, rfl⟩, fun x hx => ?_, fun x cx hx hcx => ⟨cx, hcx, zk_ec_rf⟩⟩⟩
  · have hk1' := p1.2.1 k1 hk1
    rw [zk_un_ne (fun e2 => by rw [e2] at hk1'; rw [← hk1'] at hk1; omega)]; exact hk1'
  · by_cases hxa : x = a
    · subst hxa
      obtain ⟨bx, -⟩ := p3 x hg
      rw [zk_un_at]
      exact ⟨⟨fun e => bx.1 (by rw [← (hkt.2 _).2.2.2.2.1]; exact e), fun e => by have := (hkt.2 (G x)).2.2.2.2.1; omega⟩, cell, hc, hoc _ _ _ hok, fun q hq => hin _ _ _ (hinv q hq)⟩
    · rw [zk_un_ne hxa] at hx ⊢
      obtain ⟨bx, cx, ex, okx, invx⟩ := p3 x hx
      exact ⟨bx, cx, ex, hoc _ _ _ okx, fun q hq => hin _ _ _ (invx q hq)⟩
  · by_cases hxa : x = a
    · subst hxa
      rw [zk_un_at]
      exact Or.inr ⟨zk_me_1.mpr ⟨rfl, rfl⟩, rfl, hf0⟩
    · rw [zk_un_ne hxa]; exact Or.inl rfl
end
