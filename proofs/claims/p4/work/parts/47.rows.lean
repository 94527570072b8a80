/-! ROWS, 1: of the net and of the model -/
noncomputable section
/-- the net n: its count of houses, its row -/
def zr_N (D : zk_D) (G : Nat → Nat) (H : Heap) (n : Nat) (k : Int32) (r : Nat) (ca : Cell) : Prop :=
  G n = 4 ∧ ∃ cn : Cell, (H[n]? = some cn ∧ cn.cls = D.1 4 ∧ zk_vk cn) ∧ cn.slots[D.2.1 4 6]? = some (.int k) ∧ cn.slots[D.2.1 4 1]? = some (.ref r) ∧ (G r = 7 ∧ H[r]? = some ca ∧ ca.slots.size = 12) ∧ 0 ≤ k.toInt ∧ k.toInt ≤ 12
def zr_M (D : zk_D) (G : Nat → Nat) (H : Heap) (n : Nat) (k : Int32) (r : Nat) (ca : Cell) : Prop :=
  G n = 57 ∧ ∃ cn : Cell, (H[n]? = some cn ∧ cn.cls = D.1 12 ∧ zk_vk cn) ∧ cn.slots[D.2.1 12 6]? = some (.int k) ∧ cn.slots[D.2.1 12 2]? = some (.ref r) ∧ (G r = 60 ∧ H[r]? = some ca ∧ ca.slots.size = 144) ∧ 0 ≤ k.toInt ∧ k.toInt ≤ 12
def zr_U (D : zk_D) (H : Heap) (o n : Nat) : Prop := ∃ cu : Cell, (H[o]? = some cu ∧ cu.cls = D.1 11 ∧ zk_vk cu) ∧ cu.slots[D.2.1 11 0]? = some (.ref n)
theorem zr_sz {n : Nat} {k : Int} (h1 : k ≤ (n : Int)) (h2 : (n : Int) ≤ k) : (n : Int) = k := by omega
section ZRA
variable {D : zk_D} {base : Nat} {Hb : Heap} {G : Nat → Nat} {H : Heap}
theorem zr_N_of (hp : zk_hp qK D base Hb G H) {n : Nat} (hg : G n = 4) : ∃ k r ca, zr_N D G H n k r ca := by
  obtain ⟨-, cn, h1, h2, -⟩ := hp.2.2 n (by rw [hg]; decide)
  have hc := (h2.2.1 (by rw [hg]; decide +kernel)).1
  rw [hg] at hc
  have hc : cn.cls = D.1 4 := hc
  obtain ⟨w, w1, w2⟩ := zq_fld (k := 4) (ci := 4) (f := 6) hp (by decide) (by decide +kernel) (by decide +kernel) hg h1 (by decide +kernel : (zk_kd qK 4).2.2.1[6]? = some (0, 0, 12))
  obtain ⟨k, rfl, k0, k1⟩ := zk_gi w2 rfl
  have k0 : 0 ≤ k.toInt := k0
  have k1 : k.toInt ≤ 12 := k1
  obtain ⟨u, u1, u2⟩ := zq_fld (k := 4) (ci := 4) (f := 1) hp (by decide) (by decide +kernel) (by decide +kernel) hg h1 (by decide +kernel : (zk_kd qK 4).2.2.1[1]? = some (2, 7, 0))
  obtain ⟨r, rfl, r1, -⟩ := zk_gr u2 rfl rfl
  have r1 : G r = 7 := r1
  obtain ⟨-, ca, a1, a2, -⟩ := hp.2.2 r (by rw [r1]; decide)
  obtain ⟨-, s1, s2, -⟩ := a2.2.2 (by rw [r1]; decide +kernel)
  rw [r1] at s1 s2
  have s3 := zr_sz (k := 12) s1 s2
  exact ⟨k, r, ca, hg, cn, ⟨h1, hc, h2.1.1⟩, w1, u1, ⟨r1, a1, by omega⟩, k0, k1⟩
theorem zr_M_of (hp : zk_hp qK D base Hb G H) {n : Nat} (hg : G n = 57) : ∃ k r ca, zr_M D G H n k r ca := by
  obtain ⟨-, cn, h1, h2, -⟩ := hp.2.2 n (by rw [hg]; decide)
  have hc := (h2.2.1 (by rw [hg]; decide +kernel)).1
  rw [hg] at hc
  have hc : cn.cls = D.1 12 := hc
  obtain ⟨w, w1, w2⟩ := zq_fld (k := 57) (ci := 12) (f := 6) hp (by decide) (by decide +kernel) (by decide +kernel) hg h1 (by decide +kernel : (zk_kd qK 57).2.2.1[6]? = some (0, 0, 12))
  obtain ⟨k, rfl, k0, k1⟩ := zk_gi w2 rfl
  have k0 : 0 ≤ k.toInt := k0
  have k1 : k.toInt ≤ 12 := k1
  obtain ⟨u, u1, u2⟩ := zq_fld (k := 57) (ci := 12) (f := 2) hp (by decide) (by decide +kernel) (by decide +kernel) hg h1 (by decide +kernel : (zk_kd qK 57).2.2.1[2]? = some (2, 60, 0))
  obtain ⟨r, rfl, r1, -⟩ := zk_gr u2 rfl rfl
  have r1 : G r = 60 := r1
  obtain ⟨-, ca, a1, a2, -⟩ := hp.2.2 r (by rw [r1]; decide)
  obtain ⟨-, s1, s2, -⟩ := a2.2.2 (by rw [r1]; decide +kernel)
  rw [r1] at s1 s2
  have s3 := zr_sz (k := 144) s1 s2
  exact ⟨k, r, ca, hg, cn, ⟨h1, hc, h2.1.1⟩, w1, u1, ⟨r1, a1, by omega⟩, k0, k1⟩
theorem zr_U_of (hp : zk_hp qK D base Hb G H) {o : Nat} (hg : G o = 2) : ∃ n, zr_U D H o n ∧ G n = 4 := by
  obtain ⟨-, cn, h1, h2, -⟩ := hp.2.2 o (by rw [hg]; decide)
  have hc := (h2.2.1 (by rw [hg]; decide +kernel)).1
  rw [hg] at hc
  have hc : cn.cls = D.1 11 := hc
  obtain ⟨u, u1, u2⟩ := zq_fld (k := 2) (ci := 11) (f := 0) hp (by decide) (by decide +kernel) (by decide +kernel) hg h1 (by decide +kernel : (zk_kd qK 2).2.2.1[0]? = some (2, 4, 0))
  obtain ⟨r, rfl, r1, -⟩ := zk_gr u2 rfl rfl
  have r1 : G r = 4 := r1
  exact ⟨r, ⟨cn, ⟨h1, hc, h2.1.1⟩, u1⟩, r1⟩
/-- another heap that differs at one place of another kind -/
theorem zr_N_ne {H1 : Heap} {n r q : Nat} {k : Int32} {ca : Cell} (h : zr_N D G H n k r ca) (hq : G q ≠ 4) (hq2 : G q ≠ 7) (ho : ∀ x : Nat, x ≠ q → H1[x]? = H[x]?) : zr_N D G H1 n k r ca := by
  obtain ⟨h0, cn, ⟨h1, h2, h3⟩, h4, h5, ⟨h6, h7, h8⟩, h9⟩ := h
  exact ⟨h0, cn, ⟨by rw [ho n (fun z => hq (by rw [← z]; exact h0))]; exact h1, h2, h3⟩, h4, h5, ⟨h6, by rw [ho r (fun z => hq2 (by rw [← z]; exact h6))]; exact h7, h8⟩, h9⟩
theorem zr_M_ne {H1 : Heap} {n r q : Nat} {k : Int32} {ca : Cell} (h : zr_M D G H n k r ca) (hq : G q ≠ 57) (hq2 : G q ≠ 60) (ho : ∀ x : Nat, x ≠ q → H1[x]? = H[x]?) : zr_M D G H1 n k r ca := by
  obtain ⟨h0, cn, ⟨h1, h2, h3⟩, h4, h5, ⟨h6, h7, h8⟩, h9⟩ := h
  exact ⟨h0, cn, ⟨by rw [ho n (fun z => hq (by rw [← z]; exact h0))]; exact h1, h2, h3⟩, h4, h5, ⟨h6, by rw [ho r (fun z => hq2 (by rw [← z]; exact h6))]; exact h7, h8⟩, h9⟩
end ZRA
/-- what stands at i -/
def zr_e (ca : Cell) (i : Nat) : Int32 := match ca.slots[i]? with | some (.int q) => q | _ => 0
theorem zr_e_of {ca : Cell} {i : Nat} {q : Int32} (h : ca.slots[i]? = some (.int q)) : zr_e ca i = q := by unfold zr_e; rw [h]
theorem zr_rB : zq_zow qK 60 := ⟨by decide, by decide +kernel, by decide +kernel, by decide +kernel, by decide +kernel, by decide +kernel⟩
/-- a row of booleans: what stands there -/
theorem zr_zel {D : zk_D} {base : Nat} {Hb : Heap} {G : Nat → Nat} {H : Heap} {k b : Nat} {cb : Cell} (hp : zk_hp qK D base Hb G H) (hk : zq_zow qK k) (hg : G b = k) (hc : H[b]? = some cb) {j : Nat} (hj : j < cb.slots.size) : cb.slots[j]? = some (.int (zr_e cb j)) ∧ (zr_e cb j = 0 ∨ zr_e cb j = 1) := by
  obtain ⟨k1, k2, k3, k4, k5, k6⟩ := hk
  obtain ⟨-, cb', r1, r2, -⟩ := hp.2.2 b (by rw [hg]; exact k1)
  rw [hc] at r1; cases r1
  have h := (r2.2.2 (by rw [hg]; exact k2)).2.2.2 _ (by rw [hg]; exact k6) j _ (Array.getElem?_eq_getElem hj)
  obtain ⟨q, q1, q2, q3⟩ := zk_gi h.1 rfl
  have q2 : 0 ≤ q.toInt := q2
  have q3 : q.toInt ≤ 1 := q3
  have e : cb.slots[j]? = some (.int q) := by rw [Array.getElem?_eq_getElem hj, q1]
  rw [zr_e_of e]
  refine ⟨e, ?_⟩
  rcases (show q.toInt = 0 ∨ q.toInt = 1 by omega) with z | z
  · exact Or.inl (Int32.toInt_inj.mp z)
  · exact Or.inr (Int32.toInt_inj.mp z)
section ZRB
variable {p : Program} {l : Launch} {e : Env} {R : Room} {s : State} {m : MethodId} {args : Array Value} {below : List Frame} {meth : Method} {c : Code} {Q : State → Prop} {D : zk_D} {base : Nat} {Hb : Heap} {cc : ByteArray}
variable {cells slots pc : Nat} {ls : Array Slot} {rv : List Value}
theorem zr_zld (hx : p.tables.exec = Jvm.exec) (hb : c.code = cc) (hAT : ArrOfT s (D.2.2.1 2) .boolean) {k b : Nat} {cb : Cell} {i : Int32} {G : Nat → Nat} {H : Heap} {locs : List Loc} (hp : zk_hp qK D base Hb G H) (hk : zq_zow qK k) (hg : G b = k) (hc : H[b]? = some cb) (h0 : 0 ≤ i.toInt) (h1 : i.toInt < cb.slots.size) (d : decode cc pc = .ok (.baload, 1))
    (kk : W p l e R s m args below meth c H locs cells slots Q (F0 m (pc + 1) ls (.int (zr_e cb i.toNatClampNeg) :: rv))) : W p l e R s m args below meth c H locs cells slots Q (F0 m pc ls (.int i :: .ref b :: rv)) := by
  have hn := zq_nc h0
  have hq := (zr_zel hp hk hg hc (j := i.toNatClampNeg) (by omega)).1
  obtain ⟨k1, k2, k3, k4, k5, k6⟩ := hk
  obtain ⟨-, cb', r1, r2, -⟩ := hp.2.2 b (by rw [hg]; exact k1)
  rw [hc] at r1; cases r1
  obtain ⟨a1, -, -, -⟩ := r2.2.2 (by rw [hg]; exact k2)
  rw [hg, k3] at a1
  exact W.zald hx hb hc (zk_isa hAT a1 r2.1.1) (zk_unk r2.1.1) (zq_ix h0 h1) hq rfl rfl d kk
theorem zr_ild (hx : p.tables.exec = Jvm.exec) (hb : c.code = cc) (hAT : ArrOfT s (D.2.2.1 0) .int) {k b : Nat} {cb : Cell} {i : Int32} {G : Nat → Nat} {H : Heap} {locs : List Loc} (hp : zk_hp qK D base Hb G H) (hk : zq_row qK k) (hg : G b = k) (hc : H[b]? = some cb) (h0 : 0 ≤ i.toInt) (h1 : i.toInt < cb.slots.size) (d : decode cc pc = .ok (.iaload, 1))
    (kk : W p l e R s m args below meth c H locs cells slots Q (F0 m (pc + 1) ls (.int (zr_e cb i.toNatClampNeg) :: rv))) : W p l e R s m args below meth c H locs cells slots Q (F0 m pc ls (.int i :: .ref b :: rv)) :=
  zq_ild hx hb hAT hp hk hg hc h0 h1 d (fun q t q1 _ _ _ => by rw [← zr_e_of q1]; exact kk)
end ZRB
def zf_hh (h k : Int32) : Int32 := if 0 ≤ h.toInt ∧ h.toInt < k.toInt then 1 else 0
theorem zr_hhp {h k : Int32} (c : ¬ zf_hh h k = 0) : 0 ≤ h.toInt ∧ h.toInt < k.toInt := by
  unfold zf_hh at c
  split at c
  · assumption
  · exact absurd rfl c
theorem zr_hhn {h k : Int32} (c : zf_hh h k = 0) : ¬ (0 ≤ h.toInt ∧ h.toInt < k.toInt) := by
  unfold zf_hh at c
  split at c
  · exact absurd c (by decide)
  · assumption
theorem zq_N5_ev {D : zk_D} {G : Nat → Nat} {H : Heap} {a : Nat} {w : Value} {E : List (Nat × Nat)} {G' : Nat → Nat} {H' : Heap} (hu : zk_gu qK E 1005 = true) (he : zk_ev qK D E G H G' H') {ca cb : Cell} (h : zq_N5 D.2.1 G H a w ca cb) : ∃ ca' cb', zq_N5 D.2.1 G' H' a w ca' cb' ∧ ca'.slots = ca.slots ∧ cb'.slots = cb.slots := by
  obtain ⟨cn, cm, b, r1, r2, h1, h2, h3, h4, h5, h6, h7, h8, h9, h10, h11⟩ := h
  obtain ⟨w1, m1⟩ := zq_gu hu (show (1005, 7, 0) ∈ (zk_kd qK 0).2.2.2.2.2.1 by decide +kernel)
  obtain ⟨w2, m2⟩ := zq_gu hu (show (1005, 60, 0) ∈ (zk_kd qK 0).2.2.2.2.2.1 by decide +kernel)
  obtain ⟨w3, m3⟩ := zq_gu hu (show (1005, 4, 1) ∈ (zk_kd qK 0).2.2.2.2.2.1 by decide +kernel)
  obtain ⟨w4, m4⟩ := zq_gu hu (show (1005, 57, 2) ∈ (zk_kd qK 0).2.2.2.2.2.1 by decide +kernel)
  obtain ⟨e1, cn', e2, e3⟩ := zq_obj he h2 (by decide) (by decide +kernel) h3 m3
  obtain ⟨e4, cm', e5, e6⟩ := zq_obj he h7 (by decide) (by decide +kernel) h8 m4
  obtain ⟨e7, ca', e8, e9⟩ := zq_arr he h5 (by decide) (by decide +kernel) h6 w1 m1
  obtain ⟨e10, cb', e11, e12⟩ := zq_arr he h10 (by decide) (by decide +kernel) h11 w2 m2
  have q3 : cn'.slots[D.2.1 4 1]? = cn.slots[D.2.1 4 1]? := e3 1 (by decide +kernel) w3
  have q6 : cm'.slots[D.2.1 12 2]? = cm.slots[D.2.1 12 2]? := e6 2 (by decide +kernel) w4
  exact ⟨ca', cb', ⟨cn', cm', b, r1, r2, h1, e1, e2, by rw [q3]; exact h4, e7, e8, e4, e5, by rw [q6]; exact h9, e10, e11⟩, e9, e12⟩
theorem zq_mk5 {D : zk_D} {G : Nat → Nat} {H : Heap} {a : Nat} {w : Value} {kM kS kC kT kP kA : Nat} (hA : zq_all qK D kM kS kC kT kP kA) (h : zq_1005 D.2.1 G H a w) : zk_gh qK D G H a 1005 w := fun E G' H' hu he => by
  rw [hA.2.2.2.2]
  obtain ⟨ca, cb, h1, h2⟩ := h
  obtain ⟨ca', cb', i1, i2, i3⟩ := zq_N5_ev hu he h1
  show zq_1005 D.2.1 G' H' a w
  exact ⟨ca', cb', i1, zr_rel_slots i2 i3 h2⟩
theorem zq_at5 {D : zk_D} {G : Nat → Nat} {H : Heap} {a : Nat} {w : Value} {kM kS kC kT kP kA : Nat} (hA : zq_all qK D kM kS kC kT kP kA) (h : zk_gh qK D G H a 1005 w) : zq_1005 D.2.1 G H a w := by
  have h := zk_gh_at h; rw [hA.2.2.2.2] at h; exact h
theorem zr_rA : zq_row qK 7 := zq_rI _ (by decide) (by decide +kernel)
/-- the ghost's rows are those that stand there -/
theorem zr_rel_of {D : zk_D} {G : Nat → Nat} {H : Heap} {n mo r r' : Nat} {k k' : Int32} {ca cb : Cell} (h : zq_1005 D.2.1 G H n (.ref mo)) (hN : zr_N D G H n k r ca) (hM : zr_M D G H mo k' r' cb) : zr_rel ca cb := by
  obtain ⟨ca1, cb1, ⟨cn, cm, b, r1, r2, h1, h2, h3, h4, h5, h6, h7, h8, h9, h10, h11⟩, hr⟩ := h
  cases h1
  obtain ⟨-, cn2, ⟨i1, -, -⟩, -, i4, ⟨-, i5, -⟩, -⟩ := hN
  obtain ⟨-, cm2, ⟨j1, -, -⟩, -, j4, ⟨-, j5, -⟩, -⟩ := hM
  rw [h3] at i1; cases i1
  rw [h8] at j1; cases j1
  rw [h4] at i4; cases i4
  rw [h9] at j4; cases j4
  rw [h6] at i5; cases i5
  rw [h11] at j5; cases j5
  exact hr
theorem zr_1005_mk {D : zk_D} {G : Nat → Nat} {H : Heap} {n mo r r' : Nat} {k k' : Int32} {ca cb : Cell} (hN : zr_N D G H n k r ca) (hM : zr_M D G H mo k' r' cb) (h : zr_rel ca cb) : zq_1005 D.2.1 G H n (.ref mo) := by
  obtain ⟨i0, cn2, ⟨i1, -, -⟩, -, i4, ⟨i5, i6, -⟩, -⟩ := hN
  obtain ⟨j0, cm2, ⟨j1, -, -⟩, -, j4, ⟨j5, j6, -⟩, -⟩ := hM
  exact ⟨ca, cb, ⟨cn2, cm2, mo, r, r', rfl, i0, i1, i4, i5, i6, j0, j1, j4, j5, j6⟩, h⟩
def zf_jn (x b : Int32) : Int32 := if ((x >>> (b &&& 31)) &&& 1) = 0 then 0 else 1
def zr_cU (a b k : Int32) (ca : Cell) : Prop := (0 ≤ a.toInt ∧ a.toInt < k.toInt) ∧ (0 ≤ b.toInt ∧ b.toInt < k.toInt) ∧ a ≠ b ∧ zf_jn (zr_e ca a.toNatClampNeg) b = 0
def zr_cM (a b k : Int32) (cb : Cell) : Prop := (0 ≤ a.toInt ∧ a.toInt < k.toInt) ∧ (0 ≤ b.toInt ∧ b.toInt < k.toInt) ∧ a ≠ b ∧ zr_e cb (12 * a + b).toNatClampNeg = 0
def zr_aU (a b : Int32) (ca : Cell) : Cell := (ca.setSlot a.toNatClampNeg (.int (zr_e ca a.toNatClampNeg ||| ((1 : Int32) <<< (b &&& 31))))).setSlot b.toNatClampNeg (.int (zr_e ca b.toNatClampNeg ||| ((1 : Int32) <<< (a &&& 31))))
def zr_aM (a b : Int32) (cb : Cell) : Cell := (cb.setSlot (12 * a + b).toNatClampNeg (.int 1)).setSlot (12 * b + a).toNatClampNeg (.int 1)
theorem zr_nI {a : Int32} (h : 0 ≤ a.toInt) : a = nI a.toNatClampNeg := by
  apply Int32.toInt_inj.mp
  have hr := zk_rng a
  rw [nI_toInt (by rw [Int32.toNatClampNeg]; omega), zq_nc h]
theorem zr_lt {a k : Int32} (h : 0 ≤ a.toInt ∧ a.toInt < k.toInt) (hk : k.toInt ≤ 12) : 0 ≤ a.toInt ∧ a.toInt < 12 ∧ a.toNatClampNeg < 12 := by
  have := zq_nc h.1
  omega
theorem zr_ne {a b : Int32} (ha : 0 ≤ a.toInt) (hb : 0 ≤ b.toInt) (h : a ≠ b) : a.toNatClampNeg ≠ b.toNatClampNeg := fun z => h (by rw [zr_nI ha, zr_nI hb, z])
theorem zr_12 {a b : Int32} (ha : 0 ≤ a.toInt ∧ a.toInt < 12) (hb : 0 ≤ b.toInt ∧ b.toInt < 12) : 0 ≤ (12 * a + b).toInt ∧ (12 * a + b).toInt < 144 ∧ (12 * a + b).toNatClampNeg = 12 * a.toNatClampNeg + b.toNatClampNeg := by
  have e1 : (12 * a).toInt = 12 * a.toInt := by
    rw [Int32.toInt_mul, show (12 : Int32).toInt = 12 from rfl]
    exact Int.bmod_eq_of_le (by omega) (by omega)
  have e2 : (12 * a + b).toInt = 12 * a.toInt + b.toInt := by
    rw [Int32.toInt_add, e1]
    exact Int.bmod_eq_of_le (by omega) (by omega)
  have h1 := zq_nc ha.1
  have h2 := zq_nc hb.1
  have h3 := zq_nc (i := 12 * a + b) (by omega)
  omega
theorem zr_el {ca cb : Cell} (h : zr_rel ca cb) {A B : Nat} (hA : A < 12) (hB : B < 12) : ca.slots[A]? = some (.int (zr_e ca A)) ∧ zr_e cb (12 * A + B) = (if bt (zr_e ca A) B = true then 1 else 0) := by
  obtain ⟨x, x1, x2⟩ := h A B hA hB
  rw [zr_e_of x1, zr_e_of x2]
  exact ⟨x1, rfl⟩
theorem zr_iff {ca cb : Cell} (h : zr_rel ca cb) {a b k : Int32} (hk : k.toInt ≤ 12) : zr_cU a b k ca ↔ zr_cM a b k cb := by
  unfold zr_cU zr_cM
  refine and_congr_right fun ha => and_congr_right fun hb => and_congr_right fun hne => ?_
  obtain ⟨a0, a1, a2⟩ := zr_lt ha hk
  obtain ⟨b0, b1, b2⟩ := zr_lt hb hk
  rw [(zr_12 ⟨a0, a1⟩ ⟨b0, b1⟩).2.2, (zr_el h a2 b2).2]
  unfold zf_jn
  rw [zr_nI b0, show (nI b.toNatClampNeg).toNatClampNeg = b.toNatClampNeg by rw [← zr_nI b0]]
  have hb := zr_bit (x := zr_e ca a.toNatClampNeg) b2
  cases hbt : bt (zr_e ca a.toNatClampNeg) b.toNatClampNeg
  · rw [hbt] at hb
    rw [if_pos (hb.mpr rfl), if_neg (by decide)]
  · rw [hbt] at hb
    rw [if_neg (fun z => by have := hb.mp z; cases this), if_pos rfl]
theorem zr_rel_aa {ca cb : Cell} (h : zr_rel ca cb) {a b k : Int32} (hk : k.toInt ≤ 12) (hc : zr_cU a b k ca) (sa : ca.slots.size = 12) (sb : cb.slots.size = 144) : zr_rel (zr_aU a b ca) (zr_aM a b cb) := by
  obtain ⟨ha, hb, hne, -⟩ := hc
  obtain ⟨a0, a1, a2⟩ := zr_lt ha hk
  obtain ⟨b0, b1, b2⟩ := zr_lt hb hk
  have key := zr_rel_set h a2 b2 (zr_ne a0 b0 hne) (zr_el h a2 a2).1 (zr_el h b2 b2).1 sa sb
  rw [← zr_nI a0, ← zr_nI b0] at key
  unfold zr_aU zr_aM
  rw [(zr_12 ⟨a0, a1⟩ ⟨b0, b1⟩).2.2, (zr_12 ⟨b0, b1⟩ ⟨a0, a1⟩).2.2]
  exact key
theorem zr_aU_sz {a b : Int32} {ca : Cell} : (zr_aU a b ca).slots.size = ca.slots.size := by unfold zr_aU; rw [k2_slotsz, k2_slotsz]
theorem zr_aM_sz {a b : Int32} {cb : Cell} : (zr_aM a b cb).slots.size = cb.slots.size := by unfold zr_aM; rw [k2_slotsz, k2_slotsz]
theorem zr_N_set {D : zk_D} {G : Nat → Nat} {H H1 : Heap} {n r : Nat} {k : Int32} {ca ca1 : Cell} (h : zr_N D G H n k r ca) (h1 : H1[n]? = H[n]?) (h2 : H1[r]? = some ca1) (hs : ca1.slots.size = 12) : zr_N D G H1 n k r ca1 := by
  obtain ⟨i0, cn, ⟨i1, i2, i3⟩, i4, i5, ⟨i6, -, -⟩, i9⟩ := h
  exact ⟨i0, cn, ⟨by rw [h1]; exact i1, i2, i3⟩, i4, i5, ⟨i6, h2, hs⟩, i9⟩
theorem zr_M_set {D : zk_D} {G : Nat → Nat} {H H1 : Heap} {n r : Nat} {k : Int32} {ca ca1 : Cell} (h : zr_M D G H n k r ca) (h1 : H1[n]? = H[n]?) (h2 : H1[r]? = some ca1) (hs : ca1.slots.size = 144) : zr_M D G H1 n k r ca1 := by
  obtain ⟨i0, cn, ⟨i1, i2, i3⟩, i4, i5, ⟨i6, -, -⟩, i9⟩ := h
  exact ⟨i0, cn, ⟨by rw [h1]; exact i1, i2, i3⟩, i4, i5, ⟨i6, h2, hs⟩, i9⟩
end
