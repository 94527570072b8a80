/-! ROWS, 1: of the net and of the model -/
noncomputable section
/-- the net n: its count of houses, its row -/
def zr_N (D : zk_D) (G : Nat → Nat) (H : Heap) (n : Nat) (k : Int32) (r : Nat) (ca : Cell) : Prop :=
  G n = 4 ∧ ∃ cn : Cell, (H[n]? = some cn ∧ cn.cls = D.1 4 ∧ zk_vk cn) ∧ cn.slots[D.2.1 4 6]? = some (.int k) ∧ cn.slots[D.2.1 4 0]? = some (.ref r) ∧ (G r = 6 ∧ H[r]? = some ca ∧ ca.slots.size = 12) ∧ 0 ≤ k.toInt ∧ k.toInt ≤ 12
def zr_M (D : zk_D) (G : Nat → Nat) (H : Heap) (n : Nat) (k : Int32) (r : Nat) (ca : Cell) : Prop :=
  G n = 57 ∧ ∃ cn : Cell, (H[n]? = some cn ∧ cn.cls = D.1 12 ∧ zk_vk cn) ∧ cn.slots[D.2.1 12 6]? = some (.int k) ∧ cn.slots[D.2.1 12 1]? = some (.ref r) ∧ (G r = 59 ∧ H[r]? = some ca ∧ ca.slots.size = 12) ∧ 0 ≤ k.toInt ∧ k.toInt ≤ 12
def zr_U (D : zk_D) (H : Heap) (o n : Nat) : Prop := ∃ cu : Cell, (H[o]? = some cu ∧ cu.cls = D.1 11 ∧ zk_vk cu) ∧ cu.slots[D.2.1 11 0]? = some (.ref n)
theorem zr_sz {n : Nat} {k : Int} (h1 : k ≤ (n : Int)) (h2 : (n : Int) ≤ k) : (n : Int) = k := by omega
section ZRA
variable {D : zk_D} {base : Nat} {Hb : Heap} {G : Nat → Nat} {H : Heap}
theorem zr_N_of (hp : zk_hp qK D base Hb G H) {n : Nat} (hg : G n = 4) : ∃ k r ca, zr_N D G H n k r ca := by
  obtain ⟨-, cn, h1, h2, -⟩ := hp.2.2 n (by rw [hg]; decide)
  have hc := (h2.2.1 (by rw [hg]; decide +kernel)).1
  rw [hg] at hc
  have hc : cn.cls = D.1 4 := hc
  obtain ⟨w, w1, w2⟩ := zq_fld (k := 4) (ci := 4) (f := 6) hp (by decide) (by decide +kernel) (by decide +kernel) hg h1 (by decide +kernel : (zk_kd qK 4).2.2.1[6]? = some (0, 0, 12))
  obtain ⟨k, rfl, k0, k1⟩ := zk_gi w2 rfl
  have k0 : 0 ≤ k.toInt := k0
  have k1 : k.toInt ≤ 12 := k1
  obtain ⟨u, u1, u2⟩ := zq_fld (k := 4) (ci := 4) (f := 0) hp (by decide) (by decide +kernel) (by decide +kernel) hg h1 (by decide +kernel : (zk_kd qK 4).2.2.1[0]? = some (2, 6, 0))
  obtain ⟨r, rfl, r1, -⟩ := zk_gr u2 rfl rfl
  have r1 : G r = 6 := r1
  obtain ⟨-, ca, a1, a2, -⟩ := hp.2.2 r (by rw [r1]; decide)
  obtain ⟨-, s1, s2, -⟩ := a2.2.2 (by rw [r1]; decide +kernel)
  rw [r1] at s1 s2
  have s3 := zr_sz (k := 12) s1 s2
  exact ⟨k, r, ca, hg, cn, ⟨h1, hc, h2.1.1⟩, w1, u1, ⟨r1, a1, by omega⟩, k0, k1⟩
theorem zr_M_of (hp : zk_hp qK D base Hb G H) {n : Nat} (hg : G n = 57) : ∃ k r ca, zr_M D G H n k r ca := by
  obtain ⟨-, cn, h1, h2, -⟩ := hp.2.2 n (by rw [hg]; decide)
  have hc := (h2.2.1 (by rw [hg]; decide +kernel)).1
  rw [hg] at hc
  have hc : cn.cls = D.1 12 := hc
  obtain ⟨w, w1, w2⟩ := zq_fld (k := 57) (ci := 12) (f := 6) hp (by decide) (by decide +kernel) (by decide +kernel) hg h1 (by decide +kernel : (zk_kd qK 57).2.2.1[6]? = some (0, 0, 12))
  obtain ⟨k, rfl, k0, k1⟩ := zk_gi w2 rfl
  have k0 : 0 ≤ k.toInt := k0
  have k1 : k.toInt ≤ 12 := k1
  obtain ⟨u, u1, u2⟩ := zq_fld (k := 57) (ci := 12) (f := 1) hp (by decide) (by decide +kernel) (by decide +kernel) hg h1 (by decide +kernel : (zk_kd qK 57).2.2.1[1]? = some (2, 59, 0))
  obtain ⟨r, rfl, r1, -⟩ := zk_gr u2 rfl rfl
  have r1 : G r = 59 := r1
  obtain ⟨-, ca, a1, a2, -⟩ := hp.2.2 r (by rw [r1]; decide)
  obtain ⟨-, s1, s2, -⟩ := a2.2.2 (by rw [r1]; decide +kernel)
  rw [r1] at s1 s2
  have s3 := zr_sz (k := 12) s1 s2
  exact ⟨k, r, ca, hg, cn, ⟨h1, hc, h2.1.1⟩, w1, u1, ⟨r1, a1, by omega⟩, k0, k1⟩
theorem zr_U_of (hp : zk_hp qK D base Hb G H) {o : Nat} (hg : G o = 2) : ∃ n, zr_U D H o n ∧ G n = 4 := by
  obtain ⟨-, cn, h1, h2, -⟩ := hp.2.2 o (by rw [hg]; decide)
  have hc := (h2.2.1 (by rw [hg]; decide +kernel)).1
  rw [hg] at hc
  have hc : cn.cls = D.1 11 := hc
  obtain ⟨u, u1, u2⟩ := zq_fld (k := 2) (ci := 11) (f := 0) hp (by decide) (by decide +kernel) (by decide +kernel) hg h1 (by decide +kernel : (zk_kd qK 2).2.2.1[0]? = some (2, 4, 0))
  obtain ⟨r, rfl, r1, -⟩ := zk_gr u2 rfl rfl
  have r1 : G r = 4 := r1
  exact ⟨r, ⟨cn, ⟨h1, hc, h2.1.1⟩, u1⟩, r1⟩
/-- another heap that differs at one place of another kind -/
theorem zr_N_ne {H1 : Heap} {n r q : Nat} {k : Int32} {ca : Cell} (h : zr_N D G H n k r ca) (hq : G q ≠ 4) (hq2 : G q ≠ 6) (ho : ∀ x : Nat, x ≠ q → H1[x]? = H[x]?) : zr_N D G H1 n k r ca := by
  obtain ⟨h0, cn, ⟨h1, h2, h3⟩, h4, h5, ⟨h6, h7, h8⟩, h9⟩ := h
  exact ⟨h0, cn, ⟨by rw [ho n (fun z => hq (by rw [← z]; exact h0))]; exact h1, h2, h3⟩, h4, h5, ⟨h6, by rw [ho r (fun z => hq2 (by rw [← z]; exact h6))]; exact h7, h8⟩, h9⟩
theorem zr_M_ne {H1 : Heap} {n r q : Nat} {k : Int32} {ca : Cell} (h : zr_M D G H n k r ca) (hq : G q ≠ 57) (hq2 : G q ≠ 59) (ho : ∀ x : Nat, x ≠ q → H1[x]? = H[x]?) : zr_M D G H1 n k r ca := by
  obtain ⟨h0, cn, ⟨h1, h2, h3⟩, h4, h5, ⟨h6, h7, h8⟩, h9⟩ := h
  exact ⟨h0, cn, ⟨by rw [ho n (fun z => hq (by rw [← z]; exact h0))]; exact h1, h2, h3⟩, h4, h5, ⟨h6, by rw [ho r (fun z => hq2 (by rw [← z]; exact h6))]; exact h7, h8⟩, h9⟩
end ZRA
/-- what stands at i -/
def zr_e (ca : Cell) (i : Nat) : Int32 := match ca.slots[i]? with | some (.int q) => q | _ => 0
theorem zr_e_of {ca : Cell} {i : Nat} {q : Int32} (h : ca.slots[i]? = some (.int q)) : zr_e ca i = q := by unfold zr_e; rw [h]
theorem zr_rB : zq_zow qK 59 := ⟨by decide, by decide +kernel, by decide +kernel, by decide +kernel, by decide +kernel, by decide +kernel⟩
/-- a row of booleans: what stands there -/
theorem zr_zel {D : zk_D} {base : Nat} {Hb : Heap} {G : Nat → Nat} {H : Heap} {k b : Nat} {cb : Cell} (hp : zk_hp qK D base Hb G H) (hk : zq_zow qK k) (hg : G b = k) (hc : H[b]? = some cb) {j : Nat} (hj : j < cb.slots.size) : cb.slots[j]? = some (.int (zr_e cb j)) ∧ (zr_e cb j = 0 ∨ zr_e cb j = 1) := by
  obtain ⟨k1, k2, k3, k4, k5, k6⟩ := hk
  obtain ⟨-, cb', r1, r2, -⟩ := hp.2.2 b (by rw [hg]; exact k1)
  rw [hc] at r1; cases r1
  have h := (r2.2.2 (by rw [hg]; exact k2)).2.2.2 (0, 0, 1) (by rw [hg]; exact k6) j _ (Array.getElem?_eq_getElem hj)
  obtain ⟨q, q1, q2, q3⟩ := zk_gi h.1 rfl
  have q2 : 0 ≤ q.toInt := q2
  have q3 : q.toInt ≤ 1 := q3
  have e : cb.slots[j]? = some (.int q) := by rw [Array.getElem?_eq_getElem hj, q1]
  rw [zr_e_of e]
  refine ⟨e, ?_⟩
  rcases (show q.toInt = 0 ∨ q.toInt = 1 by omega) with z | z
  · exact Or.inl (Int32.toInt_inj.mp z)
  · exact Or.inr (Int32.toInt_inj.mp z)
section ZRB
variable {p : Program} {l : Launch} {e : Env} {R : Room} {s : State} {m : MethodId} {args : Array Value} {below : List Frame} {meth : Method} {c : Code} {Q : State → Prop} {D : zk_D} {base : Nat} {Hb : Heap} {cc : ByteArray}
variable {cells slots pc : Nat} {ls : Array Slot} {rv : List Value}
theorem zr_zld (hx : p.tables.exec = Jvm.exec) (hb : c.code = cc) (hAT : ArrOfT s (D.2.2.1 2) .boolean) {k b : Nat} {cb : Cell} {i : Int32} {G : Nat → Nat} {H : Heap} {locs : List Loc} (hp : zk_hp qK D base Hb G H) (hk : zq_zow qK k) (hg : G b = k) (hc : H[b]? = some cb) (h0 : 0 ≤ i.toInt) (h1 : i.toInt < cb.slots.size) (d : decode cc pc = .ok (.baload, 1))
    (kk : W p l e R s m args below meth c H locs cells slots Q (F0 m (pc + 1) ls (.int (zr_e cb i.toNatClampNeg) :: rv))) : W p l e R s m args below meth c H locs cells slots Q (F0 m pc ls (.int i :: .ref b :: rv)) := by
  have hn := zq_nc h0
  have hq := (zr_zel hp hk hg hc (j := i.toNatClampNeg) (by omega)).1
  obtain ⟨k1, k2, k3, k4, k5, k6⟩ := hk
  obtain ⟨-, cb', r1, r2, -⟩ := hp.2.2 b (by rw [hg]; exact k1)
  rw [hc] at r1; cases r1
  obtain ⟨a1, -, -, -⟩ := r2.2.2 (by rw [hg]; exact k2)
  rw [hg, k3] at a1
  exact W.zald hx hb hc (zk_isa hAT a1 r2.1.1) (zk_unk r2.1.1) (zq_ix h0 h1) hq rfl rfl d kk
theorem zr_ild (hx : p.tables.exec = Jvm.exec) (hb : c.code = cc) (hAT : ArrOfT s (D.2.2.1 0) .int) {k b : Nat} {cb : Cell} {i : Int32} {G : Nat → Nat} {H : Heap} {locs : List Loc} (hp : zk_hp qK D base Hb G H) (hk : zq_row qK k) (hg : G b = k) (hc : H[b]? = some cb) (h0 : 0 ≤ i.toInt) (h1 : i.toInt < cb.slots.size) (d : decode cc pc = .ok (.iaload, 1))
    (kk : W p l e R s m args below meth c H locs cells slots Q (F0 m (pc + 1) ls (.int (zr_e cb i.toNatClampNeg) :: rv))) : W p l e R s m args below meth c H locs cells slots Q (F0 m pc ls (.int i :: .ref b :: rv)) :=
  zq_ild hx hb hAT hp hk hg hc h0 h1 d (fun q t q1 _ _ _ => by rw [← zr_e_of q1]; exact kk)
end ZRB
def zf_hh (h k : Int32) : Int32 := if 0 ≤ h.toInt ∧ h.toInt < k.toInt then 1 else 0
theorem zr_hhp {h k : Int32} (c : ¬ zf_hh h k = 0) : 0 ≤ h.toInt ∧ h.toInt < k.toInt := by
  unfold zf_hh at c
  split at c
  · assumption
  · exact absurd rfl c
theorem zr_hhn {h k : Int32} (c : zf_hh h k = 0) : ¬ (0 ≤ h.toInt ∧ h.toInt < k.toInt) := by
  unfold zf_hh at c
  split at c
  · exact absurd c (by decide)
  · assumption
theorem zq_N5_ev {D : zk_D} {G : Nat → Nat} {H : Heap} {a : Nat} {w : Value} {E : List (Nat × Nat)} {G' : Nat → Nat} {H' : Heap} (hu : zk_gu qK E 1005 = true) (he : zk_ev qK D E G H G' H') {ca cb : Cell} {n : Int32} (h : zq_N5 D.2.1 G H a w ca cb n) : ∃ ca' cb', zq_N5 D.2.1 G' H' a w ca' cb' n ∧ ca'.slots = ca.slots ∧ cb'.slots = cb.slots := by
  obtain ⟨cn, cm, b, r1, r2, h1, ⟨h2, h3, h3b⟩, h4, h5, h6, h7, h8, h9, h10, h11⟩ := h
  obtain ⟨w1, m1⟩ := zq_gu hu (show (1005, 6, 0) ∈ (zk_kd qK 0).2.2.2.2.2.1 by decide +kernel)
  obtain ⟨w2, m2⟩ := zq_gu hu (show (1005, 59, 0) ∈ (zk_kd qK 0).2.2.2.2.2.1 by decide +kernel)
  obtain ⟨w3, m3⟩ := zq_gu hu (show (1005, 4, 0) ∈ (zk_kd qK 0).2.2.2.2.2.1 by decide +kernel)
  obtain ⟨w4, m4⟩ := zq_gu hu (show (1005, 57, 1) ∈ (zk_kd qK 0).2.2.2.2.2.1 by decide +kernel)
  obtain ⟨w5, -⟩ := zq_gu hu (show (1005, 4, 6) ∈ (zk_kd qK 0).2.2.2.2.2.1 by decide +kernel)
  obtain ⟨e1, cn', e2, e3⟩ := zq_obj he h2 (by decide) (by decide +kernel) h3 m3
  obtain ⟨e4, cm', e5, e6⟩ := zq_obj he h7 (by decide) (by decide +kernel) h8 m4
  obtain ⟨e7, ca', e8, e9⟩ := zq_arr he h5 (by decide) (by decide +kernel) h6 w1 m1
  obtain ⟨e10, cb', e11, e12⟩ := zq_arr he h10 (by decide) (by decide +kernel) h11 w2 m2
  have q3 : cn'.slots[D.2.1 4 0]? = cn.slots[D.2.1 4 0]? := e3 0 (by decide +kernel) w3
  have q4 : cn'.slots[D.2.1 4 6]? = cn.slots[D.2.1 4 6]? := e3 6 (by decide +kernel) w5
  have q6 : cm'.slots[D.2.1 12 1]? = cm.slots[D.2.1 12 1]? := e6 1 (by decide +kernel) w4
  exact ⟨ca', cb', ⟨cn', cm', b, r1, r2, h1, ⟨e1, e2, by rw [q4]; exact h3b⟩, by rw [q3]; exact h4, e7, e8, e4, e5, by rw [q6]; exact h9, e10, e11⟩, e9, e12⟩
theorem zq_mk5 {D : zk_D} {G : Nat → Nat} {H : Heap} {a : Nat} {w : Value} {kM kS kC kT kP kA : Nat} (hA : zq_all qK D kM kS kC kT kP kA) (h : zq_1005 D.2.1 G H a w) : zk_gh qK D G H a 1005 w := fun E G' H' hu he => by
  rw [hA.2.2.2.2]
  obtain ⟨ca, cb, n, h1, h2⟩ := h
  obtain ⟨ca', cb', i1, i2, i3⟩ := zq_N5_ev hu he h1
  show zq_1005 D.2.1 G' H' a w
  exact ⟨ca', cb', n, i1, zr_rel_slots i2 i3 h2⟩
theorem zq_at5 {D : zk_D} {G : Nat → Nat} {H : Heap} {a : Nat} {w : Value} {kM kS kC kT kP kA : Nat} (hA : zq_all qK D kM kS kC kT kP kA) (h : zk_gh qK D G H a 1005 w) : zq_1005 D.2.1 G H a w := by
  have h := zk_gh_at h; rw [hA.2.2.2.2] at h; exact h
theorem zr_rA : zq_zow qK 6 := ⟨by decide, by decide +kernel, by decide +kernel, by decide +kernel, by decide +kernel, by decide +kernel⟩
/-- the ghost's rows are those that stand there -/
theorem zr_rel_of {D : zk_D} {G : Nat → Nat} {H : Heap} {n mo r r' : Nat} {k k' : Int32} {ca cb : Cell} (h : zq_1005 D.2.1 G H n (.ref mo)) (hN : zr_N D G H n k r ca) (hM : zr_M D G H mo k' r' cb) : zr_rel ca cb k := by
  obtain ⟨ca1, cb1, n1, ⟨cn, cm, b, r1, r2, h1, ⟨h2, h3, h3b⟩, h4, h5, h6, h7, h8, h9, h10, h11⟩, hr⟩ := h
  cases h1
  obtain ⟨-, cn2, ⟨i1, -, -⟩, i3, i4, ⟨-, i5, -⟩, -⟩ := hN
  obtain ⟨-, cm2, ⟨j1, -, -⟩, -, j4, ⟨-, j5, -⟩, -⟩ := hM
  rw [h3] at i1; cases i1
  rw [h8] at j1; cases j1
  rw [h3b] at i3; cases i3
  rw [h4] at i4; cases i4
  rw [h9] at j4; cases j4
  rw [h6] at i5; cases i5
  rw [h11] at j5; cases j5
  exact hr
theorem zr_1005_mk {D : zk_D} {G : Nat → Nat} {H : Heap} {n mo r r' : Nat} {k k' : Int32} {ca cb : Cell} (hN : zr_N D G H n k r ca) (hM : zr_M D G H mo k' r' cb) (h : zr_rel ca cb k) : zq_1005 D.2.1 G H n (.ref mo) := by
  obtain ⟨i0, cn2, ⟨i1, -, -⟩, i3, i4, ⟨i5, i6, -⟩, -⟩ := hN
  obtain ⟨j0, cm2, ⟨j1, -, -⟩, -, j4, ⟨j5, j6, -⟩, -⟩ := hM
  exact ⟨ca, cb, k, ⟨cn2, cm2, mo, r, r', rfl, ⟨i0, i1, i3⟩, i4, i5, i6, j0, j1, j4, j5, j6⟩, h⟩
theorem zr_N_set {D : zk_D} {G : Nat → Nat} {H H1 : Heap} {n r : Nat} {k : Int32} {ca ca1 : Cell} (h : zr_N D G H n k r ca) (h1 : H1[n]? = H[n]?) (h2 : H1[r]? = some ca1) (hs : ca1.slots.size = 12) : zr_N D G H1 n k r ca1 := by
  obtain ⟨i0, cn, ⟨i1, i2, i3⟩, i4, i5, ⟨i6, -, -⟩, i9⟩ := h
  exact ⟨i0, cn, ⟨by rw [h1]; exact i1, i2, i3⟩, i4, i5, ⟨i6, h2, hs⟩, i9⟩
theorem zr_M_set {D : zk_D} {G : Nat → Nat} {H H1 : Heap} {n r : Nat} {k : Int32} {ca ca1 : Cell} (h : zr_M D G H n k r ca) (h1 : H1[n]? = H[n]?) (h2 : H1[r]? = some ca1) (hs : ca1.slots.size = 12) : zr_M D G H1 n k r ca1 := by
  obtain ⟨i0, cn, ⟨i1, i2, i3⟩, i4, i5, ⟨i6, -, -⟩, i9⟩ := h
  exact ⟨i0, cn, ⟨by rw [h1]; exact i1, i2, i3⟩, i4, i5, ⟨i6, h2, hs⟩, i9⟩
theorem zr_lt {a k : Int32} (h : 0 ≤ a.toInt ∧ a.toInt < k.toInt) (hk : k.toInt ≤ 12) : 0 ≤ a.toInt ∧ a.toInt < 12 ∧ a.toNatClampNeg < 12 ∧ (a.toNatClampNeg : Int) < k.toInt := by
  have := zq_nc h.1
  omega
def zr_cU (h w k : Int32) (ca : Cell) : Prop := (0 ≤ h.toInt ∧ h.toInt < k.toInt) ∧ zr_e ca h.toNatClampNeg ≠ w
def zr_cM (h w k : Int32) (cb : Cell) : Prop := (0 ≤ h.toInt ∧ h.toInt < k.toInt) ∧ zr_e cb h.toNatClampNeg = w
def zr_aU (h w : Int32) (ca : Cell) : Cell := ca.setSlot h.toNatClampNeg (.int w)
def zr_aM (h w : Int32) (cb : Cell) : Cell := cb.setSlot h.toNatClampNeg (.int (if w = 0 then 1 else 0))
theorem zr_iff {ca cb : Cell} {h w k : Int32} (hr : zr_rel ca cb k) (hk : k.toInt ≤ 12) (hw : w = 0 ∨ w = 1) : zr_cU h w k ca ↔ zr_cM h w k cb := by
  unfold zr_cU zr_cM
  refine and_congr_right fun ha => ?_
  obtain ⟨a0, a1, a2, a3⟩ := zr_lt ha hk
  obtain ⟨x, y, x1, y1, h3, -⟩ := hr _ a2
  rw [zr_e_of x1, zr_e_of y1]
  rcases h3 a3 with ⟨rfl, rfl⟩ | ⟨rfl, rfl⟩ <;> rcases hw with rfl | rfl <;> decide
theorem zr_rel_aa {ca cb : Cell} {h w k : Int32} (hr : zr_rel ca cb k) (hk : k.toInt ≤ 12) (hw : w = 0 ∨ w = 1) (hc : zr_cU h w k ca) (sa : ca.slots.size = 12) (sb : cb.slots.size = 12) : zr_rel (zr_aU h w ca) (zr_aM h w cb) k := by
  obtain ⟨a0, a1, a2, a3⟩ := zr_lt hc.1 hk
  unfold zr_aU zr_aM
  refine zr_rel_set hr a2 a3 ?_ sa sb
  rcases hw with rfl | rfl
  · exact Or.inr ⟨rfl, if_pos rfl⟩
  · exact Or.inl ⟨rfl, if_neg (by decide)⟩
theorem zr_aU_sz {a b : Int32} {ca : Cell} : (zr_aU a b ca).slots.size = ca.slots.size := by unfold zr_aU; rw [k2_slotsz]
theorem zr_aM_sz {a b : Int32} {cb : Cell} : (zr_aM a b cb).slots.size = cb.slots.size := by unfold zr_aM; rw [k2_slotsz]
theorem zr_01 {w : Int32} (hw : w = 0 ∨ w = 1) : 0 ≤ w.toInt ∧ w.toInt ≤ 1 := by rcases hw with rfl | rfl <;> decide
/-- a count that is known to be 0 -/
theorem zr_k0 {D : zk_D} {G : Nat → Nat} {H : Heap} {v : Nat → Value} {x : zk_S} {o f sy a : Nat} {k : Int32} {cell : Cell} (hF : zk_F qK D G H v x) (h1 : (o, f, sy) ∈ x.2.2.2.2.2.1) (ht : zk_lk x.2.2.2.1 sy = (0, 0, 0)) (hf : Nat.blt f 1000 = true) (ho : v o = .ref a) (hc : H[a]? = some cell) (hs : cell.slots[zk_sl qK D (G a) f]? = some (.int k)) : k.toInt = 0 := by
  obtain ⟨-, -, h3⟩ := zk_F_fl hF _ h1
  obtain ⟨a1, c1, q1, -, -, -, q2, q3⟩ := zk_fl_real h3 hf
  have q1 : v o = .ref a1 := q1
  rw [ho] at q1; cases q1
  rw [hc] at q2; cases q2
  have q3 : cell.slots[zk_sl qK D (G a) f]? = some (v sy) := q3
  rw [hs] at q3
  have q3 : Value.int k = v sy := Option.some.inj q3
  have ty := zk_F_ty hF sy
  rw [ht, ← q3] at ty
  obtain ⟨z, ez, z0, z1⟩ := zk_gi ty rfl
  cases ez
  exact Int.le_antisymm z1 z0
theorem zr_ad1 {k : Int32} (h0 : 0 ≤ k.toInt) (h1 : k.toInt ≤ 11) : (k + 1).toInt = k.toInt + 1 ∧ 1 ≤ (k + 1).toInt ∧ (k + 1).toInt ≤ 12 ∧ 0 ≤ (k + 1).toInt ∧ k.toInt < 12 ∧ k.toNatClampNeg < 12 ∧ (k.toNatClampNeg : Int) = k.toInt := by
  have e1 : (k + 1).toInt = k.toInt + 1 := by
    rw [Int32.toInt_add, show (1 : Int32).toInt = 1 from rfl]
    exact Int.bmod_eq_of_le (by omega) (by omega)
  have := zq_nc h0
  omega
theorem zr_ad2 (a : Int) : a ≤ a + 1 + -1 := by omega
section ZRC
variable {p : Program} {l : Launch} {e : Env} {R : Room} {s : State} {m : MethodId} {args : Array Value} {below : List Frame} {meth : Method} {c : Code} {Q : State → Prop} {D : zk_D} {base : Nat} {Hb : Heap} {n0 : Nat} {v0 : Nat → Value} {E : List (Nat × Nat)} {G0 : Nat → Nat} {H0 : Heap}
variable {P : zk_P} {AT : List FieldType} {C : zk_C}
set_option maxHeartbeats 4000000 in
set_option maxRecDepth 100000 in
theorem zr_add_x (hx : p.tables.exec = Jvm.exec) (hb : c.code = prog_6_method_4_code) {rt : Option FieldType} {x : zk_S} {fuel s1 sy sr gz : Nat} {v : Nat → Value} (hw : zk_wd s qK D AT) (hok : zk_ok p l e R s m args below meth c Q qK D base Hb 1 prog_6_method_4_code P C.2.2.2.2) (hR1 : R.cells = C.2.2.2.1) (hR2 : R.slots = C.2.2.2.2) (hr : meth.sig.returnType = rt) (hlocks : meth.locks = false) (hQ : ∀ t : State, MQ below (zk_Qf qK D base Hb C v G0 H0) args s C.2.2.2.1 C.2.2.2.2 (fun q => base ≤ q) t → Q t) (hA : zq_all qK D qn_M qn_saying qn_codes qn_textSize qn_SC qn_pickAt) (hC : zk_sb [(6, 0), (4, 6)] C.2.2.1 = true) (hPs : (31, 4, 6, 0) ∈ P.1)
    (c1 : x.2.2.1 = [s1, sy, sr]) (c2 : x.2.1 = [(0, 0)]) (hn0 : 0 < x.1) (c3 : (0, 6, sy) ∈ x.2.2.2.2.2.1) (c4 : (0, 0, sr) ∈ x.2.2.2.2.2.1) (c5 : (0, 1005, gz) ∈ x.2.2.2.2.2.1) (t0 : zk_lk x.2.2.2.1 0 = (2, 4, 0)) (t1 : zk_lk x.2.2.2.1 s1 = (0, 1, 1)) (ts : zk_lk x.2.2.2.1 sy = (0, 0, 11)) (tg : zk_lk x.2.2.2.1 gz = (2, 57, 0))
    (hchk : zk_chf qK P prog_6_method_4_code 1 C rt [] [] (32, zr_addY qK x sy gz, [], 0, 0) fuel 1 = true)
    {G : Nat → Nat} {H : Heap} {locs : List Loc} {ls : Array Slot} {vs : List Value} {v' : Nat → Value} (hp : zk_hp qK D base Hb G H) (he : zk_ev qK D C.2.2.1 G0 H0 G H) (hl : ∀ z ∈ locs, base ≤ z.base) (hF : zk_F qK D G H v' x) (hL : zk_LS C.1.1 v 1 ls vs v' x) : W p l e R s m args below meth c H locs 0 0 Q (F0 m 20 ls vs) := by
  have ty0 := zk_F_ty hF 0
  rw [t0] at ty0
  obtain ⟨a, ea, hga, -⟩ := zk_gr ty0 rfl rfl
  have hga : G a = 4 := hga
  have ty1 := zk_F_ty hF s1
  rw [t1] at ty1
  obtain ⟨one, e1, o1, o2⟩ := zk_gi ty1 rfl
  have o1 : 1 ≤ one.toInt := o1
  have o2 : one.toInt ≤ 1 := o2
  have hone : one = 1 := Int32.toInt_inj.mp (by rw [show (1 : Int32).toInt = 1 from rfl]; omega)
  subst hone
  have tys := zk_F_ty hF sy
  rw [ts] at tys
  obtain ⟨k, es, k0, k1⟩ := zk_gi tys rfl
  have k0 : 0 ≤ k.toInt := k0
  have k1 : k.toInt ≤ 11 := k1
  have tyg := zk_F_ty hF gz
  rw [tg] at tyg
  obtain ⟨mo, eg, hgm, -⟩ := zk_gr tyg rfl rfl
  have hgm : G mo = 57 := hgm
  obtain ⟨k2, r, ca, hN⟩ := zr_N_of hp hga
  obtain ⟨k3, r3, cb, hM⟩ := zr_M_of hp hgm
  obtain ⟨-, cn, ⟨n1, n2, n3⟩, n4, n5, ⟨n6, n7, n8⟩, -, -⟩ := id hN
  obtain ⟨-, cm, ⟨m1, -⟩, -, m5, ⟨m6, m7, -⟩, -⟩ := id hM
  have hsl : ∀ f, zk_sl qK D (G a) f = D.2.1 4 f := fun f => by unfold zk_sl; rw [hga]; rfl
  obtain ⟨-, lsy, f3⟩ := zk_F_fl hF _ c3
  obtain ⟨a1, c1', q1, -, -, -, q2, q3⟩ := zk_fl_real f3 rfl
  have q1 : v' 0 = .ref a1 := q1
  rw [ea] at q1; cases q1
  rw [n1] at q2; cases q2
  have q3 : cn.slots[zk_sl qK D (G a) 6]? = some (v' sy) := q3
  rw [hsl, n4, es] at q3
  have ek : k2 = k := Value.int.inj (Option.some.inj q3)
  rw [ek] at hN n4
  obtain ⟨-, -, f4⟩ := zk_F_fl hF _ c4
  obtain ⟨a1, c1', q1, -, -, -, q2, q3⟩ := zk_fl_real f4 rfl
  have q1 : v' 0 = .ref a1 := q1
  rw [ea] at q1; cases q1
  rw [n1] at q2; cases q2
  have q3 : cn.slots[zk_sl qK D (G a) 0]? = some (v' sr) := q3
  rw [hsl, n5] at q3
  have er : v' sr = .ref r := (Option.some.inj q3).symm
  obtain ⟨-, lgz, f5⟩ := zk_F_fl hF _ c5
  obtain ⟨a1, c1', q1, -, -, -, q2⟩ := f5
  have q1 : v' 0 = .ref a1 := q1
  rw [ea] at q1; cases q1
  have h5 : zq_1005 D.2.1 G H a (.ref mo) := by
    rcases q2 with ⟨z, -⟩ | ⟨-, z⟩
    · rw [hga] at z
      have z : 1005 < (zk_kd qK 4).2.2.1.length := z
      exact absurd z (by decide +kernel)
    · have z : zk_gh qK D G H a 1005 (v' gz) := z
      rw [eg] at z
      exact zq_at5 hA z
  have hrel := zr_rel_of h5 hN hM
  obtain ⟨u1, u2, u3, u4, u5, u6, u7⟩ := zr_ad1 k0 k1
  have hvs : vs = [.int 1, .int k, .ref r] := by rw [(zk_LS_stk hL).1, c1, List.map_cons, List.map_cons, List.map_cons, List.map_nil, e1, es, er]
  subst hvs
  have hls : lv_has ls 1 [(0, .ref a)] := by
    have h2 := (zk_LS_loc hL).1
    rw [c2] at h2
    have h2 : lv_has ls 1 [(0, v' 0)] := h2
    rw [ea] at h2
    exact h2
  have hg := hok.1 _ hPs
  have hra : r ≠ a := fun z => by rw [z, hga] at n6; exact absurd n6 (by decide)
  have hma : mo ≠ a := fun z => by rw [z, hga] at hgm; exact absurd hgm (by decide)
  have hmr : mo ≠ r := fun z => by rw [z, n6] at hgm; exact absurd hgm (by decide)
  have h3a : r3 ≠ a := fun z => by rw [z, hga] at m6; exact absurd m6 (by decide)
  have h3r : r3 ≠ r := fun z => by rw [z, n6] at m6; exact absurd m6 (by decide)
  refine zq_zst hx hb (hw.2.2.1 2 _ hw.2.2.2.2.2.1) hp hl zr_rA n6 n7 k0 (by rw [n8]; exact u5) (by decide) (by decide) (by decide +kernel : decode prog_6_method_4_code 20 = .ok (.bastore, 1)) (fun H1 locs1 hp1 he1 hz1 ew1 eo1 hl1 => ?_)
  have n1' : H1[a]? = some cn := by rw [eo1 a (fun z => hra z.symm)]; exact n1
  refine lv_aload_n hx hb (by decide +kernel : decode prog_6_method_4_code 21 = .ok (.aload_n 0, 1)) rfl (lv_at hls 0 rfl) (lv_dup hx hb (by decide +kernel : decode prog_6_method_4_code 22 = .ok (.dup, 1)) rfl (hg.1 n1' n2 n3 n4 (by decide +kernel : decode prog_6_method_4_code 23 = .ok (.getfield 31, 3)) ?_))
  refine lv_dup_x1 hx hb (by decide +kernel : decode prog_6_method_4_code 26 = .ok (.dup_x1, 1)) rfl rfl (lv_iconst (v := 1) hx hb (by decide +kernel : decode prog_6_method_4_code 27 = .ok (.iconst 1, 1)) rfl (lv_iadd hx hb (by decide +kernel : decode prog_6_method_4_code 28 = .ok (.iadd, 1)) ?_))
  refine zq_put (kM := 4) (t := (0, 0, 12)) hx hb hw.2.1 hg.2 (by decide) (by decide +kernel) (by decide +kernel) (by decide +kernel) (by decide +kernel) (by decide +kernel) rfl hp1 hl1 hga n1' n4 u4 u3 (by decide +kernel : decode prog_6_method_4_code 29 = .ok (.putfield 31, 3)) (fun H2 locs2 hp2 he2 hz2 e2 eo2 hl2 => ?_)
  have ev2 : zk_ev qK D [(6, 0), (4, 6)] G H G H2 := zk_ev_tr hw.1 (zk_ev_sb (by decide +kernel) he1) (zk_ev_sb (by decide +kernel) he2)
  have hne : D.2.1 4 6 ≠ D.2.1 4 0 := hw.2.1 4 6 0 (by decide +kernel) (by decide +kernel) (by decide +kernel) (by decide)
  have s6 : (cn.setSlot (D.2.1 4 6) (.int (k + 1))).slots[D.2.1 4 6]? = some (.int (k + 1)) := Cell.slots_setSlot_self _ (k2_hasslot n4)
  have s0 : (cn.setSlot (D.2.1 4 6) (.int (k + 1))).slots[D.2.1 4 0]? = some (.ref r) := by rw [slot_ne _ _ hne]; exact n5
  have hgh : zq_1005 D.2.1 G H2 a (.ref mo) :=
    ⟨ca.setSlot k.toNatClampNeg (.int 1), cb, k + 1, ⟨_, cm, mo, r, r3, rfl, ⟨hga, e2, s6⟩, s0, n6, by rw [eo2 r hra]; exact ew1, hgm, by rw [eo2 mo hma, eo1 mo hmr]; exact m1, m5, m6, by rw [eo2 r3 h3a, eo1 r3 h3r]; exact m7⟩, zr_rel_add hrel u6 u7.symm (by rw [u1, u7]) n8⟩
  have hF1 := zk_F_st [] (zk_F_ev (keep := true) hw.1 hF ev2 (fun _ => hz2.trans hz1))
  have hn1 : (zk_st (zk_ex qK [(6, 0), (4, 6)] x true) []).1 = x.1 := rfl
  have hup := zk_F_up (w := .int (k + 1)) (stk' := []) (t := (0, 1, 12)) (rs := [(x.1, sy, 1), (sy, x.1, -1)]) (ms := []) hF1 (zk_tv_int u2 u3) (fun q hq => by
      rw [hn1]
      simp only [List.mem_cons, List.not_mem_nil, or_false] at hq
      rcases hq with rfl | rfl
      · refine ⟨Nat.lt_succ_self _, Nat.lt_succ_of_lt lsy, ?_⟩
        show zk_i (zk_up v' x.1 (.int (k + 1)) x.1) ≤ zk_i (zk_up v' x.1 (.int (k + 1)) sy) + 1
        rw [zk_up_at, zk_up_lt lsy, es]
        exact Int.le_of_eq u1
      · refine ⟨Nat.lt_succ_of_lt lsy, Nat.lt_succ_self _, ?_⟩
        show zk_i (zk_up v' x.1 (.int (k + 1)) sy) ≤ zk_i (zk_up v' x.1 (.int (k + 1)) x.1) + -1
        rw [zk_up_at, zk_up_lt lsy, es]
        show k.toInt ≤ (k + 1).toInt + -1
        rw [u1]; exact zr_ad2 _) (fun q hq => absurd hq List.not_mem_nil)
  have hL1 : zk_LS C.1.1 v 1 ls [] v' (zk_st (zk_ex qK [(6, 0), (4, 6)] x true) []) := zk_LS_st (stk' := []) (zk_LS_ex hL) (fun q hq => absurd hq List.not_mem_nil)
  have hLu := zk_LS_st (stk' := [sy]) (zk_LS_up (w := .int (k + 1)) (stk' := []) (t := (0, 1, 12)) (rs := [(x.1, sy, 1), (sy, x.1, -1)]) (ms := []) hL1 (fun q hq => absurd hq List.not_mem_nil)) (fun q hq => by rw [List.mem_singleton.mp hq]; exact Nat.lt_succ_of_lt lsy)
  rw [hn1] at hup hLu
  have e0 : zk_up v' x.1 (.int (k + 1)) 0 = .ref a := by rw [zk_up_lt hn0, ea]
  have hsort : (zk_kd qK (G a)).1 = 0 := by rw [hga]; decide +kernel
  have hfin := zk_F_af (fs := [(0, 1005, gz), (0, 6, x.1)]) (ns := []) (ps := []) (zk_F_st [sy] hup) (fun q hq => by
      simp only [List.mem_cons, List.not_mem_nil, or_false] at hq
      rcases hq with rfl | rfl
      · refine ⟨Nat.lt_succ_of_lt hn0, Nat.lt_succ_of_lt lgz, a, _, e0, by rw [hga]; decide, hsort, e2, Or.inr ⟨(by decide : (1000 : Nat) ≤ 1005), ?_⟩⟩
        show zk_gh qK D G H2 a 1005 (zk_up v' x.1 (.int (k + 1)) gz)
        rw [zk_up_lt lgz, eg]
        exact zq_mk5 hA hgh
      · refine ⟨Nat.lt_succ_of_lt hn0, Nat.lt_succ_self _, a, _, e0, by rw [hga]; decide, hsort, e2, Or.inl ⟨by rw [hga]; exact (by decide +kernel : 6 < (zk_kd qK 4).2.2.1.length), ?_⟩⟩
        show (cn.setSlot (D.2.1 4 6) (.int (k + 1))).slots[zk_sl qK D (G a) 6]? = some (zk_up v' x.1 (.int (k + 1)) x.1)
        rw [hsl, zk_up_at]; exact s6) (fun q hq => absurd hq List.not_mem_nil) (fun q hq => absurd hq List.not_mem_nil)
  have hvs : ([Value.int k] : List Value) = [sy].map (zk_up v' x.1 (.int (k + 1))) := by rw [List.map_cons, List.map_nil, zk_up_lt lsy, es]
  rw [hvs]
  exact zk_from (q0 := (32, zr_addY qK x sy gz, [], 0, 0)) (hd := []) (xs := []) hx hb hw hok hR1 hR2 hr hlocks hQ hchk (fun q hq => absurd hq List.not_mem_nil) hp2 (zk_ev_tr hw.1 he (zk_ev_sb hC ev2)) hl2 hfin (zk_LS_af hLu)
end ZRC
end
