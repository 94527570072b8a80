/-! BY HAND, 3: an object with an array and a count; bytes of ints -/
def zt_Tp (D : zk_D) (ci fa fl tag n : Nat) (H : Heap) (o q : Nat) (L : Int32) : Prop := ∃ co cq : Cell, H[o]? = some co ∧ co.cls = D.1 ci ∧ co.vm = .none ∧ co.slots[D.2.1 ci fa]? = some (.ref q) ∧ co.slots[D.2.1 ci fl]? = some (.int L) ∧ H[q]? = some cq ∧ cq.cls = D.2.2.1 tag ∧ cq.vm = .none ∧ cq.slots.size = n ∧ o ≠ q
theorem zt_Tp_put {D : zk_D} {ci fa fl tag n : Nat} {H H' : Heap} {o q : Nat} {L L' : Int32} {co : Cell} (h : zt_Tp D ci fa fl tag n H o q L) (hne : D.2.1 ci fl ≠ D.2.1 ci fa) (hc : H[o]? = some co) (h1 : H'[o]? = some (co.setSlot (D.2.1 ci fl) (.int L'))) (h3 : ∀ x : Nat, x ≠ o → H'[x]? = H[x]?) : zt_Tp D ci fa fl tag n H' o q L' := by
  obtain ⟨c0, cq, e1, e2, e3, e4, e5, e6, e7, e8, e9, e10⟩ := h
  rw [hc] at e1; cases e1
  exact ⟨_, cq, h1, e2, e3, by rw [slot_ne _ _ hne]; exact e4, Cell.slots_setSlot_self _ (k2_hasslot e5), by rw [h3 q (Ne.symm e10)]; exact e6, e7, e8, e9, e10⟩
theorem zt_Tp_arr {D : zk_D} {ci fa fl tag n j : Nat} {H H' : Heap} {o q : Nat} {L : Int32} {cq : Cell} {w : Value} (h : zt_Tp D ci fa fl tag n H o q L) (hc : H[q]? = some cq) (h1 : H'[q]? = some (cq.setSlot j w)) (h3 : ∀ x : Nat, x ≠ q → H'[x]? = H[x]?) : zt_Tp D ci fa fl tag n H' o q L := by
  obtain ⟨co, c0, e1, e2, e3, e4, e5, e6, e7, e8, e9, e10⟩ := h
  rw [hc] at e6; cases e6
  exact ⟨co, _, by rw [h3 o e10]; exact e1, e2, e3, e4, e5, h1, e7, e8, by rw [zk_size_set]; exact e9, e10⟩
theorem zt_ix {k n : Nat} {cell : Cell} (h1 : k < n) (h2 : n < 2 ^ 31) (h3 : cell.slots.size = n) : ¬ ((nI k) < 0 ∨ cell.slots.size ≤ (nI k).toNatClampNeg) := by
  have e := nI_toInt (show k < 2 ^ 31 by omega)
  rintro (q | q)
  · have q := Int32.lt_iff_toInt_lt.mp q
    rw [e, show (0 : Int32).toInt = 0 from rfl] at q; omega
  · rw [h3] at q
    have : ((nI k).toNatClampNeg : Int) = k := by rw [Int32.toNatClampNeg, e]; omega
    omega
theorem zt_lt {a b : Nat} (ha : a < 2 ^ 31) (hb : b < 2 ^ 31) : nI a < nI b ↔ a < b := by
  rw [Int32.lt_iff_toInt_lt, nI_toInt ha, nI_toInt hb]; omega
theorem zt_le {a b : Nat} (ha : a < 2 ^ 31) (hb : b < 2 ^ 31) : nI a ≤ nI b ↔ a ≤ b := by
  rw [Int32.le_iff_toInt_le, nI_toInt ha, nI_toInt hb]; omega
/-- a byte of a number -/
def zf_b (w s : Int32) : Int32 := zf_ushr w s &&& 255
def zf_t (w s : Int32) : Nat := if zf_b w s = 0 then 0 else 1
theorem zf_t0 {w s : Int32} (h : zf_b w s = 0) : zf_t w s = 0 := if_pos h
theorem zf_t1 {w s : Int32} (h : ¬ zf_b w s = 0) : zf_t w s = 1 := if_neg h
def zf_s : Nat → Int32
  | 0 => -8
  | 1 => 0
  | 2 => 8
  | 3 => 16
  | _ => 24
theorem zf_ss {j : Nat} (h : j < 4) : zf_s (j + 1) + (-8) = zf_s j := by
  rcases (show j = 0 ∨ j = 1 ∨ j = 2 ∨ j = 3 by omega) with e | e | e | e <;> subst e <;> rfl
theorem zf_s0 {j : Nat} (h : j < 4) : ¬ zf_s (j + 1) < 0 := by
  rcases (show j = 0 ∨ j = 1 ∨ j = 2 ∨ j = 3 by omega) with e | e | e | e <;> subst e <;> decide
/-- how many of the last j bytes aren't 0 -/
def zf_c (w : Int32) : Nat → Nat
  | 0 => 0
  | j + 1 => zf_t w (zf_s (j + 1)) + zf_c w j
theorem zf_c_s (w : Int32) (j : Nat) : zf_c w (j + 1) = zf_t w (zf_s (j + 1)) + zf_c w j := rfl
theorem zf_t_le (w s : Int32) : zf_t w s ≤ 1 := by unfold zf_t; split <;> omega
theorem zf_c_le (w : Int32) : ∀ j, zf_c w j ≤ j
  | 0 => Nat.le_refl 0
  | j + 1 => by have := zf_c_le w j; have := zf_t_le w (zf_s (j + 1)); rw [zf_c_s]; omega
def zf_bo (a b c d e k : Int32) : Int32 := ((if 4 ≤ k then (if 8 ≤ k then (if 12 ≤ k then (if 16 ≤ k then e else d) else c) else b) else a) >>> ((24 - 8 * (k - k / 4 * 4)) &&& 31)) &&& 255
def zf_u (a b c d e : Int32) (k : Nat) : Nat := if zf_bo a b c d e (nI k) = 0 then 0 else 1
theorem zf_u0 {a b c d e : Int32} {k : Nat} (h : zf_bo a b c d e (nI k) = 0) : zf_u a b c d e k = 0 := if_pos h
theorem zf_u1 {a b c d e : Int32} {k : Nat} (h : ¬ zf_bo a b c d e (nI k) = 0) : zf_u a b c d e k = 1 := if_neg h
theorem zf_u_le (a b c d e : Int32) (k : Nat) : zf_u a b c d e k ≤ 1 := by unfold zf_u; split <;> omega
def zf_m (a b c d e : Int32) : Nat → Nat → Nat
  | _, 0 => 0
  | k, j + 1 => zf_u a b c d e k + zf_m a b c d e (k + 1) j
theorem zf_m_s (a b c d e : Int32) (k j : Nat) : zf_m a b c d e k (j + 1) = zf_u a b c d e k + zf_m a b c d e (k + 1) j := rfl
theorem zf_m_le (a b c d e : Int32) : ∀ j k, zf_m a b c d e k j ≤ j
  | 0, _ => Nat.le_refl 0
  | j + 1, k => by have := zf_m_le a b c d e j (k + 1); have := zf_u_le a b c d e k; rw [zf_m_s]; omega
theorem zf_mask : ∀ i, i < 32 → 8 ≤ i → (255#32).getLsbD i = false := by decide
theorem zf_bv (x : BitVec 32) (s : Nat) (hs : s ≤ 24) : x.sshiftRight s &&& 255#32 = x >>> s &&& 255#32 := by
  apply BitVec.eq_of_getLsbD_eq
  intro i hi
  rw [BitVec.getLsbD_and, BitVec.getLsbD_and]
  by_cases h : i < 8
  · rw [BitVec.getLsbD_sshiftRight, BitVec.getLsbD_ushiftRight]
    have h1 : s + i < 32 := by omega
    have h2 : ¬ 32 ≤ i := by omega
    simp [h1, h2]
  · rw [zf_mask i hi (by omega)]; simp
theorem zf_sr24 (x : Int32) : (x >>> (24 &&& 31)) &&& 255 = zf_b x 24 := Int32.toBitVec_inj.mp (zf_bv x.toBitVec 24 (by decide))
theorem zf_sr16 (x : Int32) : (x >>> (16 &&& 31)) &&& 255 = zf_b x 16 := Int32.toBitVec_inj.mp (zf_bv x.toBitVec 16 (by decide))
theorem zf_sr8 (x : Int32) : (x >>> (8 &&& 31)) &&& 255 = zf_b x 8 := Int32.toBitVec_inj.mp (zf_bv x.toBitVec 8 (by decide))
theorem zf_sr0 (x : Int32) : (x >>> (0 &&& 31)) &&& 255 = zf_b x 0 := Int32.toBitVec_inj.mp (zf_bv x.toBitVec 0 (by decide))
theorem zf_k0 (a b c d e : Int32) : zf_u a b c d e 0 = zf_t a 24 := by
  have h : zf_bo a b c d e (nI 0) = zf_b a 24 := zf_sr24 a
  unfold zf_u zf_t
  rw [h]
theorem zf_k1 (a b c d e : Int32) : zf_u a b c d e 1 = zf_t a 16 := by
  have h : zf_bo a b c d e (nI 1) = zf_b a 16 := zf_sr16 a
  unfold zf_u zf_t
  rw [h]
theorem zf_k2 (a b c d e : Int32) : zf_u a b c d e 2 = zf_t a 8 := by
  have h : zf_bo a b c d e (nI 2) = zf_b a 8 := zf_sr8 a
  unfold zf_u zf_t
  rw [h]
theorem zf_k3 (a b c d e : Int32) : zf_u a b c d e 3 = zf_t a 0 := by
  have h : zf_bo a b c d e (nI 3) = zf_b a 0 := zf_sr0 a
  unfold zf_u zf_t
  rw [h]
theorem zf_k4 (a b c d e : Int32) : zf_u a b c d e 4 = zf_t b 24 := by
  have h : zf_bo a b c d e (nI 4) = zf_b b 24 := zf_sr24 b
  unfold zf_u zf_t
  rw [h]
theorem zf_k5 (a b c d e : Int32) : zf_u a b c d e 5 = zf_t b 16 := by
  have h : zf_bo a b c d e (nI 5) = zf_b b 16 := zf_sr16 b
  unfold zf_u zf_t
  rw [h]
theorem zf_k6 (a b c d e : Int32) : zf_u a b c d e 6 = zf_t b 8 := by
  have h : zf_bo a b c d e (nI 6) = zf_b b 8 := zf_sr8 b
  unfold zf_u zf_t
  rw [h]
theorem zf_k7 (a b c d e : Int32) : zf_u a b c d e 7 = zf_t b 0 := by
  have h : zf_bo a b c d e (nI 7) = zf_b b 0 := zf_sr0 b
  unfold zf_u zf_t
  rw [h]
theorem zf_k8 (a b c d e : Int32) : zf_u a b c d e 8 = zf_t c 24 := by
  have h : zf_bo a b c d e (nI 8) = zf_b c 24 := zf_sr24 c
  unfold zf_u zf_t
  rw [h]
theorem zf_k9 (a b c d e : Int32) : zf_u a b c d e 9 = zf_t c 16 := by
  have h : zf_bo a b c d e (nI 9) = zf_b c 16 := zf_sr16 c
  unfold zf_u zf_t
  rw [h]
theorem zf_k10 (a b c d e : Int32) : zf_u a b c d e 10 = zf_t c 8 := by
  have h : zf_bo a b c d e (nI 10) = zf_b c 8 := zf_sr8 c
  unfold zf_u zf_t
  rw [h]
theorem zf_k11 (a b c d e : Int32) : zf_u a b c d e 11 = zf_t c 0 := by
  have h : zf_bo a b c d e (nI 11) = zf_b c 0 := zf_sr0 c
  unfold zf_u zf_t
  rw [h]
theorem zf_k12 (a b c d e : Int32) : zf_u a b c d e 12 = zf_t d 24 := by
  have h : zf_bo a b c d e (nI 12) = zf_b d 24 := zf_sr24 d
  unfold zf_u zf_t
  rw [h]
theorem zf_k13 (a b c d e : Int32) : zf_u a b c d e 13 = zf_t d 16 := by
  have h : zf_bo a b c d e (nI 13) = zf_b d 16 := zf_sr16 d
  unfold zf_u zf_t
  rw [h]
theorem zf_k14 (a b c d e : Int32) : zf_u a b c d e 14 = zf_t d 8 := by
  have h : zf_bo a b c d e (nI 14) = zf_b d 8 := zf_sr8 d
  unfold zf_u zf_t
  rw [h]
theorem zf_k15 (a b c d e : Int32) : zf_u a b c d e 15 = zf_t d 0 := by
  have h : zf_bo a b c d e (nI 15) = zf_b d 0 := zf_sr0 d
  unfold zf_u zf_t
  rw [h]
theorem zf_k16 (a b c d e : Int32) : zf_u a b c d e 16 = zf_t e 24 := by
  have h : zf_bo a b c d e (nI 16) = zf_b e 24 := zf_sr24 e
  unfold zf_u zf_t
  rw [h]
theorem zf_k17 (a b c d e : Int32) : zf_u a b c d e 17 = zf_t e 16 := by
  have h : zf_bo a b c d e (nI 17) = zf_b e 16 := zf_sr16 e
  unfold zf_u zf_t
  rw [h]
theorem zf_k18 (a b c d e : Int32) : zf_u a b c d e 18 = zf_t e 8 := by
  have h : zf_bo a b c d e (nI 18) = zf_b e 8 := zf_sr8 e
  unfold zf_u zf_t
  rw [h]
theorem zf_k19 (a b c d e : Int32) : zf_u a b c d e 19 = zf_t e 0 := by
  have h : zf_bo a b c d e (nI 19) = zf_b e 0 := zf_sr0 e
  unfold zf_u zf_t
  rw [h]
theorem zf_m20 (a b c d e : Int32) : zf_m a b c d e 0 20 = zf_c a 4 + zf_c b 4 + zf_c c 4 + zf_c d 4 + zf_c e 4 := by
  show zf_u a b c d e 0 + (zf_u a b c d e 1 + (zf_u a b c d e 2 + (zf_u a b c d e 3 + (zf_u a b c d e 4 + (zf_u a b c d e 5 + (zf_u a b c d e 6 + (zf_u a b c d e 7 + (zf_u a b c d e 8 + (zf_u a b c d e 9 + (zf_u a b c d e 10 + (zf_u a b c d e 11 + (zf_u a b c d e 12 + (zf_u a b c d e 13 + (zf_u a b c d e 14 + (zf_u a b c d e 15 + (zf_u a b c d e 16 + (zf_u a b c d e 17 + (zf_u a b c d e 18 + (zf_u a b c d e 19 + 0))))))))))))))))))) = (zf_t a 24 + (zf_t a 16 + (zf_t a 8 + (zf_t a 0 + 0)))) + (zf_t b 24 + (zf_t b 16 + (zf_t b 8 + (zf_t b 0 + 0)))) + (zf_t c 24 + (zf_t c 16 + (zf_t c 8 + (zf_t c 0 + 0)))) + (zf_t d 24 + (zf_t d 16 + (zf_t d 8 + (zf_t d 0 + 0)))) + (zf_t e 24 + (zf_t e 16 + (zf_t e 8 + (zf_t e 0 + 0))))
  rw [zf_k0, zf_k1, zf_k2, zf_k3, zf_k4, zf_k5, zf_k6, zf_k7, zf_k8, zf_k9, zf_k10, zf_k11, zf_k12, zf_k13, zf_k14, zf_k15, zf_k16, zf_k17, zf_k18, zf_k19]
  omega
