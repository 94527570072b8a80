/-! WORTH AND WORK, by hand: the codes as a program, run -/
noncomputable section
theorem zq_w1 {B n : Int} {l : List Int} (hB : B = 1000 ∨ B = 4000) (hn : 0 ≤ n) (h : zq_run (B + n) l = 0) : ∃ c l', l = c :: l' ∧ zq_run (zq_st (B + n) c) l' = 0 ∧ 0 ≤ zq_st (B + n) c := by
  match l, h with
  | [], h =>
    have h : B + n = 0 := h
    omega
  | c :: l', h =>
    have h : zq_run (zq_st (B + n) c) l' = 0 := h
    refine ⟨c, l', rfl, h, Int.not_lt.mp fun z => ?_⟩
    have := zq_run_neg z l'
    omega
theorem zq_w2 {B n c : Int} (hB : B = 1000 ∨ B = 4000) (hn : 0 ≤ n) (hn2 : n ≤ 199) (h : 0 ≤ zq_st (B + n) c) : (c = 2 → B = 1000 ∧ zq_st (B + n) c = 4000) ∧ (c = 3 → B = 4000 ∧ zq_st (B + n) c = 0) ∧ (c = 0 → zq_st (B + n) c = B + 1000 + n) ∧ (c = 1 → zq_st (B + n) c = B + 2000 + n) ∧ (c = 33 → 1 ≤ n ∧ zq_st (B + n) c = B + n) ∧ (c ≠ 0 → c ≠ 1 → c ≠ 2 → c ≠ 3 → c ≠ 33 → 2 ≤ n ∧ zq_st (B + n) c = B + (n - 1)) := by
  have e : zq_st (B + n) c = zq_ex B n c := by
    unfold zq_st
    rcases hB with rfl | rfl
    · rw [if_neg (by omega), if_neg (by omega), if_pos (by omega), show (1000 : Int) + n - 1000 = n by omega]
    · rw [if_neg (by omega), if_neg (by omega), if_neg (by omega), if_neg (by omega), if_neg (by omega), if_pos (by omega), show (4000 : Int) + n - 4000 = n by omega]
  rw [e] at h ⊢
  unfold zq_ex at h ⊢
  repeat' split at h
  all_goals (refine ⟨fun z => ?_, fun z => ?_, fun z => ?_, fun z => ?_, fun z => ?_, fun z1 z2 z3 z4 z5 => ?_⟩)
  all_goals (first | (exfalso; omega) | skip)
  all_goals (subst_vars; simp_all; try omega)
theorem zq_w3 {B n : Int} {l : List Int} (hB : B = 1000 ∨ B = 4000) (hn : 0 ≤ n) (hn2 : n ≤ 199) (h : zq_run (B + 1000 + n) l = 0) : ∃ c l', l = c :: l' ∧ n ≤ 198 ∧ zq_run (B + (n + 1)) l' = 0 := by
  match l, h with
  | [], h =>
    have h : B + 1000 + n = 0 := h
    omega
  | c :: l', h =>
    have h : zq_run (zq_st (B + 1000 + n) c) l' = 0 := h
    have h0 : 0 ≤ zq_st (B + 1000 + n) c := Int.not_lt.mp fun z => by
      have := zq_run_neg z l'
      omega
    have e : n ≤ 198 ∧ zq_st (B + 1000 + n) c = B + (n + 1) := by
      unfold zq_st at h0 ⊢
      repeat' split at h0
      all_goals (first | (exfalso; omega) | skip)
      all_goals (refine ⟨by omega, ?_⟩)
      all_goals (repeat' split)
      all_goals omega
    rw [e.2] at h
    exact ⟨c, l', rfl, e.1, h⟩
theorem zq_w4 {B n : Int} {l : List Int} (hB : B = 1000 ∨ B = 4000) (hn : 0 ≤ n) (hn2 : n ≤ 199) (h : zq_run (B + 2000 + n) l = 0) : ∃ c l', l = c :: l' ∧ n ≤ 198 ∧ 0 ≤ c ∧ c ≤ 127 ∧ zq_run (B + (n + 1)) l' = 0 := by
  match l, h with
  | [], h =>
    have h : B + 2000 + n = 0 := h
    omega
  | c :: l', h =>
    have h : zq_run (zq_st (B + 2000 + n) c) l' = 0 := h
    have h0 : 0 ≤ zq_st (B + 2000 + n) c := Int.not_lt.mp fun z => by
      have := zq_run_neg z l'
      omega
    have e : n ≤ 198 ∧ 0 ≤ c ∧ c ≤ 127 ∧ zq_st (B + 2000 + n) c = B + (n + 1) := by
      unfold zq_st at h0 ⊢
      repeat' split at h0
      all_goals (first | (exfalso; omega) | skip)
      all_goals (refine ⟨by omega, by omega, by omega, ?_⟩)
      all_goals (repeat' split)
      all_goals omega
    rw [e.2.2.2] at h
    exact ⟨c, l', rfl, e.1, e.2.1, e.2.2.1, h⟩
theorem zq_seg_cons {cell : Cell} {o r : Nat} {w : Value} (h : cell.slots[o]? = some w) : zq_seg cell o (r + 1) = zk_i w :: zq_seg cell (o + 1) r := by
  rw [Nat.add_comm r 1, zq_seg_add, zq_seg_one (n := 0) (w := w) h]
  rfl
theorem zq_seg_nil {cell : Cell} {o : Nat} : zq_seg cell o 0 = [] := by unfold zq_seg; simp
/-- a row whose program isn't over has one code more -/
theorem zq_wn {cell : Cell} {o r : Nat} {c : Int} {l' : List Int} (h : zq_seg cell o r = c :: l') : ∃ r', r = r' + 1 := by
  match r, h with
  | 0, h => rw [zq_seg_nil] at h; cases h
  | r' + 1, _ => exact ⟨r', rfl⟩
theorem zq_wp {i : Int32} {pos : Nat} (h : i.toInt = (pos : Int)) (h2 : pos < 100000) : (i + 1).toInt = ((pos + 1 : Nat) : Int) ∧ 0 ≤ i.toInt ∧ i.toNatClampNeg = pos := by
  have e1 : (i + 1).toInt = i.toInt + 1 := by
    rw [Int32.toInt_add, show (1 : Int32).toInt = 1 from rfl]
    exact Int.bmod_eq_of_le (by omega) (by omega)
  have k2 := zq_nc (i := i) (by omega)
  omega
def zq_wE : List (Nat × Nat) := [(qn_M, 29), (qn_pile, 0)]
/-- the reference's object and its rows, while a text is being worked out -/
def zq_wk (D : zk_D) (base : Nat) (Hb : Heap) (a bc bp bl : Nat) (cc0 : Cell) (G : Nat → Nat) (H : Heap) (rd : Int32) : Prop :=
  zk_hp qK D base Hb G H ∧ G a = qn_M ∧ G bc = qn_codes ∧ G bp = qn_pile ∧ G bl = qn_letters ∧
  (∃ cell : Cell, H[a]? = some cell ∧ cell.slots[D.2.1 12 19]? = some (.ref bc) ∧ cell.slots[D.2.1 12 28]? = some (.ref bp) ∧ cell.slots[D.2.1 12 27]? = some (.ref bl) ∧ cell.slots[D.2.1 12 29]? = some (.int rd)) ∧ ∃ cc : Cell, H[bc]? = some cc ∧ cc.slots = cc0.slots
section ZWK
variable {p : Program} {l : Launch} {e : Env} {R : Room} {s : State} {m : MethodId} {args : Array Value} {below : List Frame} {meth : Method} {c : Code} {Q : State → Prop} {D : zk_D} {base : Nat} {Hb : Heap} {n0 nL : Nat} {v0 : Nat → Value} {E : List (Nat × Nat)} {G0 : Nat → Nat} {H0 : Heap} {cc : ByteArray}
variable {cells slots pc : Nat} {ls : Array Slot} {rv : List Value} {lv : List (Nat × Value)} {ip : Nat} {locs : List Loc}
variable {a bc bp bl : Nat} {cc0 : Cell} {G : Nat → Nat} {H : Heap} {rd : Int32}
theorem zq_rI (k : Nat) (h0 : k ≠ 0) (h : (zk_kd qK k).1 ≠ 0 ∧ (zk_kd qK k).2.1 = 0 ∧ (zk_kd qK k).2.2.2.2.2.2.2 = 0 ∧ (zk_kd qK k).2.2.2.2.2.1 = [] ∧ (zk_kd qK k).2.2.1[0]? = some zk_I) : zq_row qK k := ⟨h0, h.1, h.2.1, h.2.2.1, h.2.2.2.1, zk_I, h.2.2.2.2, rfl⟩
theorem zq_rC : zq_row qK qn_codes := zq_rI _ (by decide) (by decide +kernel)
theorem zq_rP : zq_row qK qn_pile := zq_rI _ (by decide) (by decide +kernel)
theorem zq_rL : zq_row qK qn_letters := zq_rI _ (by decide) (by decide +kernel)
theorem zq_wk_obj (h : zq_wk D base Hb a bc bp bl cc0 G H rd) : ∃ cell : Cell, (H[a]? = some cell ∧ cell.cls = D.1 12 ∧ zk_vk cell) ∧ cell.slots[D.2.1 12 19]? = some (.ref bc) ∧ cell.slots[D.2.1 12 28]? = some (.ref bp) ∧ cell.slots[D.2.1 12 27]? = some (.ref bl) ∧ cell.slots[D.2.1 12 29]? = some (.int rd) := by
  obtain ⟨hp, g1, -, -, -, ⟨cell, h1, h2⟩, -⟩ := h
  obtain ⟨-, cl, x1, x2, -⟩ := hp.2.2 a (by rw [g1]; decide)
  rw [h1] at x1; cases x1
  have hcla := (x2.2.1 (by rw [g1]; decide +kernel)).1
  rw [g1] at hcla
  exact ⟨cell, ⟨h1, hcla, x2.1.1⟩, h2⟩
theorem zq_wk_ev {G' : Nat → Nat} {H' : Heap} (h : zq_wk D base Hb a bc bp bl cc0 G H rd) (hp' : zk_hp qK D base Hb G' H') (he : zk_ev qK D [] G H G' H') : zq_wk D base Hb a bc bp bl cc0 G' H' rd := by
  obtain ⟨hp, g1, g2, g3, g4, ⟨cell, h1, h2, h3, h4, h5⟩, ccc, h6, h7⟩ := h
  obtain ⟨e1, c', e2, e3⟩ := zq_obj he g1 (by decide) (by decide +kernel) h1 (by decide +kernel)
  obtain ⟨e4, cc', e5, e6⟩ := zq_arr he g2 (by decide) (by decide +kernel) h6 (by decide +kernel) (by decide +kernel)
  have hg : ∀ b k, G b = k → k ≠ 0 → G' b = k := fun b k hb hk => by
    rcases he.2.2.1 b (by rw [hb]; exact hk) with z | ⟨z, -⟩
    · rw [z]; exact hb
    · cases z
  refine ⟨hp', e1, e4, hg _ _ g3 (by decide), hg _ _ g4 (by decide), ⟨c', e2, (e3 19 (by decide +kernel) (by decide +kernel)).trans h2, (e3 28 (by decide +kernel) (by decide +kernel)).trans h3, (e3 27 (by decide +kernel) (by decide +kernel)).trans h4, (e3 29 (by decide +kernel) (by decide +kernel)).trans h5⟩, cc', e5, e6.trans h7⟩
theorem zq_wk_st {H1 : Heap} (h : zq_wk D base Hb a bc bp bl cc0 G H rd) (hp1 : zk_hp qK D base Hb G H1) (ho : ∀ q : Nat, q ≠ bp → H1[q]? = H[q]?) : zq_wk D base Hb a bc bp bl cc0 G H1 rd := by
  obtain ⟨hp, g1, g2, g3, g4, ⟨cell, h1, h2⟩, ccc, h6, h7⟩ := h
  refine ⟨hp1, g1, g2, g3, g4, ⟨cell, ?_, h2⟩, ccc, ?_, h7⟩
  · rw [ho a (fun z => by rw [z, g3] at g1; exact absurd g1 (by decide))]; exact h1
  · rw [ho bc (fun z => by rw [z, g3] at g2; exact absurd g2 (by decide))]; exact h6
/-- codes[reading] -/
theorem zq_wk_cd (hx : p.tables.exec = Jvm.exec) (hb : c.code = cc) (hAT : ArrOfT s (D.2.2.1 0) .int) {iC iR : Nat} (hgC : zk_gok p l e R s m args below meth c Q D cc iC 12 19) (hgR : zk_gok p l e R s m args below meth c Q D cc iR 12 29) {jv : Fin 4}
    (d0 : decode cc pc = .ok (.aload_n jv, 1)) (d1 : decode cc (pc + 1) = .ok (.getfield iC, 3)) (d2 : decode cc (pc + 1 + 3) = .ok (.aload_n jv, 1)) (d3 : decode cc (pc + 1 + 3 + 1) = .ok (.getfield iR, 3)) (d4 : decode cc (pc + 1 + 3 + 1 + 3) = .ok (.iaload, 1))
    (h : zq_wk D base Hb a bc bp bl cc0 G H rd) (hls : lv_has ls nL lv) (ha : lv[ip]? = some ((jv : Nat), .ref a)) {q : Int32} {pos : Nat} (hr : rd.toInt = (pos : Int)) (hq : cc0.slots[pos]? = some (.int q))
    (kk : W p l e R s m args below meth c H locs cells slots Q (F0 m (pc + 1 + 3 + 1 + 3 + 1) ls (.int q :: rv))) : W p l e R s m args below meth c H locs cells slots Q (F0 m pc ls rv) := by
  obtain ⟨cell, ⟨c1, c2, c3⟩, f1, f2, f3, f4⟩ := zq_wk_obj h
  obtain ⟨hp, g1, g2, -, -, -, ccc, h6, h7⟩ := h
  have hlt : pos < cc0.slots.size := (Array.getElem?_eq_some_iff.mp hq).1
  have hnn : 0 ≤ rd.toInt := by omega
  have hnc := zq_nc hnn
  refine lv_aload_n hx hb d0 rfl (lv_at hls ip ha) (hgC c1 c2 c3 f1 d1 ?_)
  refine lv_aload_n hx hb d2 rfl (lv_at hls ip ha) (hgR c1 c2 c3 f4 d3 ?_)
  refine zq_ild hx hb hAT hp zq_rC g2 h6 hnn (by rw [h7, hr]; exact Int.ofNat_lt.mpr hlt) d4 (fun q' t q1 _ _ _ => ?_)
  rw [h7, show rd.toNatClampNeg = pos by omega, hq] at q1
  cases q1
  exact kk
/-- reading goes on by one -/
theorem zq_wk_in (hx : p.tables.exec = Jvm.exec) (hb : c.code = cc) (hdj : zk_dj qK D) {iR : Nat} (hgR : zk_gok p l e R s m args below meth c Q D cc iR 12 29) (hpR : zk_pok p l e R s m args below meth c Q D cc iR 12 29 0) {jv : Fin 4}
    (d0 : decode cc pc = .ok (.aload_n jv, 1)) (d1 : decode cc (pc + 1) = .ok (.dup, 1)) (d2 : decode cc (pc + 1 + 1) = .ok (.getfield iR, 3)) (d3 : decode cc (pc + 1 + 1 + 3) = .ok (.iconst 1, 1)) (d4 : decode cc (pc + 1 + 1 + 3 + 1) = .ok (.iadd, 1)) (d5 : decode cc (pc + 1 + 1 + 3 + 1 + 1) = .ok (.putfield iR, 3))
    (h : zq_wk D base Hb a bc bp bl cc0 G H rd) (hl : ∀ q ∈ locs, base ≤ q.base) (hls : lv_has ls nL lv) (ha : lv[ip]? = some ((jv : Nat), .ref a))
    (kk : ∀ (H1 : Heap) (locs1 : List Loc), zq_wk D base Hb a bc bp bl cc0 G H1 (rd + 1) → zk_ev qK D [(qn_M, 29)] G H G H1 → (∀ q : Nat, q ≠ a → H1[q]? = H[q]?) → (∀ q ∈ locs1, base ≤ q.base) → W p l e R s m args below meth c H1 locs1 cells slots Q (F0 m (pc + 1 + 1 + 3 + 1 + 1 + 3) ls rv)) : W p l e R s m args below meth c H locs cells slots Q (F0 m pc ls rv) := by
  obtain ⟨cell, ⟨c1, c2, c3⟩, f1, f2, f3, f4⟩ := zq_wk_obj h
  obtain ⟨hp, g1, g2, g3, g4, -, ccc, h6, h7⟩ := h
  refine lv_aload_n hx hb d0 rfl (lv_at hls ip ha) (lv_dup hx hb d1 rfl (hgR c1 c2 c3 f4 d2 ?_))
  refine lv_iconst (v := 1) hx hb d3 rfl (lv_iadd hx hb d4 ?_)
  have w := zk_rng (rd + 1)
  refine zq_put (kM := qn_M) (t := zk_I) hx hb hdj hpR (by decide) (by decide +kernel) (by decide +kernel) (by decide +kernel) (by decide +kernel) (by decide +kernel) rfl hp hl g1 c1 f4 w.1 w.2 d5 (fun H1 locs1 hp1 he1 hz1 e1 eo1 hl1 => ?_)
  have hn : ∀ f, f < 71 → f ≠ 29 → (cell.setSlot (D.2.1 12 29) (.int (rd + 1))).slots[D.2.1 12 f]? = cell.slots[D.2.1 12 f]? := fun f hf h => slot_ne _ _ (hdj qn_M 29 f (by decide +kernel) (by decide +kernel) hf (fun z => h z.symm))
  refine kk H1 locs1 ⟨hp1, g1, g2, g3, g4, ⟨_, e1, (hn 19 (by decide) (by decide)).trans f1, (hn 28 (by decide) (by decide)).trans f2, (hn 27 (by decide) (by decide)).trans f3, Cell.slots_setSlot_self _ (k2_hasslot f4)⟩, ccc, ?_, h7⟩ he1 eo1 hl1
  rw [eo1 bc (fun z => by rw [z, g1] at g2; exact absurd g2 (by decide))]
  exact h6
/-- a row that a field holds is pushed -/
theorem zq_wk_gf (hx : p.tables.exec = Jvm.exec) (hb : c.code = cc) {iX f b : Nat} (hgX : zk_gok p l e R s m args below meth c Q D cc iX 12 f) {jv : Fin 4} (d0 : decode cc pc = .ok (.aload_n jv, 1)) (d1 : decode cc (pc + 1) = .ok (.getfield iX, 3))
    (h : zq_wk D base Hb a bc bp bl cc0 G H rd) (hf : (f = 28 ∧ b = bp) ∨ (f = 27 ∧ b = bl)) (hls : lv_has ls nL lv) (ha : lv[ip]? = some ((jv : Nat), .ref a))
    (kk : W p l e R s m args below meth c H locs cells slots Q (F0 m (pc + 1 + 3) ls (.ref b :: rv))) : W p l e R s m args below meth c H locs cells slots Q (F0 m pc ls rv) := by
  obtain ⟨cell, ⟨c1, c2, c3⟩, f1, f2, f3, f4⟩ := zq_wk_obj h
  refine lv_aload_n hx hb d0 rfl (lv_at hls ip ha) ?_
  rcases hf with ⟨rfl, rfl⟩ | ⟨rfl, rfl⟩
  · exact hgX c1 c2 c3 f2 d1 kk
  · exact hgX c1 c2 c3 f3 d1 kk
/-- the pile is read -/
theorem zq_wk_pl (hx : p.tables.exec = Jvm.exec) (hb : c.code = cc) (hAT : ArrOfT s (D.2.2.1 0) .int) (h : zq_wk D base Hb a bc bp bl cc0 G H rd) {i : Nat} (hi : i ≤ 199) (d : decode cc pc = .ok (.iaload, 1))
    (kk : ∀ q : Int32, W p l e R s m args below meth c H locs cells slots Q (F0 m (pc + 1) ls (.int q :: rv))) : W p l e R s m args below meth c H locs cells slots Q (F0 m pc ls (.int (nI i) :: .ref bp :: rv)) := by
  obtain ⟨hp, g1, g2, g3, g4, -, -⟩ := h
  obtain ⟨-, cb, hcb, -, -⟩ := hp.2.2 bp (by rw [g3]; decide)
  obtain ⟨-, -, sz, -⟩ := zq_cls hp zq_rP g3 hcb
  have sz : (200 : Int) ≤ cb.slots.size := Int.le_trans (by decide +kernel) sz
  have hi2 : (nI i).toInt = (i : Int) := nI_toInt (by omega)
  exact zq_ild hx hb hAT hp zq_rP g3 hcb (by omega) (by omega) d (fun q t q1 _ _ _ => kk q)
theorem zq_wk_ll (hx : p.tables.exec = Jvm.exec) (hb : c.code = cc) (hAT : ArrOfT s (D.2.2.1 0) .int) (h : zq_wk D base Hb a bc bp bl cc0 G H rd) {i : Int32} (h0 : 0 ≤ i.toInt) (h1 : i.toInt ≤ 127) (d : decode cc pc = .ok (.iaload, 1))
    (kk : ∀ q : Int32, W p l e R s m args below meth c H locs cells slots Q (F0 m (pc + 1) ls (.int q :: rv))) : W p l e R s m args below meth c H locs cells slots Q (F0 m pc ls (.int i :: .ref bl :: rv)) := by
  obtain ⟨hp, g1, g2, g3, g4, -, -⟩ := h
  obtain ⟨-, cb, hcb, -, -⟩ := hp.2.2 bl (by rw [g4]; decide)
  obtain ⟨-, -, sz, -⟩ := zq_cls hp zq_rL g4 hcb
  have sz : (128 : Int) ≤ cb.slots.size := Int.le_trans (by decide +kernel) sz
  exact zq_ild hx hb hAT hp zq_rL g4 hcb h0 (by omega) d (fun q t q1 _ _ _ => kk q)
/-- the pile is written -/
theorem zq_wk_ps (hx : p.tables.exec = Jvm.exec) (hb : c.code = cc) (hAT : ArrOfT s (D.2.2.1 0) .int) (h : zq_wk D base Hb a bc bp bl cc0 G H rd) (hl : ∀ q ∈ locs, base ≤ q.base) {i : Nat} {w : Int32} (hi : i ≤ 199) (d : decode cc pc = .ok (.iastore, 1))
    (kk : ∀ (H1 : Heap) (locs1 : List Loc), zq_wk D base Hb a bc bp bl cc0 G H1 rd → zk_ev qK D [(qn_pile, 0)] G H G H1 → (∀ q : Nat, q ≠ bp → H1[q]? = H[q]?) → (∀ q ∈ locs1, base ≤ q.base) → W p l e R s m args below meth c H1 locs1 cells slots Q (F0 m (pc + 1) ls rv)) : W p l e R s m args below meth c H locs cells slots Q (F0 m pc ls (.int w :: .int (nI i) :: .ref bp :: rv)) := by
  obtain ⟨hp, g1, g2, g3, g4, -, -⟩ := id h
  obtain ⟨-, cb, hcb, -, -⟩ := hp.2.2 bp (by rw [g3]; decide)
  obtain ⟨-, -, sz, -⟩ := zq_cls hp zq_rP g3 hcb
  have sz : (200 : Int) ≤ cb.slots.size := Int.le_trans (by decide +kernel) sz
  have hi2 : (nI i).toInt = (i : Int) := nI_toInt (by omega)
  have wr := zk_rng w
  exact zq_ist hx hb hAT (t := zk_I) hp hl zq_rP g3 hcb (by omega) (by omega) (by decide +kernel) wr.1 wr.2 d (fun H1 locs1 hp1 he1 hz1 e1 eo hl1 => kk H1 locs1 (zq_wk_st h hp1 eo) he1 eo hl1)
end ZWK
end
