/-! BY HAND: Math.floorMod by 251 -/
theorem zh_fm_i {x q r : Int} (h1 : 251 * q + r = x) (h2 : -250 ≤ r ∧ r ≤ 250) (h3 : 0 ≤ x → 0 ≤ r) (h4 : x ≤ 0 → r ≤ 0) (hx : -9223372036854775808 ≤ x ∧ x ≤ 9223372036854775807) : (-9223372036854775808 ≤ q ∧ q ≤ 9223372036854775807) ∧ (-9223372036854775808 ≤ q * 251 ∧ q * 251 ≤ 9223372036854775807) ∧ x - q * 251 = r := by
  rcases Int.lt_or_le x 0 with h | h
  · have := h4 (by omega)
    omega
  · have := h3 h
    omega
theorem zh_bm {x : Int} (h : -9223372036854775808 ≤ x ∧ x ≤ 9223372036854775807) : x.bmod (2 ^ 64) = x := Int.bmod_eq_of_le (by omega) (by omega)
theorem zh_fm_r (x : Int) : ∃ q r : Int, x.tdiv 251 = q ∧ 251 * q + r = x ∧ (-250 ≤ r ∧ r ≤ 250) ∧ (0 ≤ x → 0 ≤ r) ∧ (x ≤ 0 → r ≤ 0) := by
  refine ⟨x.tdiv 251, x.tmod 251, rfl, Int.mul_tdiv_add_tmod x 251, ?_, fun h => Int.tmod_nonneg _ h, fun h => ?_⟩
  · rcases Int.lt_or_le x 0 with h | h
    · have e : x.tmod 251 = -((-x).tmod 251) := by rw [Int.neg_tmod, Int.neg_neg]
      have h1 := Int.tmod_lt_of_pos (-x) (show (0 : Int) < 251 by decide)
      have h2 := Int.tmod_nonneg 251 (show 0 ≤ -x by omega)
      omega
    · have h1 := Int.tmod_lt_of_pos x (show (0 : Int) < 251 by decide)
      have h2 := Int.tmod_nonneg 251 h
      omega
  · have e : x.tmod 251 = -((-x).tmod 251) := by rw [Int.neg_tmod, Int.neg_neg]
    have h2 := Int.tmod_nonneg 251 (show 0 ≤ -x by omega)
    omega
theorem zh_fm_m (x : Int64) : ∃ r : Int, (x - x / 251 * 251).toInt = r ∧ (-250 ≤ r ∧ r ≤ 250) ∧ (0 ≤ x.toInt → 0 ≤ r) ∧ (x.toInt ≤ 0 → r ≤ 0) := by
  obtain ⟨q, r, h0, h1, h2, h3, h4⟩ := zh_fm_r x.toInt
  have hx : -9223372036854775808 ≤ x.toInt ∧ x.toInt ≤ 9223372036854775807 := ⟨Int64.le_toInt x, Int64.toInt_le x⟩
  obtain ⟨k1, k2, k3⟩ := zh_fm_i h1 h2 h3 h4 hx
  refine ⟨r, ?_, h2, h3, h4⟩
  have e251 : (251 : Int64).toInt = 251 := by decide
  have eq : (x / 251).toInt = q := by rw [Int64.toInt_div, e251, h0]; exact zh_bm k1
  have em : (x / 251 * 251).toInt = q * 251 := by rw [Int64.toInt_mul, eq, e251]; exact zh_bm k2
  rw [Int64.toInt_sub, em, k3]
  exact zh_bm (by omega)
theorem zh_fm_x (x : Int64) : ((x ^^^ 251).toInt < 0 ↔ x.toInt < 0) := by
  have h1 : (x ^^^ 251).toInt < 0 ↔ (x ^^^ 251).toBitVec.msb = true := by
    rw [BitVec.msb_eq_toInt]; exact decide_eq_true_iff.symm
  have h2 : x.toInt < 0 ↔ x.toBitVec.msb = true := by
    rw [BitVec.msb_eq_toInt]; exact decide_eq_true_iff.symm
  rw [h1, h2, Int64.toBitVec_xor, BitVec.msb_xor]
  have : (251 : Int64).toBitVec.msb = false := by decide
  rw [this, Bool.xor_false]
theorem zh_fm_a {r : Int} {m : Int64} (h : m.toInt = r) (h1 : -250 ≤ r) (h2 : r ≤ 0) (h3 : r ≠ 0) : 0 ≤ (m + 251).toInt ∧ (m + 251).toInt ≤ 250 := by
  have e : (m + 251).toInt = r + 251 := by
    rw [Int64.toInt_add, h, show (251 : Int64).toInt = 251 from by decide]
    exact zh_bm (by omega)
  omega
theorem zh_fm_b {r x : Int} {m : Int64} (h : m.toInt = r) (h2 : r ≤ 250) (hx : 0 ≤ x) (h3 : 0 ≤ x → 0 ≤ r) : 0 ≤ m.toInt ∧ m.toInt ≤ 250 := by
  have := h3 hx
  omega
theorem zh_fm_c {m : Int64} (h : m.toInt = 0) : 0 ≤ m.toInt ∧ m.toInt ≤ 250 := by omega
section ZM
variable {p : Program} {l : Launch} {e : Env} {R : Room} {s : State} {m : MethodId} {args : Array Value} {below : List Frame} {meth : Method} {c : Code} {Q : State → Prop} {KT : List zk_K} {D : zk_D} {base : Nat} {Hb : Heap} {n0 nL : Nat} {v0 : Nat → Value} {E : List (Nat × Nat)} {G0 : Nat → Nat} {H0 : Heap} {cc : ByteArray}
variable {cells slots : Nat}
theorem zh_fm (hx : p.tables.exec = Jvm.exec) (hb : c.code = cc) (d0 : decode cc 0 = .ok (.lload_n 0, 1)) (d1 : decode cc 1 = .ok (.lload_n 2, 1)) (d2 : decode cc 2 = .ok (.lrem, 1)) (d3 : decode cc 3 = .ok (.lstore 4, 2)) (d5 : decode cc 5 = .ok (.lload_n 0, 1)) (d6 : decode cc 6 = .ok (.lload_n 2, 1)) (d7 : decode cc 7 = .ok (.lxor, 1)) (d8 : decode cc 8 = .ok (.lconst 0, 1)) (d9 : decode cc 9 = .ok (.lcmp, 1)) (d10 : decode cc 10 = .ok (.ifCond .ge 15, 3)) (d13 : decode cc 13 = .ok (.lload 4, 2)) (d15 : decode cc 15 = .ok (.lconst 0, 1)) (d16 : decode cc 16 = .ok (.lcmp, 1)) (d17 : decode cc 17 = .ok (.ifCond .eq 8, 3)) (d20 : decode cc 20 = .ok (.lload 4, 2)) (d22 : decode cc 22 = .ok (.lload_n 2, 1)) (d23 : decode cc 23 = .ok (.ladd, 1)) (d25 : decode cc 25 = .ok (.lload 4, 2)) (hnL : nL = 6)
    {H : Heap} {locs : List Loc} {ls : Array Slot} {x : Int64} (hls : lv_has ls nL [(0, .long x), (2, .long 251)])
    (k24 : ∀ (ls2 : Array Slot) (w : Int64), 0 ≤ w.toInt → w.toInt ≤ 250 → lv_has ls2 nL [(4, .long (x - x / 251 * 251)), (0, .long x), (2, .long 251)] → W p l e R s m args below meth c H locs cells slots Q (F0 m 24 ls2 [.long w])) (k27 : ∀ (ls2 : Array Slot) (w : Int64), 0 ≤ w.toInt → w.toInt ≤ 250 → lv_has ls2 nL [(4, .long (x - x / 251 * 251)), (0, .long x), (2, .long 251)] → W p l e R s m args below meth c H locs cells slots Q (F0 m 27 ls2 [.long w])) : W p l e R s m args below meth c H locs cells slots Q (F0 m 0 ls []) := by
  obtain ⟨r, m1, m2, m3, m4⟩ := zh_fm_m x
  subst hnL
  refine lv_lload_n hx hb d0 rfl (lv_at hls 0 rfl) (lv_lload_n hx hb d1 rfl (lv_at hls 1 rfl) ?_)
  refine lv_lrem hx hb d2 (by decide) ?_
  refine lv_lstore (lv' := [(4, .long (x - x / 251 * 251)), (0, .long x), (2, .long 251)]) hx hb d3 hls (by decide) rfl (fun ls2 hls2 => ?_)
  refine lv_lload_n hx hb d5 rfl (lv_at hls2 1 rfl) (lv_lload_n hx hb d6 rfl (lv_at hls2 2 rfl) ?_)
  refine lv_lxor hx hb d7 (lv_lconst (v := 0) hx hb d8 rfl ?_)
  refine W.lcmp hx hb d9 ?_
  refine lv_if_ge (tgt := 25) hx hb d10 (by decide) (fun hc => ?_) (fun hc => ?_)
  · have h1 : zk_cp .ge (lg_cmp (x ^^^ 251) 0).toInt 0 := Int32.le_iff_toInt_le.mp hc
    have h2 : (0 : Int) ≤ (x ^^^ 251).toInt := zk_lcmp_cp _ _ .ge h1
    have hx0 : 0 ≤ x.toInt := Int.not_lt.mp fun z => absurd ((zh_fm_x x).mpr z) (Int.not_lt.mpr h2)
    obtain ⟨w1, w2⟩ := zh_fm_b m1 m2.2 hx0 m3
    exact lv_lload hx hb d25 (lv_at hls2 0 rfl) (k27 ls2 _ w1 w2 hls2)
  · have h1 : zk_cp .lt (lg_cmp (x ^^^ 251) 0).toInt 0 := Int.not_le.mp fun z => hc (Int32.le_iff_toInt_le.mpr z)
    have h2 : (x ^^^ 251).toInt < (0 : Int) := zk_lcmp_cp _ _ .lt h1
    have hx0 : x.toInt < 0 := (zh_fm_x x).mp h2
    refine lv_lload hx hb d13 (lv_at hls2 0 rfl) (lv_lconst (v := 0) hx hb d15 rfl ?_)
    refine W.lcmp hx hb d16 ?_
    refine lv_if_eq (tgt := 25) hx hb d17 (by decide) (fun he => ?_) (fun he => ?_)
    · have h3 : zk_cp .eq (lg_cmp (x - x / 251 * 251) 0).toInt 0 := by rw [he]; rfl
      have h4 : (x - x / 251 * 251).toInt = (0 : Int) := zk_lcmp_cp _ _ .eq h3
      obtain ⟨w1, w2⟩ := zh_fm_c h4
      exact lv_lload hx hb d25 (lv_at hls2 0 rfl) (k27 ls2 _ w1 w2 hls2)
    · have h3 : zk_cp .ne (lg_cmp (x - x / 251 * 251) 0).toInt 0 := fun z => he (Int32.toInt_inj.mp z)
      have h4 : (x - x / 251 * 251).toInt ≠ (0 : Int) := zk_lcmp_cp _ _ .ne h3
      rw [m1] at h4
      obtain ⟨w1, w2⟩ := zh_fm_a m1 m2.1 (m4 (Int.le_of_lt hx0)) h4
      refine lv_lload hx hb d20 (lv_at hls2 0 rfl) (lv_lload_n hx hb d22 rfl (lv_at hls2 2 rfl) (lv_ladd hx hb d23 ?_))
      exact k24 ls2 _ w1 w2 hls2
end ZM
section ZM2
variable {p : Program} {l : Launch} {e : Env} {R : Room} {s : State} {m : MethodId} {args : Array Value} {below : List Frame} {meth : Method} {c : Code} {Q : State → Prop} {KT : List zk_K} {D : zk_D} {base : Nat} {Hb : Heap} {n0 nL : Nat} {v0 : Nat → Value} {E : List (Nat × Nat)} {G0 : Nat → Nat} {H0 : Heap} {cc : ByteArray}
variable {P : zk_P} {AT : List FieldType} {C : zk_C}
/-- a state with one word more on the stack -/
theorem zq_push (hx : p.tables.exec = Jvm.exec) (hb : c.code = cc) {rt : Option FieldType} {x : zk_S} {pc fuel : Nat} {t : zk_T} {w : Value} {v : Nat → Value} (hw : zk_wd s KT D AT) (hok : zk_ok p l e R s m args below meth c Q KT D base Hb nL cc P C.2.2.2.2) (hR1 : R.cells = C.2.2.2.1) (hR2 : R.slots = C.2.2.2.2) (hr : meth.sig.returnType = rt) (hlocks : meth.locks = false) (hQ : ∀ t : State, MQ below (zk_Qf KT D base Hb C v G0 H0) args s C.2.2.2.1 C.2.2.2.2 (fun q => base ≤ q) t → Q t)
    (hchk : zk_chf KT P cc nL C rt [] [] (pc, zk_pu x [] t [] [], [], 0, 0) fuel 1 = true) {G : Nat → Nat} {H : Heap} {locs : List Loc} {ls ls2 : Array Slot} {vs : List Value} {v' : Nat → Value} (hp : zk_hp KT D base Hb G H) (he : zk_ev KT D C.2.2.1 G0 H0 G H) (hl : ∀ q ∈ locs, base ≤ q.base) (hF : zk_F KT D G H v' x) (hL : zk_LS C.1.1 v nL ls vs v' x) (hls2 : lv_has ls2 nL (x.2.1.map fun q => (q.1, v' q.2))) (ht : zk_tv G w t) : W p l e R s m args below meth c H locs 0 0 Q (F0 m pc ls2 [w]) :=
  zk_from (q0 := (pc, zk_pu x [] t [] [], [], 0, 0)) (hd := []) (xs := []) hx hb hw hok hR1 hR2 hr hlocks hQ hchk (fun q hq => absurd hq List.not_mem_nil) hp he hl (zk_F_up (w := w) (stk' := []) (rs := []) (ms := []) hF ht (fun q hq => absurd hq List.not_mem_nil) (fun q hq => absurd hq List.not_mem_nil)) (zk_LS_up (w := w) (stk' := []) (rs := []) (ms := []) (zk_LS_ls hL hls2) (fun q hq => absurd hq List.not_mem_nil))
set_option maxHeartbeats 1000000 in
theorem zq_fm_x (hx : p.tables.exec = Jvm.exec) (hb : c.code = cc) {rt : Option FieldType} {x : zk_S} {fuel : Nat} {v : Nat → Value} (hw : zk_wd s KT D AT) (hok : zk_ok p l e R s m args below meth c Q KT D base Hb nL cc P C.2.2.2.2) (hR1 : R.cells = C.2.2.2.1) (hR2 : R.slots = C.2.2.2.2) (hr : meth.sig.returnType = rt) (hlocks : meth.locks = false) (hQ : ∀ t : State, MQ below (zk_Qf KT D base Hb C v G0 H0) args s C.2.2.2.1 C.2.2.2.2 (fun q => base ≤ q) t → Q t)
    (d0 : decode cc 0 = .ok (.lload_n 0, 1)) (d1 : decode cc 1 = .ok (.lload_n 2, 1)) (d2 : decode cc 2 = .ok (.lrem, 1)) (d3 : decode cc 3 = .ok (.lstore 4, 2)) (d5 : decode cc 5 = .ok (.lload_n 0, 1)) (d6 : decode cc 6 = .ok (.lload_n 2, 1)) (d7 : decode cc 7 = .ok (.lxor, 1)) (d8 : decode cc 8 = .ok (.lconst 0, 1)) (d9 : decode cc 9 = .ok (.lcmp, 1)) (d10 : decode cc 10 = .ok (.ifCond .ge 15, 3)) (d13 : decode cc 13 = .ok (.lload 4, 2)) (d15 : decode cc 15 = .ok (.lconst 0, 1)) (d16 : decode cc 16 = .ok (.lcmp, 1)) (d17 : decode cc 17 = .ok (.ifCond .eq 8, 3)) (d20 : decode cc 20 = .ok (.lload 4, 2)) (d22 : decode cc 22 = .ok (.lload_n 2, 1)) (d23 : decode cc 23 = .ok (.ladd, 1)) (d25 : decode cc 25 = .ok (.lload 4, 2)) (hnL : nL = 6)
    (c1 : x.2.2.1 = []) (c2 : x.2.1 = [(0, 0), (2, 1)]) (t0 : (zk_lk x.2.2.2.1 0).1 = 1) (t1 : zk_lk x.2.2.2.1 1 = (1, 251, 251))
    (h24 : zk_chf KT P cc nL C rt [] [] (24, zk_pu x [] (1, 0, 250) [] [], [], 0, 0) fuel 1 = true) (h27 : zk_chf KT P cc nL C rt [] [] (27, zk_pu x [] (1, 0, 250) [] [], [], 0, 0) fuel 1 = true)
    {G : Nat → Nat} {H : Heap} {locs : List Loc} {ls : Array Slot} {vs : List Value} {v' : Nat → Value} (hp : zk_hp KT D base Hb G H) (he : zk_ev KT D C.2.2.1 G0 H0 G H) (hl : ∀ q ∈ locs, base ≤ q.base) (hF : zk_F KT D G H v' x) (hL : zk_LS C.1.1 v nL ls vs v' x) : W p l e R s m args below meth c H locs 0 0 Q (F0 m 0 ls vs) := by
  obtain ⟨e1, -⟩ := zk_LS_stk hL
  obtain ⟨hloc, -⟩ := zk_LS_loc hL
  have hvs : vs = [] := by rw [e1, c1]; rfl
  obtain ⟨xv, ex, -⟩ := zk_gl (zk_F_ty hF 0) t0
  have ty1 := zk_F_ty hF 1
  rw [t1] at ty1
  obtain ⟨yv, ey, y1, y2⟩ := zk_gl ty1 rfl
  have ey2 : yv = 251 := Int64.toInt_inj.mp (Int.le_antisymm y2 y1)
  subst ey2
  rw [c2] at hloc
  simp only [List.map_cons, List.map_nil, ex, ey] at hloc
  rw [hvs]
  have tv : ∀ w : Int64, 0 ≤ w.toInt → w.toInt ≤ 250 → zk_tv G (.long w) (1, 0, 250) := fun w a b => by
    unfold zk_tv
    rw [if_neg (by decide), if_pos rfl]
    exact ⟨w, rfl, a, b⟩
  have sub : ∀ ls2 : Array Slot, lv_has ls2 nL [(4, .long (xv - xv / 251 * 251)), (0, .long xv), (2, .long 251)] → lv_has ls2 nL (x.2.1.map fun q => (q.1, v' q.2)) := fun ls2 h2 => by
    rw [c2]
    simp only [List.map_cons, List.map_nil, ex, ey]
    exact lv_sub h2 [1, 2] rfl
  exact zh_fm hx hb d0 d1 d2 d3 d5 d6 d7 d8 d9 d10 d13 d15 d16 d17 d20 d22 d23 d25 hnL hloc (fun ls2 w w1 w2 h2 => zq_push hx hb hw hok hR1 hR2 hr hlocks hQ h24 hp he hl hF hL (sub ls2 h2) (tv w w1 w2)) (fun ls2 w w1 w2 h2 => zq_push hx hb hw hok hR1 hR2 hr hlocks hQ h27 hp he hl hF hL (sub ls2 h2) (tv w w1 w2))
end ZM2
