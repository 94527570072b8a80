/-! BY HAND: copyOf of a row of ints or longs -/
noncomputable section
def zq_pv (b : Nat) (w : Value) : Prop := if b = 0 then ∃ z : Int32, w = .int z else ∃ z : Int64, w = .long z
theorem zq_pv_r {b : Nat} {w : Value} (h : zq_pv b w) (q : Nat) : w ≠ .ref q := by
  unfold zq_pv at h
  split at h <;> obtain ⟨z, rfl⟩ := h <;> exact fun z => by cases z
/-- the new row's state -/
def zq_cpY (KT : List zk_K) (kD : Nat) (x : zk_S) : zk_S := zk_af (zk_pu (zk_st (zk_ex KT [] x false) []) [] (2, (kD : Int), 0) [] []) [] [(x.1, 1)] []
theorem zq_cp1 {n : Int32} {hi : Int} {sz : Nat} (h0 : 0 ≤ n.toInt) (h1 : n.toInt ≤ hi) (h2 : hi ≤ 100000) (h3 : sz = n.toNatClampNeg) : (sz : Int) = n.toInt ∧ (sz : Int) ≤ hi ∧ sz ≤ hi.toNat := by
  have := zq_nc h0
  omega
theorem zq_cp2 {sz : Nat} {n : Int32} (h : sz ≤ 100000) (e : n = sz.toInt32) : n.toInt = (sz : Int) := by
  rw [e, Int32.toInt_ofNat_small (by omega)]
theorem zq_cp3 {n len : Int32} {sl : Nat} {hi : Int} (h0 : 0 ≤ n.toInt) (h1 : n.toInt ≤ hi) (hl : len.toInt = (sl : Int)) : 0 ≤ (if n < len then n else len).toInt ∧ (if n < len then n else len).toInt ≤ (sl : Int) ∧ (if n < len then n else len).toInt ≤ n.toInt := by
  by_cases h : n < len
  · rw [if_pos h]
    have := Int32.lt_iff_toInt_lt.mp h
    omega
  · rw [if_neg h]
    have := Int.not_lt.mp fun z => h (Int32.lt_iff_toInt_lt.mpr z)
    omega
section ZC2
variable {p : Program} {l : Launch} {e : Env} {R : Room} {s : State} {m : MethodId} {args : Array Value} {below : List Frame} {meth : Method} {c : Code} {Q : State → Prop} {KT : List zk_K} {D : zk_D} {base : Nat} {Hb : Heap} {n0 nL : Nat} {v0 : Nat → Value} {E : List (Nat × Nat)} {G0 : Nat → Nat} {H0 : Heap} {cc : ByteArray}
variable {P : zk_P} {AT : List FieldType} {C : zk_C}
theorem zq_castA (hexec : p.tables.exec = Jvm.exec) (hb : c.code = cc) {H : Heap} {locs : List Loc} {cells slots pc a index : Nat} {ls : Array Slot} {rest : List Value} {own nm : String} {cell : Cell} (hown : s.vm.findClass own = some m.cls) (hlink : (Cond.classLink own index nm).before args s = true) (hc : H[a]? = some cell) (hv : cell.vm.isStatics = false) (hnm : s.vm.findClass nm = some cell.cls) (hdg : decode cc pc = .ok (.checkcast index, 3))
    (k : W p l e R s m args below meth c H locs cells slots Q (F0 m (pc + 3) ls (.ref a :: rest))) : W p l e R s m args below meth c H locs cells slots Q (F0 m pc ls (.ref a :: rest)) := by
  intro T hT X
  obtain ⟨vm', X', st⟩ := X.checkcastYes hexec hown hlink (by rw [hT]; exact hc) hv hnm (va_asg _ _) (g := F0 m pc ls (.ref a :: rest)) rfl rfl (by rw [hb]; exact hdg)
  obtain ⟨t, a1, b1⟩ := k (T.setVm vm') hT X'
  exact ⟨t, st t a1, b1⟩
/-- the return, with the new row -/
theorem zq_cp_ret (hx : p.tables.exec = Jvm.exec) (hb : c.code = cc) {rt : Option FieldType} {x : zk_S} {fuel kD pc b tD : Nat} {hi : Int} {v : Nat → Value} (hw : zk_wd s KT D AT) (hok : zk_ok p l e R s m args below meth c Q KT D base Hb nL cc P C.2.2.2.2) (hR1 : R.cells = C.2.2.2.1) (hR2 : R.slots = C.2.2.2.2) (hr : meth.sig.returnType = rt) (hlocks : meth.locks = false) (hQ : ∀ t : State, MQ below (zk_Qf KT D base Hb C v G0 H0) args s C.2.2.2.1 C.2.2.2.2 (fun q => base ≤ q) t → Q t)
    (hchk : zk_chf KT P cc nL C rt [] [] (pc, zq_cpY KT kD x, [], 1, hi.toNat) fuel 1 = true) (hk0 : kD ≠ 0) (hk1 : (zk_kd KT kD).1 ≠ 0) (hk2 : (zk_kd KT kD).2.1 = tD) (hk3 : (zk_kd KT kD).2.2.2.2.2.2.2 = 0) (hk4 : (zk_kd KT kD).2.2.2.2.2.1 = []) (hk5 : (zk_kd KT kD).2.2.2.1 ≤ 0) (hk6 : hi ≤ (zk_kd KT kD).2.2.2.2.1) (hkt : ∀ (t : zk_T), (zk_kd KT kD).2.2.1[0]? = some t → ∀ (G : Nat → Nat) (a : Nat) (w : Value), zq_pv b w → zk_ct G a w t) (hx1 : 1 < x.1)
    {G : Nat → Nat} {H H1 : Heap} {locs : List Loc} {ls ls2 : Array Slot} {v' : Nat → Value} {cn : Cell} {nv : Int32} (hp : zk_hp KT D base Hb G H) (he : zk_ev KT D C.2.2.1 G0 H0 G H) (hl : ∀ q ∈ locs, base ≤ q.base) (hF : zk_F KT D G H v' x) (hL : zk_LS C.1.1 v nL ls [] v' x) (en : v' 1 = .int nv) (hsz : (cn.slots.size : Int) = nv.toInt) (hsz2 : (cn.slots.size : Int) ≤ hi) (hcl : cn.cls = D.2.2.1 tD) (hvm : cn.vm = .none) (hel : ∀ (j : Nat) (w : Value), cn.slots[j]? = some w → zq_pv b w)
    (hc1 : H1[H.size]? = some cn) (hz1 : H1.size = H.size + 1) (ho : ∀ q : Nat, q < H.size → H1[q]? = H[q]?) (hls2 : lv_has ls2 nL (x.2.1.map fun q => (q.1, v' q.2))) : W p l e R s m args below meth c H1 locs 1 cn.slots.size Q (F0 m pc ls2 [.ref H.size]) := by
  have hok1 : zk_oc KT D (zk_un G H.size kD) kD H.size cn := ⟨⟨zk_vk_of hvm, fun _ => hvm⟩, fun z => absurd z hk1, fun _ => ⟨by rw [hk2]; exact hcl, by omega, by omega, fun t ht j w hw => hkt t ht _ _ w (hel j w hw)⟩⟩
  obtain ⟨hp1, ev1, -⟩ := zk_hp_new hw.1.1 hp (h := H.size) rfl hk0 hk3 hk4 hok1 hc1 hz1 ho
  have hF1 := zk_F_st [] (zk_F_ev (keep := false) hw.1 hF ev1 (fun z => by cases z))
  have hL1 : zk_LS C.1.1 v nL ls2 [] v' (zk_st (zk_ex KT [] x false) []) := zk_LS_st (stk' := []) (zk_LS_ex (zk_LS_ls hL hls2)) (fun q hq => absurd hq List.not_mem_nil)
  have hn1 : (zk_st (zk_ex KT [] x false) []).1 = x.1 := rfl
  have hty : zk_tv (zk_un G H.size kD) (.ref H.size) (2, (kD : Int), 0) := by
    unfold zk_tv
    rw [if_neg (show ¬ (2 : Nat) = 0 by decide), if_neg (show ¬ (2 : Nat) = 1 by decide), if_pos rfl]
    exact Or.inl ⟨H.size, rfl, by rw [zk_un_at], by rw [zk_un_at]; exact hk0⟩
  have hup := zk_F_up (w := .ref H.size) (stk' := []) (rs := []) (ms := []) hF1 hty (fun q hq => absurd hq List.not_mem_nil) (fun q hq => absurd hq List.not_mem_nil)
  have hLu := zk_LS_up (w := .ref H.size) (stk' := []) (t := (2, (kD : Int), 0)) (rs := []) (ms := []) hL1 (fun q hq => absurd hq List.not_mem_nil)
  rw [hn1] at hup hLu
  have hfin := zk_F_af (fs := []) (ns := [(x.1, 1)]) (ps := []) hup (fun q hq => absurd hq List.not_mem_nil) (fun q hq => by
    rw [List.mem_singleton.mp hq]
    refine ⟨Nat.lt_succ_self _, Nat.lt_succ_of_lt hx1, H.size, cn, ?_, ?_, ?_, hc1, ?_⟩
    · show zk_up v' x.1 _ x.1 = _
      rw [zk_up_at]
    · rw [zk_un_at]; exact hk0
    · rw [zk_un_at]; exact hk1
    · show zk_i (zk_up v' x.1 _ 1) = _
      rw [zk_up_lt hx1, en]
      exact hsz.symm) (fun q hq => absurd hq List.not_mem_nil)
  refine W.widen (Nat.le_refl 1) (show cn.slots.size ≤ hi.toNat by omega) ?_
  exact zk_from (q0 := (pc, zq_cpY KT kD x, [], 1, hi.toNat)) (hd := []) (xs := []) hx hb hw hok hR1 hR2 hr hlocks hQ hchk (fun q hq => absurd hq List.not_mem_nil) hp1 (zk_ev_tr hw.1 he (zk_ev_sb (by unfold zk_sb; rfl) ev1)) hl hfin (zk_LS_af hLu)
set_option maxHeartbeats 1000000 in
theorem zq_cp_x (hx : p.tables.exec = Jvm.exec) (hb : c.code = cc) (hml : c.maxLocals = 3) {rt : Option FieldType} {x : zk_S} {fuel kS kD b tD iC iT iM iA d : Nat} {hi : Int} {v : Nat → Value} {own ad : String} {ty : FieldType} {at1 : ArrayType} (hnL : nL = 3) (hw : zk_wd s KT D AT) (hok : zk_ok p l e R s m args below meth c Q KT D base Hb nL cc P C.2.2.2.2) (hR1 : R.cells = C.2.2.2.1) (hR2 : R.slots = C.2.2.2.2) (hr : meth.sig.returnType = rt) (hlocks : meth.locks = false) (hQ : ∀ t : State, MQ below (zk_Qf KT D base Hb C v G0 H0) args s C.2.2.2.1 C.2.2.2.2 (fun q => base ≤ q) t → Q t)
    (hown : s.vm.findClass own = some m.cls) (hfr : 1 ≤ R.frames) (hlo : 60 ≤ R.locals) (hc1 : C.2.2.2.1 = 1) (hc2 : C.2.2.2.2 = hi.toNat)
    (w1 : (Cond.methodLink own iC ⟨ad, "clone", "()Ljava/lang/Object;"⟩).before args s = true) (w2 : (Cond.sameMethod ad "java/lang/Object" "clone" "()Ljava/lang/Object;").before args s = true)
    (w3 : (Cond.native ⟨"java/lang/Object", "clone", "()Ljava/lang/Object;"⟩).before args s = true) (w4 : (Cond.instanceMethod ⟨"java/lang/Object", "clone", "()Ljava/lang/Object;"⟩).before args s = true)
    (w5 : (Cond.selects ad ⟨ad, "clone", "()Ljava/lang/Object;"⟩ ⟨"java/lang/Object", "clone", "()Ljava/lang/Object;"⟩).before args s = true) (w6 : (Cond.castable ad "java/lang/Cloneable").before args s = true) (w7 : (Cond.classLink own iT ad).before args s = true)
    (w8 : (Cond.methodLink own iM Lib.Math.min.name).before args s = true) (w9 : (Cond.static Lib.Math.min.name).before args s = true) (w10 : (Cond.initialized "java/lang/Math").before args s = true) (w11 : (Cond.code Lib.Math.min.name Lib.Math.min.code 2 (some .int)).before args s = true)
    (w12 : (Cond.methodLink own iA arraycopyName).before args s = true) (w13 : (Cond.native arraycopyName).before args s = true) (w14 : (Cond.static arraycopyName).before args s = true) (w15 : (Cond.initialized "java/lang/System").before args s = true)
    (hA : ArrOfT s (D.2.2.1 tD) ty) (hnm : s.vm.findClass ad = some (D.2.2.1 tD)) (hprim : refKind ty = false) (hfit : ∀ w, zq_pv b w → fits ty w = true) (hdv : zq_pv b (zk_dv d)) (hnak : zk_nak p l e R s m args below meth c Q D 15 2 tD d)
    (d0 : decode cc 0 = .ok (.iload_n 1, 1)) (d1 : decode cc 1 = .ok (.aload_n 0, 1)) (d2 : decode cc 2 = .ok (.arraylength, 1)) (d3 : decode cc 3 = .ok (.if_icmp .ne 11, 3)) (d6 : decode cc 6 = .ok (.aload_n 0, 1)) (d7 : decode cc 7 = .ok (.invokevirtual iC, 3)) (d10 : decode cc 10 = .ok (.checkcast iT, 3)) (d14 : decode cc 14 = .ok (.iload_n 1, 1)) (d17 : decode cc 17 = .ok (.astore_n 2, 1)) (d18 : decode cc 18 = .ok (.aload_n 0, 1)) (d19 : decode cc 19 = .ok (.iconst 0, 1)) (d20 : decode cc 20 = .ok (.aload_n 2, 1)) (d21 : decode cc 21 = .ok (.iconst 0, 1)) (d22 : decode cc 22 = .ok (.aload_n 0, 1)) (d23 : decode cc 23 = .ok (.arraylength, 1)) (d24 : decode cc 24 = .ok (.iload_n 1, 1)) (d25 : decode cc 25 = .ok (.invokestatic iM, 3)) (d28 : decode cc 28 = .ok (.invokestatic iA, 3)) (d31 : decode cc 31 = .ok (.aload_n 2, 1))
    (hS0 : kS ≠ 0) (hS1 : (zk_kd KT kS).1 ≠ 0) (hS2 : (zk_kd KT kS).2.1 = tD) (hS3 : (zk_kd KT kS).2.2.2.2.1 ≤ 100000) (hSt : ∃ t : zk_T, (zk_kd KT kS).2.2.1[0]? = some t ∧ ∀ (G : Nat → Nat) (a : Nat) (w : Value), zk_ct G a w t → zq_pv b w)
    (hk0 : kD ≠ 0) (hk1 : (zk_kd KT kD).1 ≠ 0) (hk2 : (zk_kd KT kD).2.1 = tD) (hk3 : (zk_kd KT kD).2.2.2.2.2.2.2 = 0) (hk4 : (zk_kd KT kD).2.2.2.2.2.1 = []) (hk5 : (zk_kd KT kD).2.2.2.1 ≤ 0) (hk6 : hi ≤ (zk_kd KT kD).2.2.2.2.1) (hkt : ∀ (t : zk_T), (zk_kd KT kD).2.2.1[0]? = some t → ∀ (G : Nat → Nat) (a : Nat) (w : Value), zq_pv b w → zk_ct G a w t) (hhi : hi ≤ 100000)
    (c1 : x.2.2.1 = []) (c2 : x.2.1 = [(0, 0), (1, 1)]) (hx1 : 1 < x.1) (t0 : zk_lk x.2.2.2.1 0 = (2, (kS : Int), 0)) (t1 : zk_lk x.2.2.2.1 1 = (0, 0, hi))
    (hchk13 : zk_chf KT P cc nL C rt [] [] (13, zq_cpY KT kD x, [], 1, hi.toNat) fuel 1 = true) (hchk32 : zk_chf KT P cc nL C rt [] [] (32, zq_cpY KT kD x, [], 1, hi.toNat) fuel 1 = true)
    {G : Nat → Nat} {H : Heap} {locs : List Loc} {ls : Array Slot} {vs : List Value} {v' : Nat → Value} (hp : zk_hp KT D base Hb G H) (he : zk_ev KT D C.2.2.1 G0 H0 G H) (hl : ∀ q ∈ locs, base ≤ q.base) (hF : zk_F KT D G H v' x) (hL : zk_LS C.1.1 v nL ls vs v' x) : W p l e R s m args below meth c H locs 0 0 Q (F0 m 0 ls vs) := by
  have ty0 := zk_F_ty hF 0
  rw [t0] at ty0
  obtain ⟨a, ea, hga, hg0⟩ := zk_gr ty0 rfl rfl
  have hga : G a = kS := by rw [hga]; exact Int.toNat_natCast _
  have ty1 := zk_F_ty hF 1
  rw [t1] at ty1
  obtain ⟨n, en, n1, n2⟩ := zk_gi ty1 rfl
  have n1 : 0 ≤ n.toInt := n1
  have n2 : n.toInt ≤ hi := n2
  obtain ⟨-, cs, hcs, q2, -⟩ := hp.2.2 a hg0
  obtain ⟨q3, q4, q5, q6⟩ := q2.2.2 (by rw [hga]; exact hS1)
  rw [hga] at q3 q4 q5 q6
  rw [hS2] at q3
  obtain ⟨tS, hS4, hS5⟩ := hSt
  have hpv : ∀ (j : Nat) (w : Value), cs.slots[j]? = some w → zq_pv b w := fun j w hw => hS5 _ _ w (q6 tS hS4 j w hw)
  have hvs : vs = [] := by rw [(zk_LS_stk hL).1, c1]; rfl
  subst hvs
  have hloc := (zk_LS_loc hL).1
  rw [c2] at hloc
  have hls : lv_has ls nL [(0, .ref a), (1, .int n)] := by
    have h2 : lv_has ls nL [(0, v' 0), (1, v' 1)] := hloc
    rw [ea, en] at h2
    exact h2
  subst hnL
  have hsub : ∀ ls2 : Array Slot, lv_has ls2 3 [(0, .ref a), (1, .int n)] → lv_has ls2 3 (x.2.1.map fun q => (q.1, v' q.2)) := fun ls2 h => by
    rw [c2]
    simp only [List.map_cons, List.map_nil, ea, en]
    exact h
  have hcsz : cs.slots.size ≤ 100000 := by omega
  have hlen : (cs.slots.size.toInt32).toInt = (cs.slots.size : Int) := zq_cp2 hcsz rfl
  refine lv_iload_n hx hb d0 rfl (lv_at hls 1 rfl) (lv_aload_n hx hb d1 rfl (lv_at hls 0 rfl) ?_)
  refine W.alen (n := cs.slots.size.toInt32) hx hb hcs (zk_isa hA q3 q2.1.1) rfl rfl rfl d2 ?_
  refine W.eq (g2 := F0 m 3 ls [.int cs.slots.size.toInt32, .int n]) rfl ?_
  refine lv_icmp_ne (tgt := 14) hx hb d3 (by decide) (fun _ => ?_) (fun hc => ?_)
  · refine lv_iload_n hx hb d14 rfl (lv_at hls 1 rfl) ?_
    have hnc := zq_nc n1
    refine hnak (fun z => absurd (Int32.lt_iff_toInt_lt.mp z) (Int.not_lt.mpr n1)) (by omega) (by rw [hR1, hc1]; exact Nat.le_refl _) (by rw [hR2, hc2]; omega) (fun H1 cn hc1' hcl hvm hsz hel hz1 ho => ?_)
    refine W.eq (g2 := F0 m 17 ls [.ref H.size]) rfl ?_
    refine lv_astore_n (lv' := [(2, .ref H.size), (0, .ref a), (1, .int n)]) hx hb d17 rfl hls (by decide) rfl (fun ls hls2 => ?_)
    refine lv_aload_n hx hb d18 rfl (lv_at hls2 1 rfl) (lv_iconst (v := 0) hx hb d19 rfl ?_)
    refine lv_aload_n hx hb d20 rfl (lv_at hls2 0 rfl) (lv_iconst (v := 0) hx hb d21 rfl ?_)
    refine lv_aload_n hx hb d22 rfl (lv_at hls2 1 rfl) ?_
    have ha : a < H.size := (Array.getElem?_eq_some_iff.mp hcs).1
    have hcs1 : H1[a]? = some cs := by rw [ho a ha]; exact hcs
    refine W.alen (n := cs.slots.size.toInt32) hx hb hcs1 (zk_isa hA q3 q2.1.1) rfl rfl rfl d23 ?_
    refine W.eq (g2 := F0 m 24 ls [.int cs.slots.size.toInt32, .int 0, .ref H.size, .int 0, .ref a]) rfl ?_
    refine lv_iload_n hx hb d24 rfl (lv_at hls2 2 rfl) ?_
    refine va_mmin hx hb (by rw [hml]; exact hls2.1.symm) hown w8 w9 w10 w11 hfr (Nat.le_trans (Nat.le_of_ble_eq_true rfl) hlo) (by rw [hR1, hc1]; exact Nat.le_refl _) (by rw [hR2, hc2]; omega) d25 ?_
    obtain ⟨m1, m2, m3⟩ := zq_cp3 n1 n2 hlen
    obtain ⟨r1, r2, r3⟩ := zq_cp1 n1 n2 hhi hsz
    refine zq_arrcp (a := H.size) hx hb (by rw [hml]; exact hls2.1.symm) hown w12 w13 w14 w15 hA hprim hcs1 hc1' q3 hcl q2.1.1 (zk_vk_of hvm) m1 m2 (by rw [r1]; exact m3) (fun i w hw => ⟨hfit w (hpv i w hw), zq_pv_r (hpv i w hw)⟩) hfr (Nat.le_trans (by decide +kernel) hlo) d28 (fun H2 locs2 cn2 hz2 hc2' ho2 hcl2 hvm2 hsz2 hel2 hl2 => ?_)
    refine lv_aload_n hx hb d31 rfl (lv_at hls2 0 rfl) ?_
    have hb0 : base ≤ H.size := hp.1.1
    have := zq_cp_ret (b := b) (tD := tD) (cn := cn2) (H1 := H2) (locs := locs2) (ls2 := ls) hx hb hw hok hR1 hR2 hr hlocks hQ hchk32 hk0 hk1 hk2 hk3 hk4 hk5 hk6 hkt hx1 hp he (fun q hq => by rcases hl2 q hq with h | h; exact hl q h; rw [h]; exact hb0) hF hL en (by rw [hsz2]; exact r1) (by rw [hsz2]; exact r2) (by rw [hcl2]; exact hcl) (by rw [hvm2]; exact hvm) (fun j w hw => by
        rcases hel2 j w hw with ⟨i, h⟩ | h
        · exact hpv i w h
        · rw [hel j w h]; exact hdv) hc2' (by rw [hz2]; exact hz1) (fun q hq => by rw [ho2 q (Nat.ne_of_lt hq)]; exact ho q hq) (hsub ls (lv_sub hls2 [1, 2] rfl))
    rw [hsz2, hsz] at this
    rw [Nat.zero_add, Nat.zero_add]
    exact this
  · refine lv_aload_n hx hb d6 rfl (lv_at hls 0 rfl) ?_
    have hnn : n.toInt = (cs.slots.size : Int) := by rw [hc]; exact hlen
    refine zq_clone hx hb (by rw [hml]; exact hls.1.symm) hown w1 w2 w3 w4 w5 w6 hA hnm hcs q3 q2.1.1 (fun i w hw => hfit w (hpv i w hw)) hfr (Nat.le_trans (by decide) hlo) (by rw [hR1, hc1]; exact Nat.le_refl _) (by rw [hR2, hc2]; omega) d7 (fun H1 hz1 hc1' ho => ?_)
    refine zq_castA hx hb hown w7 hc1' rfl (by rw [hnm]; exact congrArg some q3.symm) d10 ?_
    have := zq_cp_ret (b := b) (tD := tD) (cn := { cls := cs.cls, slots := cs.slots }) (H1 := H1) (locs := locs) (ls2 := ls) hx hb hw hok hR1 hR2 hr hlocks hQ hchk13 hk0 hk1 hk2 hk3 hk4 hk5 hk6 hkt hx1 hp he hl hF hL en hnn.symm (by rw [← hnn]; exact n2) q3 rfl hpv hc1' hz1 ho (hsub ls hls)
    rw [Nat.zero_add, Nat.zero_add]
    exact this
end ZC2
end
