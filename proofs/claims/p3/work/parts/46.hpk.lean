/-! PICK, by hand, 2 -/
noncomputable section
theorem zq_pk5 {n k : Int32} (h0 : 0 ≤ n.toInt) (h5 : n.toInt ≤ 5) {kk : Nat} (h : k.toInt = (kk + 1 : Nat)) (hk : k.toInt ≤ n.toInt) : 0 < k.toInt ∧ ¬ k.toInt ≤ 0 ∧ 0 ≤ (k - 1).toInt ∧ (k - 1).toInt < 5 ∧ (k + Int32.ofInt (-1)).toInt = kk ∧ (k + Int32.ofInt (-1)).toInt ≤ n.toInt := by
  obtain ⟨a, b, c, d⟩ := zq_pk1 h0 h5 (k := k) (by omega) hk
  omega
theorem zq_pk6 {n k n' : Int32} (h0 : 0 ≤ n.toInt) (h5 : n.toInt ≤ 5) (hk : k.toInt ≤ n.toInt) (hk0 : 0 ≤ k.toInt) (hk5 : k.toInt < 5) (e : (if (5 : Int32) < n + 1 then (5 : Int32) else n + 1) = n') : ∃ nn : Nat, (n' - 1).toInt = k.toInt + nn ∧ (n' - 1).toInt < n'.toInt ∧ n'.toInt ≤ 5 ∧ n'.toInt ≤ n.toInt + 1 ∧ 0 ≤ n'.toInt ∧ (n' - 1).toInt = n'.toInt - 1 := by
  have e1 : (n + 1).toInt = n.toInt + 1 := by
    rw [Int32.toInt_add, show (1 : Int32).toInt = 1 from rfl]
    exact Int.bmod_eq_of_le (by omega) (by omega)
  have key : k.toInt + 1 ≤ n'.toInt ∧ n'.toInt ≤ 5 ∧ n'.toInt ≤ n.toInt + 1 := by
    rw [← e]
    split
    · rename_i h
      have := Int32.lt_iff_toInt_lt.mp h
      rw [e1] at this
      have h5 : (5 : Int32).toInt = 5 := rfl
      rw [h5] at this ⊢
      omega
    · rename_i h
      have h5' : ¬ (5 : Int32).toInt < (n + 1).toInt := fun z => h (Int32.lt_iff_toInt_lt.mpr z)
      rw [e1, show (5 : Int32).toInt = 5 from rfl] at h5'
      rw [e1]
      omega
  have em : (n' - 1).toInt = n'.toInt - 1 := by
    rw [Int32.toInt_sub, show (1 : Int32).toInt = 1 from rfl]
    exact Int.bmod_eq_of_le (by omega) (by omega)
  refine ⟨((n' - 1).toInt - k.toInt).toNat, ?_⟩
  omega
theorem zq_pk7 {tv z : Int32} {q : Int} (h : 0 ≤ tv.toInt) (h2 : tv.toInt ≤ 159) (hz : z.toInt ≤ tv.toInt) (h0 : 0 ≤ q) (hq : q < z.toInt) : (tv + 1).toInt = tv.toInt + 1 ∧ 0 ≤ q ∧ q < tv.toInt + 1 := by
  have e1 : (tv + 1).toInt = tv.toInt + 1 := by
    rw [Int32.toInt_add, show (1 : Int32).toInt = 1 from rfl]
    exact Int.bmod_eq_of_le (by omega) (by omega)
  omega
theorem zq_pk8 {tv : Int32} (h : 0 ≤ tv.toInt) (h2 : tv.toInt ≤ 159) : (tv + 1).toInt = tv.toInt + 1 ∧ 1 ≤ (tv + 1).toInt ∧ (tv + 1).toInt ≤ 160 ∧ tv.toInt < tv.toInt + 1 := by
  have e1 : (tv + 1).toInt = tv.toInt + 1 := by
    rw [Int32.toInt_add, show (1 : Int32).toInt = 1 from rfl]
    exact Int.bmod_eq_of_le (by omega) (by omega)
  omega
theorem zq_pk9 {k : Int32} (h : ¬ k < 5) (hk : k.toInt < 5) : False := h (Int32.lt_iff_toInt_lt.mpr (by rw [show (5 : Int32).toInt = 5 from rfl]; exact hk))
theorem zq_sz5 {n : Nat} (h1 : (5 : Int) ≤ n) (h2 : (n : Int) ≤ 5) : n = 5 := by omega
theorem zq_pk10 {j : Int} {n' : Int32} (h : (n' - 1).toInt < j) (h3 : (n' - 1).toInt = n'.toInt - 1) : ¬ j < n'.toInt := by omega
theorem zq_pk11 {t y : Int} (h : t ≤ 159) (h2 : 159 ≤ y) : t + 1 ≤ y + 1 := by omega
section ZK
variable {p : Program} {l : Launch} {e : Env} {R : Room} {s : State} {m : MethodId} {args : Array Value} {below : List Frame} {meth : Method} {c : Code} {Q : State → Prop} {KT : List zk_K} {D : zk_D} {base : Nat} {Hb : Heap} {n0 nL : Nat} {v0 : Nat → Value} {E : List (Nat × Nat)} {G0 : Nat → Nat} {H0 : Heap} {cc : ByteArray}
variable {cells slots : Nat}
set_option maxHeartbeats 1000000 in
theorem zq_pk_core (hx : p.tables.exec = Jvm.exec) (hb : c.code = cc) (hkt : zk_kt KT) (hdj : zk_dj KT D) (hAT : ArrOfT s (D.2.2.1 0) .int) {kP kW kA ci iW iA iP : Nat} {tA : zk_T} {hiP : Int} (hgP : zk_gok p l e R s m args below meth c Q D cc iP ci 2) (hpP : zk_pok p l e R s m args below meth c Q D cc iP ci 2 0) (hgW : zk_gok p l e R s m args below meth c Q D cc iW ci 0) (hgA : zk_gok p l e R s m args below meth c Q D cc iA ci 1) (hW : zq_row KT kW) (hWt : (zk_kd KT kW).2.2.1[0]? = some zk_I) (hWs : (zk_kd KT kW).2.2.2.1 = 5 ∧ (zk_kd KT kW).2.2.2.2.1 = 5) (hA : zq_row KT kA) (hAt : (zk_kd KT kA).2.2.1[0]? = some tA) (hAs : (zk_kd KT kA).2.2.2.1 = 5 ∧ (zk_kd KT kA).2.2.2.2.1 = 5) (hA1 : tA.2.1 ≤ 0) (hA2 : 159 ≤ tA.2.2) (hWA : kW ≠ kA) (hP0 : kP ≠ 0) (hP1 : (zk_kd KT kP).1 = 0) (hP2 : (zk_kd KT kP).2.1 = ci) (hPr : (zk_kd KT kP).2.2.2.2.2.2.2 = 0) (hPi : (zk_kd KT kP).2.2.2.2.2.1 = []) (hPt : (zk_kd KT kP).2.2.1[2]? = some (0, 0, 5))
    (dA : decode cc 0 = .ok (.aload_n 0, 1)) (d1 : decode cc 1 = .ok (.getfield iP, 3)) (d4 : decode cc 4 = .ok (.istore_n 3, 1)) (d5 : decode cc 5 = .ok (.iload_n 3, 1)) (d6 : decode cc 6 = .ok (.ifCond .le 27, 3)) (d9 : decode cc 9 = .ok (.aload_n 0, 1)) (d10 : decode cc 10 = .ok (.getfield iW, 3)) (d13 : decode cc 13 = .ok (.iload_n 3, 1)) (d14 : decode cc 14 = .ok (.iconst 1, 1)) (d15 : decode cc 15 = .ok (.isub, 1)) (d16 : decode cc 16 = .ok (.iaload, 1)) (d20 : decode cc 20 = .ok (.iload_n 1, 1)) (d24 : decode cc 24 = .ok (.if_icmp .ge 9, 3)) (d27 : decode cc 27 = .ok (.iinc 3 (-1), 3)) (d30 : decode cc 30 = .ok (.goto (-25), 3)) (d33 : decode cc 33 = .ok (.iload_n 3, 1)) (d34 : decode cc 34 = .ok (.iconst 5, 1)) (d35 : decode cc 35 = .ok (.if_icmp .lt 4, 3))
    (d39 : decode cc 39 = .ok (.aload_n 0, 1)) (d40 : decode cc 40 = .ok (.aload_n 0, 1)) (d41 : decode cc 41 = .ok (.getfield iP, 3)) (d44 : decode cc 44 = .ok (.iconst 1, 1)) (d45 : decode cc 45 = .ok (.iadd, 1)) (d46 : decode cc 46 = .ok (.iconst 5, 1)) (d50 : decode cc 50 = .ok (.putfield iP, 3)) (d53 : decode cc 53 = .ok (.aload_n 0, 1)) (d54 : decode cc 54 = .ok (.getfield iP, 3)) (d57 : decode cc 57 = .ok (.iconst 1, 1)) (d58 : decode cc 58 = .ok (.isub, 1)) (d59 : decode cc 59 = .ok (.istore 4, 2))
    (d61 : decode cc 61 = .ok (.iload 4, 2)) (d63 : decode cc 63 = .ok (.iload_n 3, 1)) (d64 : decode cc 64 = .ok (.if_icmp .le 41, 3)) (d67 : decode cc 67 = .ok (.aload_n 0, 1)) (d68 : decode cc 68 = .ok (.getfield iW, 3)) (d71 : decode cc 71 = .ok (.iload 4, 2)) (d73 : decode cc 73 = .ok (.aload_n 0, 1)) (d74 : decode cc 74 = .ok (.getfield iW, 3)) (d77 : decode cc 77 = .ok (.iload 4, 2)) (d79 : decode cc 79 = .ok (.iconst 1, 1)) (d80 : decode cc 80 = .ok (.isub, 1)) (d81 : decode cc 81 = .ok (.iaload, 1)) (d82 : decode cc 82 = .ok (.iastore, 1))
    (d83 : decode cc 83 = .ok (.aload_n 0, 1)) (d84 : decode cc 84 = .ok (.getfield iA, 3)) (d87 : decode cc 87 = .ok (.iload 4, 2)) (d89 : decode cc 89 = .ok (.aload_n 0, 1)) (d90 : decode cc 90 = .ok (.getfield iA, 3)) (d93 : decode cc 93 = .ok (.iload 4, 2)) (d95 : decode cc 95 = .ok (.iconst 1, 1)) (d96 : decode cc 96 = .ok (.isub, 1)) (d97 : decode cc 97 = .ok (.iaload, 1)) (d98 : decode cc 98 = .ok (.iastore, 1)) (d99 : decode cc 99 = .ok (.iinc 4 (-1), 3)) (d102 : decode cc 102 = .ok (.goto (-41), 3))
    (d105 : decode cc 105 = .ok (.aload_n 0, 1)) (d106 : decode cc 106 = .ok (.getfield iW, 3)) (d109 : decode cc 109 = .ok (.iload_n 3, 1)) (d110 : decode cc 110 = .ok (.iload_n 1, 1)) (d111 : decode cc 111 = .ok (.iastore, 1)) (d112 : decode cc 112 = .ok (.aload_n 0, 1)) (d113 : decode cc 113 = .ok (.getfield iA, 3)) (d116 : decode cc 116 = .ok (.iload_n 3, 1)) (d117 : decode cc 117 = .ok (.iload_n 2, 1)) (d118 : decode cc 118 = .ok (.iastore, 1)) (hnL : nL = 5)
    (hab : ∀ {H : Heap} {locs : List Loc} {pc : Nat} {ls : Array Slot} {x : Int32} {rest : List Value}, (pc = 17 ∨ pc = 21) → ls.size = nL → rest.length ≤ 1 → (∀ q ∈ rest, q.category = 1) → (∀ r : Int32, W p l e R s m args below meth c H locs cells slots Q (F0 m (pc + 3) ls (.int r :: rest))) → W p l e R s m args below meth c H locs cells slots Q (F0 m pc ls (.int x :: rest)))
    (hmin : ∀ {H : Heap} {locs : List Loc} {ls : Array Slot} {x y : Int32} {a : Nat}, ls.size = nL → W p l e R s m args below meth c H locs cells slots Q (F0 m 50 ls (.int (if y < x then y else x) :: [.ref a])) → W p l e R s m args below meth c H locs cells slots Q (F0 m 47 ls (.int y :: .int x :: [.ref a])))
    {G : Nat → Nat} {H : Heap} {locs : List Loc} {ls : Array Slot} {a : Nat} {wv tv z : Int32} (hp : zk_hp KT D base Hb G H) (hl : ∀ q ∈ locs, base ≤ q.base) (hga : G a = kP) (hgh : zq_1003 KT D.2.1 kP kA G H a (.int z)) (h0t : (zk_kd KT kP).2.2.1[0]? = some (2, (kW : Int), 0)) (t0 : 0 ≤ tv.toInt) (t1 : tv.toInt ≤ 159) (hz : z.toInt ≤ tv.toInt) (hne : D.2.1 ci 0 ≠ D.2.1 ci 2) (hne1 : D.2.1 ci 1 ≠ D.2.1 ci 2) (hls : lv_has ls nL [(0, .ref a), (1, .int wv), (2, .int tv)])
    (kk : ∀ (pc : Nat) (H2 : Heap) (locs2 : List Loc) (ls2 : Array Slot), (pc = 38 ∨ pc = 119) → zk_hp KT D base Hb G H2 → zk_ev KT D [(kP, 2), (kW, 0), (kA, 0)] G H G H2 → H2.size = H.size → zq_1003 KT D.2.1 kP kA G H2 a (.int (tv + 1)) → (∃ cell2, H2[a]? = some cell2) → (∀ q ∈ locs2, base ≤ q.base) → lv_has ls2 nL [(0, .ref a), (1, .int wv), (2, .int tv)] → W p l e R s m args below meth c H2 locs2 cells slots Q (F0 m pc ls2 [])) : W p l e R s m args below meth c H locs cells slots Q (F0 m 0 ls []) := by
  obtain ⟨cell, ca, ba, n, z', hz', -, hca, h2n, h1b, hgb, hcb, hgood⟩ := hgh
  cases hz'
  rw [hP2] at h2n h1b
  obtain ⟨w0, w1, w2⟩ := zq_fld hp hP0 hP1 hP2 hga hca h0t
  obtain ⟨bw, eb, hgw, hgw0⟩ := zk_gr w2 rfl rfl
  have hgw : G bw = kW := by rw [hgw]; exact Int.toNat_natCast _
  rw [eb] at w1
  obtain ⟨-, cw, hcw, -, -⟩ := hp.2.2 bw hgw0
  obtain ⟨n2, n3, n4⟩ := zq_fld hp hP0 hP1 hP2 hga hca hPt
  rw [h2n] at n3; cases n3
  obtain ⟨nn, en, nn0, nn5⟩ := zk_gi n4 rfl
  cases en
  have nn0 : 0 ≤ n.toInt := nn0
  have nn5 : n.toInt ≤ 5 := nn5
  obtain ⟨-, -, cs1, cs2⟩ := zq_cls hp hW hgw hcw
  have hws : cw.slots.size = 5 := by rw [hWs.1] at cs1; rw [hWs.2] at cs2; exact zq_sz5 cs1 cs2
  obtain ⟨-, -, as1, as2⟩ := zq_cls hp hA hgb hcb
  have has : ca.slots.size = 5 := by rw [hAs.1] at as1; rw [hAs.2] at as2; exact zq_sz5 as1 as2
  obtain ⟨-, cl, r1, r2, -⟩ := hp.2.2 a (by rw [hga]; exact hP0)
  rw [hca] at r1; cases r1
  have hcla := (r2.2.1 (by rw [hga]; exact hP1)).1
  rw [hga, hP2] at hcla
  have hvm : cell.vm = .none := r2.1.2 (by rw [hga]; exact hPr)
  have haw : bw ≠ a := fun e => by rw [e, hga] at hgw; rw [← hgw] at hW; exact hW.2.1 hP1
  have hba : ba ≠ a := fun e => by rw [e, hga] at hgb; rw [← hgb] at hA; exact hA.2.1 hP1
  have hwb : bw ≠ ba := fun e => by rw [e, hgb] at hgw; exact hWA hgw.symm
  obtain ⟨tt1, tt2, tt3, tt4⟩ := zq_pk8 t0 t1
  have hnL' := hnL
  -- behind the first loop
  have rest : ∀ (ls1 : Array Slot) (k : Int32), 0 ≤ k.toInt → k.toInt ≤ n.toInt → lv_has ls1 nL [(3, .int k), (0, .ref a), (1, .int wv), (2, .int tv)] → W p l e R s m args below meth c H locs cells slots Q (F0 m 33 ls1 []) := by
    intro ls1 k hk0 hkn hls1
    subst hnL
    refine lv_iload_n hx hb d33 rfl (lv_at hls1 0 rfl) (lv_iconst (v := 5) hx hb d34 rfl ?_)
    refine lv_icmp_lt (tgt := 39) hx hb d35 (by decide) (fun hlt => ?_) (fun hge => ?_)
    case refine_2 =>
      refine kk 38 H locs ls1 (Or.inl rfl) hp zk_ev_rf rfl ⟨cell, ca, ba, n, tv + 1, rfl, hga, hca, by rw [hP2]; exact h2n, by rw [hP2]; exact h1b, hgb, hcb, fun j hj => ?_⟩ ⟨cell, hca⟩ hl (lv_sub hls1 [1, 2, 3] rfl)
      obtain ⟨q, q1, q2, q3⟩ := hgood j hj
      obtain ⟨u1, u2, u3⟩ := zq_pk7 t0 t1 hz q2 q3
      exact ⟨q, q1, u2, by rw [u1]; exact u3⟩
    have hk5 : k.toInt < 5 := Int32.lt_iff_toInt_lt.mp hlt
    refine lv_aload_n hx hb d39 rfl (lv_at hls1 1 rfl) (lv_aload_n hx hb d40 rfl (lv_at hls1 1 rfl) (hgP hca hcla r2.1.1 h2n d41 ?_))
    refine lv_iconst (v := 1) hx hb d44 rfl (lv_iadd hx hb d45 (lv_iconst (v := 5) hx hb d46 rfl ?_))
    refine hmin hls1.1 ?_
    obtain ⟨n', en'⟩ : ∃ n' : Int32, (if (5 : Int32) < n + 1 then (5 : Int32) else n + 1) = n' := ⟨_, rfl⟩
    rw [en']
    obtain ⟨mm, m1, m2, m3, m4, m5, m6⟩ := zq_pk6 nn0 nn5 hkn hk0 hk5 en'
    refine hpP hca hcla hvm h2n (⟨n', rfl⟩ : zk_fv 0 (.int n')) d50 (fun H1 f1 f2 f3 => ?_)
    have f1' : H1[a]? = some (cell.setSlot (zk_sl KT D (G a) 2) (.int n')) := by unfold zk_sl; rw [hga, hP2]; exact f1
    have hty : zk_tv G (.int n') (0, 0, 5) := zk_tv_int m5 m3
    obtain ⟨hp1, ev1, -, hb1⟩ := zk_hp_put hdj hp (by rw [hga]; exact hP0) (by rw [hga]; exact hP1) (by rw [hga]; exact hPr) hca (by rw [hga]; exact hPt) (w := .int n') ⟨hty, fun z => by cases z⟩ (fun q hq => by rw [hga, hPi] at hq; exact absurd hq List.not_mem_nil) f1' f2 f3
    rw [hga] at ev1
    have s2 : (cell.setSlot (D.2.1 ci 2) (.int n')).slots[D.2.1 ci 2]? = some (.int n') := Cell.slots_setSlot_self _ (k2_hasslot h2n)
    have s0 : (cell.setSlot (D.2.1 ci 2) (.int n')).slots[D.2.1 ci 0]? = some (.ref bw) := by rw [slot_ne _ _ (fun z => hne z.symm)]; exact w1
    have s1 : (cell.setSlot (D.2.1 ci 2) (.int n')).slots[D.2.1 ci 1]? = some (.ref ba) := by rw [slot_ne _ _ (fun z => hne1 z.symm)]; exact h1b
    refine lv_aload_n hx hb d53 rfl (lv_at hls1 1 rfl) (hgP f1 hcla r2.1.1 s2 d54 ?_)
    refine lv_iconst (v := 1) hx hb d57 rfl (lv_isub hx hb d58 ?_)
    refine lv_istore (lv' := [(4, .int (n' - 1)), (3, .int k), (0, .ref a), (1, .int wv), (2, .int tv)]) hx hb d59 hls1 (by decide) rfl (fun ls2 hls2 => ?_)
    have hmv0 : zq_mv ca (tv.toInt + 1) n.toInt n'.toInt (n' - 1).toInt := ⟨has, fun j hj hj2 => absurd hj2 (zq_pk10 hj m6), fun j hj hj2 => by
      obtain ⟨q, q1, q2, q3⟩ := hgood j hj2
      obtain ⟨u1, u2, u3⟩ := zq_pk7 t0 t1 hz q2 q3
      exact ⟨q, q1, u2, u3⟩⟩
    refine zq_pk_l2 (B := tv.toInt + 1) (n := n.toInt) (tA := tA) (H := H1) hx hb hkt hAT hgW hgA hW hWt hA hAt hA1 (zq_pk11 t1 hA2) hWA hP0 hP1 hP2 d61 d63 d64 d67 d68 d71 d73 d74 d77 d79 d80 d81 d82 d83 d84 d87 d89 d90 d93 d95 d96 d97 d98 d99 d102 rfl hga hgw hgb s0 s1 hk0 m3 m4 (fun H2 locs2 ls3 cw2 ca2 i hi hp2 he2 hz2 hca2 hcw2 hws2 hcb2 hmv2 hl2 hls3 => ?_) mm H1 _ ls2 cw ca (n' - 1) m1 m2 hp1 zk_ev_rf rfl f1 (by rw [f3 bw haw]; exact hcw) hws (by rw [f3 ba hba]; exact hcb) hmv0 (zk_locs hl hb1) hls2
    have hrw := zk_rng wv
    refine lv_aload_n hx hb d105 rfl (lv_at hls3 2 rfl) (hgW hca2 hcla r2.1.1 s0 d106 ?_)
    refine lv_iload_n hx hb d109 rfl (lv_at hls3 1 rfl) (lv_iload_n hx hb d110 rfl (lv_at hls3 3 rfl) ?_)
    refine zq_ist hx hb hAT (t := zk_I) hp2 hl2 hW hgw hcw2 hk0 (by rw [hws2]; exact hk5) hWt hrw.1 hrw.2 d111 (fun H3 locs3 hp3 he3 hz3 ew3 eo3 hl3 => ?_)
    have hca3 : H3[a]? = some (cell.setSlot (D.2.1 ci 2) (.int n')) := by rw [eo3 a (fun z => haw z.symm)]; exact hca2
    have hcb3 : H3[ba]? = some ca2 := by rw [eo3 ba (fun z => hwb z.symm)]; exact hcb2
    refine lv_aload_n hx hb d112 rfl (lv_at hls3 2 rfl) (hgA hca3 hcla r2.1.1 s1 d113 ?_)
    refine lv_iload_n hx hb d116 rfl (lv_at hls3 1 rfl) (lv_iload_n hx hb d117 rfl (lv_at hls3 4 rfl) ?_)
    refine zq_ist hx hb hAT (t := tA) hp3 hl3 hA hgb hcb3 hk0 (by rw [hmv2.1]; exact hk5) hAt (Int.le_trans hA1 t0) (Int.le_trans t1 hA2) d118 (fun H4 locs4 hp4 he4 hz4 eb4 eo4 hl4 => ?_)
    have hca4 : H4[a]? = some (cell.setSlot (D.2.1 ci 2) (.int n')) := by rw [eo4 a (fun z => hba z.symm)]; exact hca3
    have hfin := zq_mv_fin hmv2 (Int.le_of_eq hi) (by rw [hi]; exact Int.le_of_lt (Int.lt_succ _)) hk0 hk5 hkn t0 tt4
    have sb1 : zk_sb [(kP, 2)] [(kP, 2), (kW, 0), (kA, 0)] = true := by simp only [zk_sb, List.all_cons, List.all_nil, Bool.and_true]; simp only [zk_me_eq]; simp [Nat.beq_refl]
    have sb2 : zk_sb [(kW, 0), (kA, 0)] [(kP, 2), (kW, 0), (kA, 0)] = true := by simp only [zk_sb, List.all_cons, List.all_nil, Bool.and_true]; simp only [zk_me_eq]; simp [Nat.beq_refl]
    have sb3 : zk_sb [(kW, 0)] [(kP, 2), (kW, 0), (kA, 0)] = true := by simp only [zk_sb, List.all_cons, List.all_nil, Bool.and_true]; simp only [zk_me_eq]; simp [Nat.beq_refl]
    have sb4 : zk_sb [(kA, 0)] [(kP, 2), (kW, 0), (kA, 0)] = true := by simp only [zk_sb, List.all_cons, List.all_nil, Bool.and_true]; simp only [zk_me_eq]; simp [Nat.beq_refl]
    refine kk 119 H4 locs4 ls3 (Or.inr rfl) hp4 (zk_ev_tr hkt (zk_ev_sb sb1 ev1) (zk_ev_tr hkt (zk_ev_sb sb2 he2) (zk_ev_tr hkt (zk_ev_sb sb3 he3) (zk_ev_sb sb4 he4)))) (hz4.trans (hz3.trans (hz2.trans f2))) ⟨_, _, ba, n', tv + 1, rfl, hga, hca4, by rw [hP2]; exact s2, by rw [hP2]; exact s1, hgb, eb4, fun j hj => ?_⟩ ⟨_, hca4⟩ hl4 (lv_sub hls3 [2, 3, 4] rfl)
    obtain ⟨q, q1, q2, q3⟩ := hfin j hj
    exact ⟨q, q1, q2, by rw [tt1]; exact q3⟩
  have loop : ∀ (kn : Nat) (ls1 : Array Slot) (k : Int32), k.toInt = kn → k.toInt ≤ n.toInt → lv_has ls1 nL [(3, .int k), (0, .ref a), (1, .int wv), (2, .int tv)] → W p l e R s m args below meth c H locs cells slots Q (F0 m 5 ls1 []) := by
    intro kn
    induction kn with
    | zero =>
      intro ls1 k hk hkn hls1
      refine lv_iload_n hx hb d5 rfl (lv_at hls1 0 rfl) ?_
      refine lv_if_le (tgt := 33) hx hb d6 (by decide) (fun _ => rest ls1 k (Int.le_of_eq hk.symm) hkn hls1) (fun hn => absurd (Int32.le_iff_toInt_le.mpr (Int.le_of_eq hk)) hn)
    | succ kn ih =>
      intro ls1 k hk hkn hls1
      obtain ⟨x1, x2, x3, x4, x5, x6⟩ := zq_pk5 nn0 nn5 hk hkn
      refine lv_iload_n hx hb d5 rfl (lv_at hls1 0 rfl) ?_
      refine lv_if_le (tgt := 33) hx hb d6 (by decide) (fun hn => absurd (Int32.le_iff_toInt_le.mp hn) x2) (fun _ => ?_)
      refine lv_aload_n hx hb d9 rfl (lv_at hls1 1 rfl) (hgW hca hcla r2.1.1 w1 d10 ?_)
      refine lv_iload_n hx hb d13 rfl (lv_at hls1 0 rfl) (lv_iconst (v := 1) hx hb d14 rfl (lv_isub hx hb d15 ?_))
      refine zq_ild hx hb hAT hp hW hgw hcw x3 (by rw [hws]; exact x4) d16 (fun q1 t1 _ _ _ _ => ?_)
      refine hab (Or.inl rfl) hls1.1 (Nat.zero_le _) (fun q hq => absurd hq List.not_mem_nil) (fun r => ?_)
      refine lv_iload_n hx hb d20 rfl (lv_at hls1 2 rfl) ?_
      refine hab (Or.inr rfl) hls1.1 (Nat.le_refl _) (fun q hq => by rw [List.mem_singleton.mp hq]; rfl) (fun r2 => ?_)
      refine lv_icmp_ge (tgt := 33) hx hb d24 (by decide) (fun _ => rest ls1 k (Int.le_of_lt x1) hkn hls1) (fun _ => ?_)
      refine lv_iinc (k := 0) (v := k + Int32.ofInt (-1)) (lv' := [(3, .int (k + Int32.ofInt (-1))), (0, .ref a), (1, .int wv), (2, .int tv)]) hx hb d27 hls1 rfl rfl (by rw [hnL']; decide) rfl (fun ls2 hls2 => ?_)
      exact lv_goto (tgt := 5) hx hb d30 (by decide) (ih ls2 (k + Int32.ofInt (-1)) x5 x6 hls2)
  refine lv_aload_n hx hb dA rfl (lv_at hls 0 rfl) (hgP hca hcla r2.1.1 h2n d1 ?_)
  refine lv_istore_n (lv' := [(3, .int n), (0, .ref a), (1, .int wv), (2, .int tv)]) hx hb d4 rfl hls (by rw [hnL']; decide) rfl (fun ls1 hls1 => ?_)
  exact loop n.toInt.toNat ls1 n (Int.toNat_of_nonneg nn0).symm (Int.le_refl _) hls1
end ZK
theorem zq_pk12 (a : Int) : a ≤ a + 1 + -1 := by omega
def zq_pkY (KT : List zk_K) (kP kW kA : Nat) (x : zk_S) : zk_S := zk_af (zk_st (zk_pu (zk_st (zk_ex KT [(kP, 2), (kW, 0), (kA, 0)] x true) []) [] (0, 1, 160) [(x.1, 2, 1), (2, x.1, -1)] []) []) [(0, 1003, x.1)] [] []
section ZK2
variable {p : Program} {l : Launch} {e : Env} {R : Room} {s : State} {m : MethodId} {args : Array Value} {below : List Frame} {meth : Method} {c : Code} {Q : State → Prop} {KT : List zk_K} {D : zk_D} {base : Nat} {Hb : Heap} {n0 nL : Nat} {v0 : Nat → Value} {E : List (Nat × Nat)} {G0 : Nat → Nat} {H0 : Heap} {cc : ByteArray}
variable {P : zk_P} {AT : List FieldType} {C : zk_C}
set_option maxHeartbeats 1000000 in
theorem zq_pk_fin (hx : p.tables.exec = Jvm.exec) (hb : c.code = cc) {rt : Option FieldType} {x : zk_S} {pc fuel kM kS kC kT kP kA kW : Nat} {v : Nat → Value} (hw : zk_wd s KT D AT) (hok : zk_ok p l e R s m args below meth c Q KT D base Hb nL cc P C.2.2.2.2) (hR1 : R.cells = C.2.2.2.1) (hR2 : R.slots = C.2.2.2.2) (hr : meth.sig.returnType = rt) (hlocks : meth.locks = false) (hQ : ∀ t : State, MQ below (zk_Qf KT D base Hb C v G0 H0) args s C.2.2.2.1 C.2.2.2.2 (fun q => base ≤ q) t → Q t) (hA : zq_all KT D kM kS kC kT kP kA) (hC : zk_sb [(kP, 2), (kW, 0), (kA, 0)] C.2.2.1 = true) (hP1 : (zk_kd KT kP).1 = 0) (hP0 : kP ≠ 0)
    (c2 : x.2.1 = [(0, 0), (1, 1), (2, 2)]) (hn : 2 < x.1) (hchk : zk_chf KT P cc nL C rt [] [] (pc, zq_pkY KT kP kW kA x, [], 0, 0) fuel 1 = true)
    {G : Nat → Nat} {H H2 : Heap} {locs : List Loc} {ls ls2 : Array Slot} {v' : Nat → Value} {a : Nat} {wv tv : Int32} {cell2 : Cell} (he : zk_ev KT D C.2.2.1 G0 H0 G H) (hF : zk_F KT D G H v' x) (hL : zk_LS C.1.1 v nL ls [] v' x) (ea : v' 0 = .ref a) (ew : v' 1 = .int wv) (et : v' 2 = .int tv) (hga : G a = kP) (t0 : 0 ≤ tv.toInt) (t1 : tv.toInt ≤ 159)
    (hp2 : zk_hp KT D base Hb G H2) (ev2 : zk_ev KT D [(kP, 2), (kW, 0), (kA, 0)] G H G H2) (hz2 : H2.size = H.size) (hg2 : zq_1003 KT D.2.1 kP kA G H2 a (.int (tv + 1))) (hc2 : H2[a]? = some cell2) (hl2 : ∀ q ∈ locs, base ≤ q.base) (hls2 : lv_has ls2 nL [(0, .ref a), (1, .int wv), (2, .int tv)]) : W p l e R s m args below meth c H2 locs 0 0 Q (F0 m pc ls2 []) := by
  obtain ⟨u1, u2, u3, -⟩ := zq_pk8 t0 t1
  have n0 : 0 < x.1 := Nat.lt_of_le_of_lt (Nat.zero_le _) hn
  have hF1 := zk_F_st [] (zk_F_ev (keep := true) hw.1 hF ev2 (fun _ => hz2))
  have hls3 : lv_has ls2 nL (x.2.1.map fun q => (q.1, v' q.2)) := by
    rw [c2]
    simp only [List.map_cons, List.map_nil, ea, ew, et]
    exact hls2
  have hL1 : zk_LS C.1.1 v nL ls2 [] v' (zk_st (zk_ex KT [(kP, 2), (kW, 0), (kA, 0)] x true) []) := zk_LS_st (stk' := []) (zk_LS_ex (zk_LS_ls hL hls3)) (fun q hq => absurd hq List.not_mem_nil)
  have hn1 : (zk_st (zk_ex KT [(kP, 2), (kW, 0), (kA, 0)] x true) []).1 = x.1 := rfl
  have hup := zk_F_up (w := .int (tv + 1)) (stk' := []) (t := (0, 1, 160)) (rs := [(x.1, 2, 1), (2, x.1, -1)]) (ms := []) hF1 (zk_tv_int u2 u3) (fun q hq => by
      rw [hn1]
      simp only [List.mem_cons, List.not_mem_nil, or_false] at hq
      rcases hq with rfl | rfl
      · refine ⟨Nat.lt_succ_self _, Nat.lt_succ_of_lt hn, ?_⟩
        show zk_i (zk_up v' x.1 (.int (tv + 1)) x.1) ≤ zk_i (zk_up v' x.1 (.int (tv + 1)) 2) + 1
        rw [zk_up_at, zk_up_lt hn, et]
        exact Int.le_of_eq u1
      · refine ⟨Nat.lt_succ_of_lt hn, Nat.lt_succ_self _, ?_⟩
        show zk_i (zk_up v' x.1 (.int (tv + 1)) 2) ≤ zk_i (zk_up v' x.1 (.int (tv + 1)) x.1) + -1
        rw [zk_up_at, zk_up_lt hn, et]
        show tv.toInt ≤ (tv + 1).toInt + -1
        rw [u1]; exact zq_pk12 _) (fun q hq => absurd hq List.not_mem_nil)
  have hLu := zk_LS_st (stk' := []) (zk_LS_up (w := .int (tv + 1)) (stk' := []) (t := (0, 1, 160)) (rs := [(x.1, 2, 1), (2, x.1, -1)]) (ms := []) hL1 (fun q hq => absurd hq List.not_mem_nil)) (fun q hq => absurd hq List.not_mem_nil)
  rw [hn1] at hup hLu
  have e0 : zk_up v' x.1 (.int (tv + 1)) 0 = .ref a := by rw [zk_up_lt n0, ea]
  have hfin := zk_F_gb (o := 0) (f := 1003) (w := x.1) (zk_F_st [] hup) (Nat.lt_succ_of_lt n0) (Nat.lt_succ_self _) (by decide) e0 (by rw [hga]; exact hP0) (by rw [hga]; exact hP1) hc2 (by rw [zk_up_at]; exact zq_mk3 hA hg2)
  exact zk_from (q0 := (pc, zq_pkY KT kP kW kA x, [], 0, 0)) (hd := []) (xs := []) hx hb hw hok hR1 hR2 hr hlocks hQ hchk (fun q hq => absurd hq List.not_mem_nil) hp2 (zk_ev_tr hw.1 he (zk_ev_sb hC ev2)) hl2 hfin (zk_LS_af hLu)
end ZK2
end
