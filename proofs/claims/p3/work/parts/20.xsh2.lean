/-! CLAUSE, by hand, 2: from its shift to the last word -/
theorem zq_sh_fin {cb cb1 : Cell} {S T : Nat} {t : Int32} (ht : t.toInt = (T : Int)) (hTS : T ≤ S) (hS3 : S + 3 ≤ cb.slots.size) (hsz : cb.slots.size ≤ 100000) (h : zq_sfi cb cb1 S (t.toInt - 1)) :
    0 ≤ t.toInt ∧ t.toInt < cb1.slots.size ∧ 0 ≤ (t + 1).toInt ∧ (t + 1).toInt < (cb1.setSlot t.toNatClampNeg (.int 0)).slots.size ∧ 0 ≤ (t + 2).toInt ∧ (t + 2).toInt < ((cb1.setSlot t.toNatClampNeg (.int 0)).setSlot (t + 1).toNatClampNeg (.int 1)).slots.size ∧
    (((cb1.setSlot t.toNatClampNeg (.int 0)).setSlot (t + 1).toNatClampNeg (.int 1)).setSlot (t + 2).toNatClampNeg (.int 2)).slots.size = cb.slots.size ∧
    (∀ j, j < T → (((cb1.setSlot t.toNatClampNeg (.int 0)).setSlot (t + 1).toNatClampNeg (.int 1)).setSlot (t + 2).toNatClampNeg (.int 2)).slots[j]? = cb.slots[j]?) ∧
    (((cb1.setSlot t.toNatClampNeg (.int 0)).setSlot (t + 1).toNatClampNeg (.int 1)).setSlot (t + 2).toNatClampNeg (.int 2)).slots[T]? = some (.int 0) ∧
    (((cb1.setSlot t.toNatClampNeg (.int 0)).setSlot (t + 1).toNatClampNeg (.int 1)).setSlot (t + 2).toNatClampNeg (.int 2)).slots[T + 1]? = some (.int 1) ∧
    (((cb1.setSlot t.toNatClampNeg (.int 0)).setSlot (t + 1).toNatClampNeg (.int 1)).setSlot (t + 2).toNatClampNeg (.int 2)).slots[T + 2]? = some (.int 2) ∧
    ∀ j, T ≤ j → j < S → (((cb1.setSlot t.toNatClampNeg (.int 0)).setSlot (t + 1).toNatClampNeg (.int 1)).setSlot (t + 2).toNatClampNeg (.int 2)).slots[j + 3]? = cb.slots[j]? := by
  obtain ⟨f1, f2, f3⟩ := h
  have e1 : (t + 1).toInt = t.toInt + 1 := by
    rw [Int32.toInt_add, show (1 : Int32).toInt = 1 from rfl]
    exact Int.bmod_eq_of_le (by omega) (by omega)
  have e2 : (t + 2).toInt = t.toInt + 2 := by
    rw [Int32.toInt_add, show (2 : Int32).toInt = 2 from rfl]
    exact Int.bmod_eq_of_le (by omega) (by omega)
  have n0 : t.toNatClampNeg = T := by have := zq_nc (i := t) (by omega); omega
  have n1 : (t + 1).toNatClampNeg = T + 1 := by have := zq_nc (i := t + 1) (by omega); omega
  have n2 : (t + 2).toNatClampNeg = T + 2 := by have := zq_nc (i := t + 2) (by omega); omega
  rw [n0, n1, n2]
  have s1 : (cb1.setSlot T (.int 0)).slots.size = cb1.slots.size := zk_size_set _ _ _
  have s2 : ((cb1.setSlot T (.int 0)).setSlot (T + 1) (.int 1)).slots.size = cb1.slots.size := (zk_size_set _ _ _).trans s1
  have s3 : (((cb1.setSlot T (.int 0)).setSlot (T + 1) (.int 1)).setSlot (T + 2) (.int 2)).slots.size = cb1.slots.size := (zk_size_set _ _ _).trans s2
  refine ⟨by omega, by omega, by omega, by omega, by omega, by omega, by omega, fun j hj => ?_, ?_, ?_, ?_, fun j hj hjS => ?_⟩
  · rw [slot_ne _ _ (by omega), slot_ne _ _ (by omega), slot_ne _ _ (by omega)]
    exact f2 j (by omega)
  · rw [slot_ne _ _ (by omega), slot_ne _ _ (by omega)]
    exact Cell.slots_setSlot_self _ (by omega)
  · rw [slot_ne _ _ (by omega)]
    exact Cell.slots_setSlot_self _ (by omega)
  · exact Cell.slots_setSlot_self _ (by omega)
  · rw [slot_ne _ _ (by omega), slot_ne _ _ (by omega), slot_ne _ _ (by omega)]
    exact f3 j (by omega) hjS
theorem zq_i32_3 {sd : Int32} (h0 : 0 ≤ sd.toInt) (h1 : sd.toInt ≤ 417) : (sd + 3).toInt = sd.toInt + 3 ∧ (sd - 1).toInt = sd.toInt - 1 ∧ sd.toInt = (sd.toNatClampNeg : Int) := by
  refine ⟨?_, ?_, (zq_nc h0).symm⟩
  · rw [Int32.toInt_add, show (3 : Int32).toInt = 3 from rfl]
    exact Int.bmod_eq_of_le (by omega) (by omega)
  · rw [Int32.toInt_sub, show (1 : Int32).toInt = 1 from rfl]
    exact Int.bmod_eq_of_le (by omega) (by omega)
theorem zq_cl_ar {a b : Int} {S T lo : Nat} {z : Int} (h1 : a = (S : Int)) (h2 : a ≤ 417) (h3 : (420 : Int) ≤ z) (h4 : z ≤ (lo : Int)) (h5 : lo ≤ 100000) (hb : b = (T : Int)) (hTS : T ≤ S) : S + 3 ≤ lo ∧ a - 1 = b - 1 + ((S - T : Nat) : Int) ∧ a - 1 < (S : Int) ∧ 0 ≤ b := by omega
/-- the ghosts' own words, at one object -/
theorem zq_two {KT : List zk_K} {ds : Nat → Nat → Nat} {kM kS ci : Nat} (hci : (zk_kd KT kM).2.1 = ci) {G : Nat → Nat} {H : Heap} {a b : Nat} {sd z t : Int32} {cell cb : Cell} (hca : H[a]? = some cell) (h25 : cell.slots[ds ci 25]? = some (.int sd)) (h18 : cell.slots[ds ci 18]? = some (.ref b)) (hcb : H[b]? = some cb)
    (h1 : zq_1001 KT ds kM kS G H a (.int z)) (h4 : zq_1004 KT ds kM kS G H a (.int t)) : ∃ S T : Nat, sd.toInt = (S : Int) ∧ t.toInt = (T : Int) ∧ T ≤ S ∧ S ≤ cb.slots.size ∧ z.toInt = zq_run 0 (zq_seg cb 0 S) ∧ zq_run 0 (zq_seg cb 0 T) = 1000 ∧ ∀ j, j ≤ S - T → 1000 ≤ zq_run 1000 (zq_seg cb T j) ∧ zq_run 1000 (zq_seg cb T j) < 4000 := by
  obtain ⟨cb', s, z1, ⟨cell', b', n, g1, g2, g3, g4, g5, g6, g7, g8⟩, hw, h2, h3⟩ := h1
  cases hw
  rw [hca] at g2; cases g2
  rw [hci, h25] at g3; cases g3
  rw [hci, h18] at g5; cases g5
  rw [hcb] at g7; cases g7
  obtain ⟨cb', s', t', zt, ⟨cell', b', n, i1, i2, i3, i4, i5, i6, i7, i8⟩, ht, j1, j2, j3, j4, j5⟩ := h4
  cases ht
  rw [hca] at i2; cases i2
  rw [hci, h25] at i3; cases i3
  rw [hci, h18] at i5; cases i5
  rw [hcb] at i7; cases i7
  have hs' : s' = s := by omega
  subst hs'
  exact ⟨s', t', g4, j1, j3, g8, h3, j4, j5⟩
theorem zq_arith2 {S j : Nat} (h : (S : Int) - 1 + 1 ≤ (j : Int)) : ¬ j < S := by omega
theorem zq_arith3 {a hi : Int} (h : a ≤ 417) (h2 : 420 ≤ hi) : a + 3 ≤ hi := by omega
section ZS
variable {p : Program} {l : Launch} {e : Env} {R : Room} {s : State} {m : MethodId} {args : Array Value} {below : List Frame} {meth : Method} {c : Code} {Q : State → Prop} {KT : List zk_K} {D : zk_D} {base : Nat} {Hb : Heap} {n0 nL : Nat} {v0 : Nat → Value} {E : List (Nat × Nat)} {G0 : Nat → Nat} {H0 : Heap} {cc : ByteArray}
variable {cells slots : Nat}
set_option maxHeartbeats 1000000 in
theorem zq_cl_core (hx : p.tables.exec = Jvm.exec) (hb : c.code = cc) (hkt : zk_kt KT) (hdj : zk_dj KT D) (hAT : ArrOfT s (D.2.2.1 0) .int) {kS kM ci iS iD : Nat} {hi : Int} (hg18 : zk_gok p l e R s m args below meth c Q D cc iS ci 18) (hg25 : zk_gok p l e R s m args below meth c Q D cc iD ci 25) (hpk : zk_pok p l e R s m args below meth c Q D cc iD ci 25 0) (hM : zq_kM KT kM ci hi) (hS : zq_kS KT kS) (hhi : 420 ≤ hi ∧ hi ≤ 2147483647)
    (d112 : decode cc 112 = .ok (.aload_n 0, 1)) (d113 : decode cc 113 = .ok (.getfield iD, 3)) (d116 : decode cc 116 = .ok (.iconst 1, 1)) (d117 : decode cc 117 = .ok (.isub, 1)) (d118 : decode cc 118 = .ok (.istore 5, 2))
    (d120 : decode cc 120 = .ok (.iload 5, 2)) (d122 : decode cc 122 = .ok (.iload 4, 2)) (d124 : decode cc 124 = .ok (.if_icmp .lt 25, 3)) (d127 : decode cc 127 = .ok (.aload_n 0, 1)) (d128 : decode cc 128 = .ok (.getfield iS, 3)) (d131 : decode cc 131 = .ok (.iload 5, 2)) (d133 : decode cc 133 = .ok (.iconst 3, 1)) (d134 : decode cc 134 = .ok (.iadd, 1)) (d135 : decode cc 135 = .ok (.aload_n 0, 1)) (d136 : decode cc 136 = .ok (.getfield iS, 3)) (d139 : decode cc 139 = .ok (.iload 5, 2)) (d141 : decode cc 141 = .ok (.iaload, 1)) (d142 : decode cc 142 = .ok (.iastore, 1)) (d143 : decode cc 143 = .ok (.iinc 5 (-1), 3)) (d146 : decode cc 146 = .ok (.goto (-26), 3))
    (d149 : decode cc 149 = .ok (.aload_n 0, 1)) (d150 : decode cc 150 = .ok (.getfield iS, 3)) (d153 : decode cc 153 = .ok (.iload 4, 2)) (d155 : decode cc 155 = .ok (.iconst 0, 1)) (d156 : decode cc 156 = .ok (.iastore, 1))
    (d157 : decode cc 157 = .ok (.aload_n 0, 1)) (d158 : decode cc 158 = .ok (.getfield iS, 3)) (d161 : decode cc 161 = .ok (.iload 4, 2)) (d163 : decode cc 163 = .ok (.iconst 1, 1)) (d164 : decode cc 164 = .ok (.iadd, 1)) (d165 : decode cc 165 = .ok (.iconst 1, 1)) (d166 : decode cc 166 = .ok (.iastore, 1))
    (d167 : decode cc 167 = .ok (.aload_n 0, 1)) (d168 : decode cc 168 = .ok (.getfield iS, 3)) (d171 : decode cc 171 = .ok (.iload 4, 2)) (d173 : decode cc 173 = .ok (.iconst 2, 1)) (d174 : decode cc 174 = .ok (.iadd, 1)) (d175 : decode cc 175 = .ok (.iconst 2, 1)) (d176 : decode cc 176 = .ok (.iastore, 1))
    (d177 : decode cc 177 = .ok (.aload_n 0, 1)) (d178 : decode cc 178 = .ok (.dup, 1)) (d179 : decode cc 179 = .ok (.getfield iD, 3)) (d182 : decode cc 182 = .ok (.iconst 3, 1)) (d183 : decode cc 183 = .ok (.iadd, 1)) (d184 : decode cc 184 = .ok (.putfield iD, 3)) (hnL : nL = 6)
    {G : Nat → Nat} {H : Heap} {locs : List Loc} {ls : Array Slot} {a b S T : Nat} {t sd : Int32} {cell cb : Cell} (hp : zk_hp KT D base Hb G H) (hl : ∀ q ∈ locs, base ≤ q.base) (hga : G a = kM) (hca : H[a]? = some cell) (h25 : cell.slots[D.2.1 ci 25]? = some (.int sd)) (h18 : cell.slots[D.2.1 ci 18]? = some (.ref b)) (hne : D.2.1 ci 18 ≠ D.2.1 ci 25) (hgb : G b = kS) (hcb : H[b]? = some cb) (hlo : 420 ≤ (zk_kd KT kS).2.2.2.1) (hhs : (zk_kd KT kS).2.2.2.2.1 ≤ 100000) (s0 : 0 ≤ sd.toInt) (s1 : sd.toInt ≤ 417) (sS : sd.toInt = (S : Int)) (tT : t.toInt = (T : Int)) (hTS : T ≤ S) (hls : lv_has ls nL [(0, .ref a), (4, .int t)])
    (kk : ∀ (H2 : Heap) (locs2 : List Loc) (ls2 : Array Slot) (cb2 : Cell) (k : Int32), zk_hp KT D base Hb G H2 → zk_ev KT D [(kS, 0), (kM, 25)] G H G H2 → H2.size = H.size → H2[a]? = some (cell.setSlot (D.2.1 ci 25) (.int (sd + 3))) → H2[b]? = some cb2 → cb2.slots.size = cb.slots.size → (∀ j, j < T → cb2.slots[j]? = cb.slots[j]?) → cb2.slots[T]? = some (.int 0) → cb2.slots[T + 1]? = some (.int 1) → cb2.slots[T + 2]? = some (.int 2) → (∀ j, T ≤ j → j < S → cb2.slots[j + 3]? = cb.slots[j]?) → (∀ q ∈ locs2, base ≤ q.base) → lv_has ls2 nL [(5, .int k), (0, .ref a), (4, .int t)] → W p l e R s m args below meth c H2 locs2 cells slots Q (F0 m 187 ls2 [])) : W p l e R s m args below meth c H locs cells slots Q (F0 m 112 ls []) := by
  have hab : b ≠ a := fun e => by rw [e, hga] at hgb; rw [← hgb] at hS; exact hS.2.1 hM.2.1
  have hrow := zq_row_S hS
  have hel := hS.2.2.2.2.2
  obtain ⟨-, -, sz1, sz2⟩ := zq_cls hp hrow hgb hcb
  have hsz : cb.slots.size ≤ 100000 := by have := Int.le_trans sz2 hhs; exact Int.ofNat_le.mp this
  obtain ⟨x1, x2, x3, x4⟩ := zq_cl_ar (b := t.toInt) (T := T) sS s1 (Int.le_trans hlo (Int.le_refl _)) sz1 hsz tT hTS
  obtain ⟨e3, em, -⟩ := zq_i32_3 s0 s1
  obtain ⟨-, cl0, r1, r2, -⟩ := hp.2.2 a (by rw [hga]; exact hM.1)
  rw [hca] at r1; cases r1
  have hcla := (r2.2.1 (by rw [hga]; exact hM.2.1)).1
  rw [hga, hM.2.2.1] at hcla
  have hnL' := hnL
  subst hnL
  refine lv_aload_n hx hb d112 rfl (lv_at hls 0 rfl) ?_
  refine hg25 hca hcla r2.1.1 h25 d113 ?_
  refine lv_iconst (v := 1) hx hb d116 rfl ?_
  refine lv_isub hx hb d117 ?_
  refine lv_istore (lv' := [(5, .int (sd - 1)), (0, .ref a), (4, .int t)]) hx hb d118 hls (by decide) rfl (fun ls1 hls1 => ?_)
  refine zq_sh_loop (n := 0) hx hb hkt hAT hg18 hS hM.1 hM.2.1 hM.2.2.1 d120 d122 d124 d127 d128 d131 d133 d134 d135 d136 d139 d141 d142 d143 d146 rfl hga hgb h18 x4 x1 hsz (fun H1 locs1 ls2 cb1 k hp1 he1 hz1 ha1 hb1 hsf hl1 hls2 => ?_) (S - T) H locs ls1 cb (sd - 1) (by rw [em]; exact x2) (by rw [em]; exact x3) hp zk_ev_rf rfl hca hcb ⟨rfl, fun j _ => rfl, fun j hj hjS => absurd hjS (by rw [em, sS] at hj; exact zq_arith2 hj)⟩ hl hls1
  obtain ⟨y0, y1, y2, y3, y4, y5, y6, y7, y8, y9, y10, y11⟩ := zq_sh_fin tT hTS x1 hsz hsf
  have w0 : ∀ w : Int32, zk_I.2.1 ≤ w.toInt ∧ w.toInt ≤ zk_I.2.2 := fun w => zk_rng w
  refine lv_aload_n hx hb d149 rfl (lv_at hls2 1 rfl) ?_
  refine hg18 ha1 hcla r2.1.1 h18 d150 ?_
  refine lv_iload hx hb d153 (lv_at hls2 2 rfl) ?_
  refine lv_iconst (v := 0) hx hb d155 rfl ?_
  refine zq_ist hx hb hAT (t := zk_I) hp1 hl1 hrow hgb hb1 y0 y1 hel (w0 _).1 (w0 _).2 d156 (fun H2 locs2 hp2 he2 hz2 eb2 eo2 hl2 => ?_)
  have ha2 : H2[a]? = some cell := by rw [eo2 a (fun z => hab z.symm)]; exact ha1
  refine lv_aload_n hx hb d157 rfl (lv_at hls2 1 rfl) ?_
  refine hg18 ha2 hcla r2.1.1 h18 d158 ?_
  refine lv_iload hx hb d161 (lv_at hls2 2 rfl) ?_
  refine lv_iconst (v := 1) hx hb d163 rfl ?_
  refine lv_iadd hx hb d164 ?_
  refine lv_iconst (v := 1) hx hb d165 rfl ?_
  refine zq_ist hx hb hAT (t := zk_I) hp2 hl2 hrow hgb eb2 y2 y3 hel (w0 _).1 (w0 _).2 d166 (fun H3 locs3 hp3 he3 hz3 eb3 eo3 hl3 => ?_)
  have ha3 : H3[a]? = some cell := by rw [eo3 a (fun z => hab z.symm)]; exact ha2
  refine lv_aload_n hx hb d167 rfl (lv_at hls2 1 rfl) ?_
  refine hg18 ha3 hcla r2.1.1 h18 d168 ?_
  refine lv_iload hx hb d171 (lv_at hls2 2 rfl) ?_
  refine lv_iconst (v := 2) hx hb d173 rfl ?_
  refine lv_iadd hx hb d174 ?_
  refine lv_iconst (v := 2) hx hb d175 rfl ?_
  refine zq_ist hx hb hAT (t := zk_I) hp3 hl3 hrow hgb eb3 y4 y5 hel (w0 _).1 (w0 _).2 d176 (fun H4 locs4 hp4 he4 hz4 eb4 eo4 hl4 => ?_)
  have ha4 : H4[a]? = some cell := by rw [eo4 a (fun z => hab z.symm)]; exact ha3
  have hev4 := zk_ev_tr hkt he1 (zk_ev_tr hkt he2 (zk_ev_tr hkt he3 he4))
  have hvm : cell.vm = .none := r2.1.2 (by rw [hga]; exact hM.2.2.2.1)
  refine lv_aload_n hx hb d177 rfl (lv_at hls2 1 rfl) ?_
  refine lv_dup hx hb d178 rfl ?_
  refine hg25 ha4 hcla r2.1.1 h25 d179 ?_
  refine lv_iconst (v := 3) hx hb d182 rfl ?_
  refine lv_iadd hx hb d183 ?_
  refine hpk ha4 hcla hvm h25 (⟨sd + 3, rfl⟩ : zk_fv 0 (.int (sd + 3))) d184 (fun H5 f1 f2 f3 => ?_)
  have f1' : H5[a]? = some (cell.setSlot (zk_sl KT D (G a) 25) (.int (sd + 3))) := by unfold zk_sl; rw [hga, hM.2.2.1]; exact f1
  have hty : zk_tv G (.int (sd + 3)) (0, 0, hi) := zk_tv_int (by rw [e3]; exact Int.add_nonneg s0 (by decide)) (by rw [e3]; exact zq_arith3 s1 hhi.1)
  obtain ⟨hp5, ev5, -, hba⟩ := zk_hp_put hdj hp4 (by rw [hga]; exact hM.1) (by rw [hga]; exact hM.2.1) (by rw [hga]; exact hM.2.2.2.1) ha4 (by rw [hga]; exact hM.2.2.2.2.1) (w := .int (sd + 3)) ⟨hty, fun z => by cases z⟩ (fun q hq => by rw [hga, hM.2.2.2.2.2] at hq; exact absurd hq List.not_mem_nil) f1' f2 f3
  rw [hga] at ev5
  refine kk H5 _ ls2 _ k hp5 (zk_ev_tr hkt (zk_ev_sb (by simp only [zk_sb, List.all_cons, List.all_nil, Bool.and_true]; simp only [zk_me_eq]; simp [Nat.beq_refl]) hev4) (zk_ev_sb (by simp only [zk_sb, List.all_cons, List.all_nil, Bool.and_true]; simp only [zk_me_eq]; simp [Nat.beq_refl]) ev5)) (f2.trans (hz4.trans (hz3.trans (hz2.trans hz1)))) f1 (by rw [f3 b hab]; exact eb4) y6 y7 y8 y9 y10 y11 (zk_locs hl4 hba) hls2
end ZS
