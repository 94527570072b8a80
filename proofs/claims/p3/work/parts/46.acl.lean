/-! CLAUSE, by hand, 3: its run behind the shift -/
theorem zk_LS_ls {n0 : Nat} {v0 : Nat → Value} {nL : Nat} {ls ls2 : Array Slot} {vs : List Value} {v : Nat → Value} {x : zk_S} (h : zk_LS n0 v0 nL ls vs v x) (h2 : lv_has ls2 nL (x.2.1.map fun q => (q.1, v q.2))) : zk_LS n0 v0 nL ls2 vs v x := by
  obtain ⟨n, loc, stk, rest⟩ := x
  obtain ⟨a1, a2, a3, a4, a5, a6⟩ := h
  exact ⟨a1, a2, h2, a4, a5, a6⟩
theorem zq_ar4 {a l0 h0 l h : Int} (h1 : l0 ≤ a) (h2 : a ≤ h0) (h3 : 0 ≤ l0) (h4 : h0 ≤ 417) (h5 : l = l0 + 3) (h6 : h = h0 + 3) : 0 ≤ a ∧ a ≤ 417 ∧ l ≤ a + 3 ∧ a + 3 ≤ h ∧ -2147483648 ≤ a + 3 ∧ a + 3 ≤ 2147483647 := by omega
theorem zq_ar5 {S sz : Nat} {a : Int} (h1 : a = (S : Int)) (h2 : a ≤ 417) (h3 : (420 : Int) ≤ sz) : S + 3 ≤ sz ∧ a + 3 = ((S + 3 : Nat) : Int) := by omega
theorem zq_ar6 (a : Int) : a ≤ a + 3 + -3 := by omega
section ZS
variable {p : Program} {l : Launch} {e : Env} {R : Room} {s : State} {m : MethodId} {args : Array Value} {below : List Frame} {meth : Method} {c : Code} {Q : State → Prop} {KT : List zk_K} {D : zk_D} {base : Nat} {Hb : Heap} {n0 nL : Nat} {v0 : Nat → Value} {E : List (Nat × Nat)} {G0 : Nat → Nat} {H0 : Heap} {cc : ByteArray}
variable {P : zk_P} {AT : List FieldType} {C : zk_C}
set_option maxHeartbeats 1000000 in
theorem zq_cl_x (hx : p.tables.exec = Jvm.exec) (hb : c.code = cc) {rt : Option FieldType} {x : zk_S} {sy tl gz kM kS kC kT kP kA ci iS iD fuel : Nat} {hi l0 h0 lI hI : Int} {v : Nat → Value} (hw : zk_wd s KT D AT) (hok : zk_ok p l e R s m args below meth c Q KT D base Hb nL cc P C.2.2.2.2) (hR1 : R.cells = C.2.2.2.1) (hR2 : R.slots = C.2.2.2.2) (hr : meth.sig.returnType = rt) (hlocks : meth.locks = false) (hQ : ∀ t : State, MQ below (zk_Qf KT D base Hb C v G0 H0) args s C.2.2.2.1 C.2.2.2.2 (fun q => base ≤ q) t → Q t)
    (hA : zq_all KT D kM kS kC kT kP kA) (hlen : (zk_kd KT kM).2.2.1.length ≤ 1000) (hne : D.2.1 ci 18 ≠ D.2.1 ci 25)
    (hC : zk_sb [(kS, 0), (kM, 25)] C.2.2.1 = true) (hP18 : (iS, ci, 18, 4) ∈ P.1) (hP25 : (iD, ci, 25, 0) ∈ P.1) (hM : zq_kM KT kM ci hi) (hS : zq_kS KT kS) (h18t : (zk_kd KT kM).2.2.1[18]? = some (2, (kS : Int), 0)) (hlo : 420 ≤ (zk_kd KT kS).2.2.2.1) (hhs : (zk_kd KT kS).2.2.2.2.1 ≤ 100000) (hhi : 420 ≤ hi ∧ hi ≤ 2147483647)
    (d112 : decode cc 112 = .ok (.aload_n 0, 1)) (d113 : decode cc 113 = .ok (.getfield iD, 3)) (d116 : decode cc 116 = .ok (.iconst 1, 1)) (d117 : decode cc 117 = .ok (.isub, 1)) (d118 : decode cc 118 = .ok (.istore 5, 2))
    (d120 : decode cc 120 = .ok (.iload 5, 2)) (d122 : decode cc 122 = .ok (.iload 4, 2)) (d124 : decode cc 124 = .ok (.if_icmp .lt 25, 3)) (d127 : decode cc 127 = .ok (.aload_n 0, 1)) (d128 : decode cc 128 = .ok (.getfield iS, 3)) (d131 : decode cc 131 = .ok (.iload 5, 2)) (d133 : decode cc 133 = .ok (.iconst 3, 1)) (d134 : decode cc 134 = .ok (.iadd, 1)) (d135 : decode cc 135 = .ok (.aload_n 0, 1)) (d136 : decode cc 136 = .ok (.getfield iS, 3)) (d139 : decode cc 139 = .ok (.iload 5, 2)) (d141 : decode cc 141 = .ok (.iaload, 1)) (d142 : decode cc 142 = .ok (.iastore, 1)) (d143 : decode cc 143 = .ok (.iinc 5 (-1), 3)) (d146 : decode cc 146 = .ok (.goto (-26), 3))
    (d149 : decode cc 149 = .ok (.aload_n 0, 1)) (d150 : decode cc 150 = .ok (.getfield iS, 3)) (d153 : decode cc 153 = .ok (.iload 4, 2)) (d155 : decode cc 155 = .ok (.iconst 0, 1)) (d156 : decode cc 156 = .ok (.iastore, 1))
    (d157 : decode cc 157 = .ok (.aload_n 0, 1)) (d158 : decode cc 158 = .ok (.getfield iS, 3)) (d161 : decode cc 161 = .ok (.iload 4, 2)) (d163 : decode cc 163 = .ok (.iconst 1, 1)) (d164 : decode cc 164 = .ok (.iadd, 1)) (d165 : decode cc 165 = .ok (.iconst 1, 1)) (d166 : decode cc 166 = .ok (.iastore, 1))
    (d167 : decode cc 167 = .ok (.aload_n 0, 1)) (d168 : decode cc 168 = .ok (.getfield iS, 3)) (d171 : decode cc 171 = .ok (.iload 4, 2)) (d173 : decode cc 173 = .ok (.iconst 2, 1)) (d174 : decode cc 174 = .ok (.iadd, 1)) (d175 : decode cc 175 = .ok (.iconst 2, 1)) (d176 : decode cc 176 = .ok (.iastore, 1))
    (d177 : decode cc 177 = .ok (.aload_n 0, 1)) (d178 : decode cc 178 = .ok (.dup, 1)) (d179 : decode cc 179 = .ok (.getfield iD, 3)) (d182 : decode cc 182 = .ok (.iconst 3, 1)) (d183 : decode cc 183 = .ok (.iadd, 1)) (d184 : decode cc 184 = .ok (.putfield iD, 3)) (hnL : nL = 6)
    (c1 : x.2.2.1 = []) (c2 : x.2.1 = [(0, 0), (4, tl)]) (c3 : (0, 25, sy) ∈ x.2.2.2.2.2.1) (c5 : (0, 1001, gz) ∈ x.2.2.2.2.2.1) (c6 : (0, 1004, tl) ∈ x.2.2.2.2.2.1) (t0 : zk_lk x.2.2.2.1 0 = (2, (kM : Int), 0)) (tsy : zk_lk x.2.2.2.1 sy = (0, l0, h0)) (tgz : zk_lk x.2.2.2.1 gz = (0, 1001, 1001)) (b0 : 0 ≤ l0 ∧ h0 ≤ 417) (hl0 : lI = l0 + 3) (hh0 : hI = h0 + 3)
    (hchk : zk_chf KT P cc nL C rt [] [] (187, zq_sh2 KT kS kM sy lI hI x, [], 0, 0) fuel 1 = true)
    {G : Nat → Nat} {H : Heap} {locs : List Loc} {ls : Array Slot} {vs : List Value} {v' : Nat → Value} (hp : zk_hp KT D base Hb G H) (he : zk_ev KT D C.2.2.1 G0 H0 G H) (hl : ∀ q ∈ locs, base ≤ q.base) (hF : zk_F KT D G H v' x) (hL : zk_LS C.1.1 v nL ls vs v' x) : W p l e R s m args below meth c H locs 0 0 Q (F0 m 112 ls vs) := by
  obtain ⟨e1, -⟩ := zk_LS_stk hL
  obtain ⟨hloc, hloc2⟩ := zk_LS_loc hL
  have hvs : vs = [] := by rw [e1, c1]; rfl
  rw [hvs] at hL ⊢
  have ty0 := zk_F_ty hF 0
  rw [t0] at ty0
  obtain ⟨a, ea, hga, hg0⟩ := zk_gr ty0 rfl rfl
  have hga : G a = kM := by rw [hga]; exact Int.toNat_natCast _
  have tys := zk_F_ty hF sy
  rw [tsy] at tys
  obtain ⟨sd, es, s1, s2⟩ := zk_gi tys rfl
  have tyg := zk_F_ty hF gz
  rw [tgz] at tyg
  obtain ⟨z, ez, z1, z2⟩ := zk_gi tyg rfl
  have hz : z.toInt = 1001 := Int.le_antisymm z2 z1
  obtain ⟨f0, fs, f25⟩ := zk_F_fl hF _ c3
  have f0 : 0 < x.1 := f0
  have fs : sy < x.1 := fs
  obtain ⟨a1, cell, q1, -, -, -, hca, h25⟩ := zk_fl_real f25 rfl
  rw [ea] at q1; cases q1
  have hsl : ∀ f, zk_sl KT D (G a) f = D.2.1 ci f := fun f => by unfold zk_sl; rw [hga, hM.2.2.1]
  rw [hsl] at h25
  have h25 : cell.slots[D.2.1 ci 25]? = some (v' sy) := h25
  rw [es] at h25
  have gh : ∀ f w, (0, f, w) ∈ x.2.2.2.2.2.1 → 1000 < f → w < x.1 ∧ zk_gh KT D G H a f (v' w) := fun f w hm hf => by
    obtain ⟨-, fw, a2, cell2, r1, r2, r3, r4, r5⟩ := zk_F_fl hF _ hm
    rw [ea] at r1; cases r1
    refine ⟨fw, ?_⟩
    rcases r5 with ⟨z, -⟩ | ⟨-, z⟩
    · have z : f < (zk_kd KT (G a)).2.2.1.length := z
      rw [hga] at z
      exact absurd (Nat.lt_of_lt_of_le z hlen) (Nat.not_lt.mpr (Nat.le_of_lt hf))
    · exact z
  obtain ⟨-, g1⟩ := gh 1001 gz c5 (by decide)
  obtain ⟨ftl, g4⟩ := gh 1004 tl c6 (by decide)
  rw [ez] at g1
  have h1 := zq_at1 hA g1
  have h4 := zq_at4 hA g4
  obtain ⟨t, et⟩ : ∃ t : Int32, v' tl = .int t := by
    obtain ⟨-, -, -, zt, -, ht, -⟩ := h4
    exact ⟨zt, ht⟩
  rw [et] at h4
  obtain ⟨-, cl0, rr1, r2, -⟩ := hp.2.2 a hg0
  rw [hca] at rr1; cases rr1
  obtain ⟨w18, w1, w2⟩ := (r2.2.1 (by rw [hga]; exact hM.2.1)).2 18 _ (by rw [hga]; exact h18t)
  rw [hsl] at w1
  obtain ⟨b, eb, hgb, hgb0⟩ := zk_gr w2.1 rfl rfl
  have hgb : G b = kS := by rw [hgb]; exact Int.toNat_natCast _
  rw [eb] at w1
  obtain ⟨-, cb, hcb, -, -⟩ := hp.2.2 b hgb0
  obtain ⟨S, T, sS, tT, hTS, hSz, j1, j2, j3⟩ := zq_two hM.2.2.1 hca h25 w1 hcb h1 h4
  obtain ⟨u0, u1, u2, u3, u4, u5⟩ := zq_ar4 (a := sd.toInt) s1 s2 b0.1 b0.2 hl0 hh0
  obtain ⟨e3, -, -⟩ := zq_i32_3 u0 u1
  obtain ⟨-, -, sz1, -⟩ := zq_cls hp (zq_row_S hS) hgb hcb
  obtain ⟨v3, v4⟩ := zq_ar5 sS u1 (Int.le_trans hlo sz1)
  have hls : lv_has ls nL [(0, .ref a), (4, .int t)] := by
    rw [c2] at hloc
    simp only [List.map_cons, List.map_nil, ea, et] at hloc
    exact hloc
  refine zq_cl_core hx hb hw.1 hw.2.1 (hw.2.2.1 0 _ hw.2.2.2.1) (hok.1 _ hP18).1 (hok.1 _ hP25).1 (hok.1 _ hP25).2 hM hS hhi d112 d113 d116 d117 d118 d120 d122 d124 d127 d128 d131 d133 d134 d135 d136 d139 d141 d142 d143 d146 d149 d150 d153 d155 d156 d157 d158 d161 d163 d164 d165 d166 d167 d168 d171 d173 d174 d175 d176 d177 d178 d179 d182 d183 d184 hnL hp hl hga hca h25 w1 hne hgb hcb hlo hhs u0 u1 sS tT hTS hls (fun H2 locs2 ls2 cb2 k hp2 ev2 hz2 ha2 hb2 hsz2 o0 o1 o2 o3 o4 hl2 hls2 => ?_)
  have hrun := zq_shifted (cb := cb) (cb' := cb2) (s := S) (t := T) hSz (by rw [hsz2]; exact v3) hTS j2 j3 j1 o0 o1 o2 o3 o4
  rw [hz] at hrun
  have g1' : zq_1001 KT D.2.1 kM kS G H2 a (.int 4001) := by
    refine ⟨cb2, S + 3, 4001, ⟨_, b, sd + 3, hga, ha2, ?_, ?_, ?_, hgb, hb2, by rw [hsz2]; exact v3⟩, rfl, by decide, hrun.symm⟩
    · rw [hM.2.2.1]; exact Cell.slots_setSlot_self _ (k2_hasslot h25)
    · rw [e3]; exact v4
    · rw [hM.2.2.1, slot_ne _ _ (fun z => hne z.symm)]; exact w1
  have hF1 := zk_F_st [] (zk_F_ev (keep := true) hw.1 hF ev2 (fun _ => hz2))
  have hls3 : lv_has ls2 nL (x.2.1.map fun q => (q.1, v' q.2)) := by
    rw [c2]
    simp only [List.map_cons, List.map_nil, ea, et]
    exact lv_sub hls2 [1, 2] rfl
  have hL1 : zk_LS C.1.1 v nL ls2 [] v' (zk_st (zk_ex KT [(kS, 0), (kM, 25)] x true) []) := zk_LS_st (stk' := []) (zk_LS_ex (zk_LS_ls hL hls3)) (fun q hq => absurd hq List.not_mem_nil)
  have hn1 : (zk_st (zk_ex KT [(kS, 0), (kM, 25)] x true) []).1 = x.1 := rfl
  have hup := zk_F_up (w := .int (sd + 3)) (stk' := []) (t := (0, lI, hI)) (rs := [(x.1, sy, 3), (sy, x.1, -3)]) (ms := []) hF1 (zk_tv_int (by rw [e3]; exact u2) (by rw [e3]; exact u3)) (fun q hq => by
      rw [hn1]
      simp only [List.mem_cons, List.not_mem_nil, or_false] at hq
      rcases hq with rfl | rfl
      · refine ⟨Nat.lt_succ_self _, Nat.lt_succ_of_lt fs, ?_⟩
        show zk_i (zk_up v' x.1 (.int (sd + 3)) x.1) ≤ zk_i (zk_up v' x.1 (.int (sd + 3)) sy) + 3
        rw [zk_up_at, zk_up_lt fs, es]
        exact Int.le_of_eq e3
      · refine ⟨Nat.lt_succ_of_lt fs, Nat.lt_succ_self _, ?_⟩
        show zk_i (zk_up v' x.1 (.int (sd + 3)) sy) ≤ zk_i (zk_up v' x.1 (.int (sd + 3)) x.1) + -3
        rw [zk_up_at, zk_up_lt fs, es]
        show sd.toInt ≤ (sd + 3).toInt + -3
        rw [e3]; exact zq_ar6 _) (fun q hq => absurd hq List.not_mem_nil)
  have hLu := zk_LS_st (stk' := []) (zk_LS_up (w := .int (sd + 3)) (stk' := []) (t := (0, lI, hI)) (rs := [(x.1, sy, 3), (sy, x.1, -3)]) (ms := []) hL1 (fun q hq => absurd hq List.not_mem_nil)) (fun q hq => absurd hq List.not_mem_nil)
  rw [hn1] at hup hLu
  have e0 : zk_up v' x.1 (.int (sd + 3)) 0 = .ref a := by rw [zk_up_lt f0, ea]
  have hF2 := zk_F_af (fs := [(0, 25, x.1)]) (ns := []) (ps := []) (zk_F_st [] hup) (fun q hq => by
    rw [List.mem_singleton.mp hq]
    refine ⟨Nat.lt_succ_of_lt f0, Nat.lt_succ_self _, zk_fl_mk ⟨a, _, e0, hg0, by rw [hga]; exact hM.2.1, ?_, ha2, ?_⟩⟩
    · rw [hga]; exact zk_lt_len hM.2.2.2.2.1
    · rw [hsl]
      show _ = some (zk_up v' x.1 (.int (sd + 3)) x.1)
      rw [zk_up_at]
      exact Cell.slots_setSlot_self _ (k2_hasslot h25)) (fun q hq => absurd hq List.not_mem_nil) (fun q hq => absurd hq List.not_mem_nil)
  have hn2 : (zq_sh1 KT kS kM sy lI hI x).1 = x.1 + 1 := rfl
  have hup2 := zk_F_up (w := .int 4001) (stk' := []) (t := (0, 4001, 4001)) (rs := []) (ms := []) (s := zq_sh1 KT kS kM sy lI hI x) hF2 (zk_tv_int (by decide) (by decide)) (fun q hq => absurd hq List.not_mem_nil) (fun q hq => absurd hq List.not_mem_nil)
  have hLu2 := zk_LS_st (stk' := []) (zk_LS_up (w := .int 4001) (stk' := []) (t := (0, 4001, 4001)) (rs := []) (ms := []) (s := zq_sh1 KT kS kM sy lI hI x) (zk_LS_af hLu) (fun q hq => absurd hq List.not_mem_nil)) (fun q hq => absurd hq List.not_mem_nil)
  rw [hn2] at hup2 hLu2
  have e00 : zk_up (zk_up v' x.1 (.int (sd + 3))) (x.1 + 1) (.int 4001) 0 = .ref a := by rw [zk_up_lt (Nat.lt_succ_of_lt f0), e0]
  have hfin := zk_F_gb (o := 0) (f := 1001) (w := x.1 + 1) (zk_F_st [] hup2) (Nat.lt_succ_of_lt (Nat.lt_succ_of_lt f0)) (Nat.lt_succ_self _) (by decide) e00 hg0 (by rw [hga]; exact hM.2.1) ha2 (by rw [zk_up_at]; exact zq_mk1 hA g1')
  exact zk_from (q0 := (187, zq_sh2 KT kS kM sy lI hI x, [], 0, 0)) (hd := []) (xs := []) hx hb hw hok hR1 hR2 hr hlocks hQ hchk (fun q hq => absurd hq List.not_mem_nil) hp2 (zk_ev_tr hw.1 he (zk_ev_sb hC ev2)) hl2 hfin (zk_LS_af hLu2)
end ZS
