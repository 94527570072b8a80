/-! SAY, by hand, 3: the ghosts behind it, and its return -/
noncomputable section
def zq_f4 (x : zk_S) (mo : Nat) : List (Nat × Nat × Nat) := if mo = 0 then [] else if mo = 1 then [(0, 1004, 4)] else [(0, 1004, x.1)]
def zq_y4 (KT : List zk_K) (kS kM : Nat) (x : zk_S) (l h d : Int) (mo : Nat) : zk_S := zk_af (zq_y1 KT kS kM x l h d) (zq_f4 x mo) [] []
section ZV
variable {p : Program} {l : Launch} {e : Env} {R : Room} {s : State} {m : MethodId} {args : Array Value} {below : List Frame} {meth : Method} {c : Code} {Q : State → Prop} {KT : List zk_K} {D : zk_D} {base : Nat} {Hb : Heap} {n0 nL : Nat} {v0 : Nat → Value} {E : List (Nat × Nat)} {G0 : Nat → Nat} {H0 : Heap} {cc : ByteArray}
variable {cells slots : Nat} {P : zk_P} {AT : List FieldType} {C : zk_C}
set_option maxHeartbeats 4000000 in
theorem zq_say_x (hx : p.tables.exec = Jvm.exec) (hb : c.code = cc) {rt : Option FieldType} {x : zk_S} {sv kM kS ci i25 fuel : Nat} {hi : Int} {v : Nat → Value} (hw : zk_wd s KT D AT) (hok : zk_ok p l e R s m args below meth c Q KT D base Hb nL cc P C.2.2.2.2) (hR1 : R.cells = C.2.2.2.1) (hR2 : R.slots = C.2.2.2.2) (hr : meth.sig.returnType = rt) (hlocks : meth.locks = false) (hQ : ∀ t : State, MQ below (zk_Qf KT D base Hb C v G0 H0) args s C.2.2.2.1 C.2.2.2.2 (fun q => base ≤ q) t → Q t)
    (hC : zk_sb [(kS, 0), (kM, 25)] C.2.2.1 = true) (hPf : (i25, ci, 25, 0) ∈ P.1) (hM : zq_kM KT kM ci hi) (hS : zq_kS KT kS)
    (d9 : decode cc 9 = .ok (.iastore, 1)) (d10 : decode cc 10 = .ok (.aload_n 0, 1)) (d11 : decode cc 11 = .ok (.dup, 1)) (d12 : decode cc 12 = .ok (.getfield i25, 3)) (d15 : decode cc 15 = .ok (.iconst 1, 1)) (d16 : decode cc 16 = .ok (.iadd, 1)) (d17 : decode cc 17 = .ok (.putfield i25, 3))
    (c1 : x.2.2.1 = [1, 2, sv]) (c2 : x.2.1 = [(0, 0), (1, 1)]) (c3 : (0, 25, 2) ∈ x.2.2.2.2.2.1) (c4 : (0, 18, sv) ∈ x.2.2.2.2.2.1) (t0 : zk_lk x.2.2.2.1 0 = (2, (kM : Int), 0)) (t1 : (zk_lk x.2.2.2.1 1).1 = 0) (t2 : zk_lk x.2.2.2.1 2 = (0, 0, 419)) (tsv : zk_lk x.2.2.2.1 sv = (2, (kS : Int), 0)) (hlo : 420 ≤ (zk_kd KT kS).2.2.2.1) (hhi : 420 ≤ hi ∧ hi ≤ 2147483647)
    (hchk : zk_chf KT P cc nL C rt [] [] (20, zq_y0 KT kS kM x, [], 0, 0) fuel 1 = true)
    {G : Nat → Nat} {H : Heap} {locs : List Loc} {ls : Array Slot} {vs : List Value} {v' : Nat → Value} (hp : zk_hp KT D base Hb G H) (he : zk_ev KT D C.2.2.1 G0 H0 G H) (hl : ∀ q ∈ locs, base ≤ q.base) (hF : zk_F KT D G H v' x) (hL : zk_LS C.1.1 v nL ls vs v' x) : W p l e R s m args below meth c H locs 0 0 Q (F0 m 9 ls vs) := by
  have hg := hok.1 _ hPf
  refine zq_say_core hx hb hw.1 hw.2.1 (hw.2.2.1 0 _ hw.2.2.2.1) hg.1 hg.2 hM hS d9 d10 d11 d12 d15 d16 d17 c1 c2 c3 c4 t0 t1 t2 tsv hlo hhi hp hl hF hL (fun a b cv sd cell cb H2 locs2 ea ec es hga hca h25 h18 hgb hcb s1 s2 s3 ea2 eb2 hp2 ev2 hl2 hF2 hL2 => ?_)
  exact zk_from (q0 := (20, zq_y0 KT kS kM x, [], 0, 0)) (hd := []) (xs := []) hx hb hw hok hR1 hR2 hr hlocks hQ hchk (fun q hq => absurd hq List.not_mem_nil) hp2 (zk_ev_tr hw.1 he (zk_ev_sb hC ev2)) hl2 hF2 hL2
set_option maxHeartbeats 4000000 in
theorem zq_say_g (hx : p.tables.exec = Jvm.exec) (hb : c.code = cc) {rt : Option FieldType} {x : zk_S} {sv kM kS kC kT kP kA ci i25 fuel mo : Nat} {hi lo3 hi3 d cl ch : Int} {v : Nat → Value} (hw : zk_wd s KT D AT) (hok : zk_ok p l e R s m args below meth c Q KT D base Hb nL cc P C.2.2.2.2) (hR1 : R.cells = C.2.2.2.1) (hR2 : R.slots = C.2.2.2.2) (hr : meth.sig.returnType = rt) (hlocks : meth.locks = false) (hQ : ∀ t : State, MQ below (zk_Qf KT D base Hb C v G0 H0) args s C.2.2.2.1 C.2.2.2.2 (fun q => base ≤ q) t → Q t)
    (hA : zq_all KT D kM kS kC kT kP kA) (hlen : (zk_kd KT kM).2.2.1.length ≤ 1000) (hne : D.2.1 ci 18 ≠ D.2.1 ci 25)
    (hC : zk_sb [(kS, 0), (kM, 25)] C.2.2.1 = true) (hPf : (i25, ci, 25, 0) ∈ P.1) (hM : zq_kM KT kM ci hi) (hS : zq_kS KT kS)
    (d9 : decode cc 9 = .ok (.iastore, 1)) (d10 : decode cc 10 = .ok (.aload_n 0, 1)) (d11 : decode cc 11 = .ok (.dup, 1)) (d12 : decode cc 12 = .ok (.getfield i25, 3)) (d15 : decode cc 15 = .ok (.iconst 1, 1)) (d16 : decode cc 16 = .ok (.iadd, 1)) (d17 : decode cc 17 = .ok (.putfield i25, 3))
    (c1 : x.2.2.1 = [1, 2, sv]) (c2 : x.2.1 = [(0, 0), (1, 1)]) (c3 : (0, 25, 2) ∈ x.2.2.2.2.2.1) (c4 : (0, 18, sv) ∈ x.2.2.2.2.2.1) (t0 : zk_lk x.2.2.2.1 0 = (2, (kM : Int), 0)) (t1 : zk_lk x.2.2.2.1 1 = (0, cl, ch)) (t2 : zk_lk x.2.2.2.1 2 = (0, 0, 419)) (tsv : zk_lk x.2.2.2.1 sv = (2, (kS : Int), 0)) (hlo : 420 ≤ (zk_kd KT kS).2.2.2.1) (hhi : 420 ≤ hi ∧ hi ≤ 2147483647)
    (t3 : zk_lk x.2.2.2.1 3 = (0, lo3, hi3)) (c5 : (0, 1001, 3) ∈ x.2.2.2.2.2.1) (hst : ∀ z c : Int, lo3 ≤ z → z ≤ hi3 → cl ≤ c → c ≤ ch → zq_st z c = z + d) (hd0 : 0 ≤ lo3 + d ∧ hi3 + d ≤ 2147483647)
    (hm1 : mo = 1 → (0, 1004, 4) ∈ x.2.2.2.2.2.1 ∧ ∀ z c : Int, lo3 ≤ z → z ≤ hi3 → cl ≤ c → c ≤ ch → z < 4000 → 1000 ≤ z + d ∧ z + d < 4000) (hm2 : mo ≠ 0 → mo ≠ 1 → lo3 = 0 ∧ hi3 = 0)
    (hchk : zk_chf KT P cc nL C rt [] [] (20, zq_y4 KT kS kM x lo3 hi3 d mo, [], 0, 0) fuel 1 = true)
    {G : Nat → Nat} {H : Heap} {locs : List Loc} {ls : Array Slot} {vs : List Value} {v' : Nat → Value} (hp : zk_hp KT D base Hb G H) (he : zk_ev KT D C.2.2.1 G0 H0 G H) (hl : ∀ q ∈ locs, base ≤ q.base) (hF : zk_F KT D G H v' x) (hL : zk_LS C.1.1 v nL ls vs v' x) : W p l e R s m args below meth c H locs 0 0 Q (F0 m 9 ls vs) := by
  have hg := hok.1 _ hPf
  refine zq_say_core hx hb hw.1 hw.2.1 (hw.2.2.1 0 _ hw.2.2.2.1) hg.1 hg.2 hM hS d9 d10 d11 d12 d15 d16 d17 c1 c2 c3 c4 t0 (by rw [t1]) t2 tsv hlo hhi hp hl hF hL (fun a b cv sd cell cb H2 locs2 ea ec es hga hca h25 h18 hgb hcb s1 s2 s3 ea2 eb2 hp2 ev2 hl2 hF2 hL2 => ?_)
  obtain ⟨f0, f3, a1, cell1, q1, q2, q3, q4, q5⟩ := zk_F_fl hF _ c5
  have f0 : 0 < x.1 := f0
  have f3 : 3 < x.1 := f3
  rw [ea] at q1; cases q1
  have hgh : zk_gh KT D G H a 1001 (v' 3) := by
    rcases q5 with ⟨z, -⟩ | ⟨-, z⟩
    · exfalso
      have := hlen
      rw [← hga] at this
      have z : 1001 < (zk_kd KT (G a)).2.2.1.length := z
      omega
    · exact z
  have ty3 := zk_F_ty hF 3
  rw [t3] at ty3
  obtain ⟨z, ez, z1, z2⟩ := zk_gi ty3 rfl
  have z1 : lo3 ≤ z.toInt := z1
  have z2 : z.toInt ≤ hi3 := z2
  have ty1 := zk_F_ty hF 1
  rw [t1] at ty1
  obtain ⟨cv', ecv, w1, w2⟩ := zk_gi ty1 rfl
  rw [ec] at ecv; cases ecv
  have hstz := hst z.toInt cv.toInt z1 z2 w1 w2
  rw [ez] at hgh
  have h1001 := zq_at1 hA hgh
  have hrz := zk_rng z
  obtain ⟨z', ez'⟩ : ∃ z' : Int32, z'.toInt = z.toInt + d := ⟨Int32.ofInt (z.toInt + d), by
    rw [Int32.toInt_ofInt]
    have s32 : Int32.size = 4294967296 := rfl
    exact Int.bmod_eq_of_le (by rw [s32]; omega) (by rw [s32]; omega)⟩
  obtain ⟨g1, -⟩ := zq_say1 hM.2.2.1 hne hga hca h25 h18 hgb hcb s1 s3 (by omega) eb2 ea2 h1001 (z' := z') (by rw [hstz, ez']) (by omega)
  have hn0 : (zq_y0 KT kS kM x).1 = x.1 + 1 := rfl
  have hup := zk_F_up (w := .int z') (stk' := []) (t := (0, lo3 + d, hi3 + d)) (rs := [(x.1 + 1, 3, d), (3, x.1 + 1, -d)]) (ms := []) hF2 (zk_tv_int (by omega) (by omega)) (fun q hq => by
      rw [hn0]
      have e3 : zk_up (zk_up v' x.1 (.int (sd + 1))) (x.1 + 1) (.int z') 3 = .int z := by rw [zk_up_lt (by omega), zk_up_lt f3, ez]
      simp only [List.mem_cons, List.not_mem_nil, or_false] at hq
      rcases hq with rfl | rfl
      · refine ⟨Nat.lt_succ_self _, by show 3 < x.1 + 1 + 1; omega, ?_⟩
        show zk_i (zk_up (zk_up v' x.1 (.int (sd + 1))) (x.1 + 1) (.int z') (x.1 + 1)) ≤ zk_i (zk_up (zk_up v' x.1 (.int (sd + 1))) (x.1 + 1) (.int z') 3) + d
        rw [zk_up_at, e3]
        show z'.toInt ≤ z.toInt + d
        omega
      · refine ⟨by show 3 < x.1 + 1 + 1; omega, Nat.lt_succ_self _, ?_⟩
        show zk_i (zk_up (zk_up v' x.1 (.int (sd + 1))) (x.1 + 1) (.int z') 3) ≤ zk_i (zk_up (zk_up v' x.1 (.int (sd + 1))) (x.1 + 1) (.int z') (x.1 + 1)) + -d
        rw [zk_up_at, e3]
        show z.toInt ≤ z'.toInt + -d
        omega) (fun q hq => absurd hq List.not_mem_nil)
  have hLu := zk_LS_st (stk' := []) (zk_LS_up (w := .int z') (stk' := []) (t := (0, lo3 + d, hi3 + d)) (rs := [(x.1 + 1, 3, d), (3, x.1 + 1, -d)]) (ms := []) hL2 (fun q hq => absurd hq List.not_mem_nil)) (fun q hq => absurd hq List.not_mem_nil)
  rw [hn0] at hup hLu
  have e0 : zk_up (zk_up v' x.1 (.int (sd + 1))) (x.1 + 1) (.int z') 0 = .ref a := by rw [zk_up_lt (by omega), zk_up_lt f0, ea]
  have hgb1 := zk_F_gb (o := 0) (f := 1001) (w := x.1 + 1) (zk_F_st [] hup) (by show 0 < x.1 + 1 + 1; omega) (Nat.lt_succ_self _) (by omega) e0 q2 q3 ea2 (by rw [zk_up_at]; exact zq_mk1 hA g1)
  have hfin : zk_F KT D G H2 (zk_up (zk_up v' x.1 (.int (sd + 1))) (x.1 + 1) (.int z')) (zq_y4 KT kS kM x lo3 hi3 d mo) := by
    unfold zq_y4 zq_f4
    split
    · exact zk_F_af hgb1 (fun q hq => absurd hq List.not_mem_nil) (fun q hq => absurd hq List.not_mem_nil) (fun q hq => absurd hq List.not_mem_nil)
    · split
      · rename_i hmo
        obtain ⟨c6, hst4⟩ := hm1 hmo
        obtain ⟨-, f4, a2, cell2, r1, r2, r3, r4, r5⟩ := zk_F_fl hF _ c6
        have f4 : 4 < x.1 := f4
        rw [ea] at r1; cases r1
        have hgh4 : zk_gh KT D G H a 1004 (v' 4) := by
          rcases r5 with ⟨z, -⟩ | ⟨-, z⟩
          · exact absurd (show 1004 < (zk_kd KT (G a)).2.2.1.length from z) (by have := hlen; rw [← hga] at this; omega)
          · exact z
        have h1004 := zq_at4 hA hgh4
        have g4 := zq_say4 hM.2.2.1 hne hga hca h25 h18 hgb hcb s1 s3 (by omega) eb2 ea2 h1001 h1004 (fun hz4 => by rw [hstz]; exact hst4 _ _ z1 z2 w1 w2 hz4)
        exact zk_F_gb (o := 0) (f := 1004) (w := 4) hgb1 (by show 0 < x.1 + 1 + 1; omega) (by show 4 < x.1 + 1 + 1; omega) (by omega) e0 q2 q3 ea2 (by rw [zk_up_lt (by omega), zk_up_lt f4]; exact zq_mk4 hA g4)
      · rename_i k1 k2
        obtain ⟨l0, h0⟩ := hm2 k1 k2
        have g4 := zq_say4L hM.2.2.1 hne hga hca h25 h18 hgb hcb s1 s3 (by omega) eb2 ea2 h1001 (by omega)
        exact zk_F_gb (o := 0) (f := 1004) (w := x.1) hgb1 (by show 0 < x.1 + 1 + 1; omega) (by show x.1 < x.1 + 1 + 1; omega) (by omega) e0 q2 q3 ea2 (by rw [zk_up_lt (by omega), zk_up_at]; exact zq_mk4 hA g4)
  exact zk_from (q0 := (20, zq_y4 KT kS kM x lo3 hi3 d mo, [], 0, 0)) (hd := []) (xs := []) hx hb hw hok hR1 hR2 hr hlocks hQ hchk (fun q hq => absurd hq List.not_mem_nil) hp2 (zk_ev_tr hw.1 he (zk_ev_sb hC ev2)) hl2 hfin (zk_LS_af (zk_LS_af hLu))
end ZV
end
