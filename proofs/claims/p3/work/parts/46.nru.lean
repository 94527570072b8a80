/-! RULES, by hand, 6: the state behind -/
section ZR8
variable {p : Program} {l : Launch} {e : Env} {R : Room} {s : State} {m : MethodId} {args : Array Value} {below : List Frame} {meth : Method} {c : Code} {Q : State → Prop} {KT : List zk_K} {D : zk_D} {base : Nat} {Hb : Heap} {n0 nL : Nat} {v0 : Nat → Value} {E : List (Nat × Nat)} {G0 : Nat → Nat} {H0 : Heap} {cc : ByteArray}
variable {P : zk_P} {AT : List FieldType} {C : zk_C}
set_option maxHeartbeats 1000000 in
theorem zq_ru_fin (hx : p.tables.exec = Jvm.exec) (hb : c.code = cc) {rt : Option FieldType} {x : zk_S} {E2 : List (Nat × Nat)} {fuel kM kS kC kT kP kA : Nat} {v : Nat → Value} (hw : zk_wd s KT D AT) (hok : zk_ok p l e R s m args below meth c Q KT D base Hb nL cc P C.2.2.2.2) (hR1 : R.cells = C.2.2.2.1) (hR2 : R.slots = C.2.2.2.2) (hr : meth.sig.returnType = rt) (hlocks : meth.locks = false) (hQ : ∀ t : State, MQ below (zk_Qf KT D base Hb C v G0 H0) args s C.2.2.2.1 C.2.2.2.2 (fun q => base ≤ q) t → Q t) (hA : zq_all KT D kM kS kC kT kP kA) (hC : zk_sb E2 C.2.2.1 = true) (hM0 : kM ≠ 0) (hM1 : (zk_kd KT kM).1 = 0) (hn0 : 0 < x.1)
    (hchk : zk_chf KT P cc nL C rt [] [] (176, zq_ruY KT E2 x, [], 0, 0) fuel 1 = true)
    {G : Nat → Nat} {H H2 : Heap} {locs : List Loc} {ls ls2 : Array Slot} {v' : Nat → Value} {a : Nat} {n zz : Int32} {cell2 : Cell} (he : zk_ev KT D C.2.2.1 G0 H0 G H) (hF : zk_F KT D G H v' x) (hL : zk_LS C.1.1 v nL ls [] v' x) (ea : v' 0 = .ref a) (hga : G a = kM) (n0 : 0 ≤ n.toInt) (n19 : n.toInt ≤ 19)
    (hp2 : zk_hp KT D base Hb G H2) (ev2 : zk_ev KT D E2 G H G H2) (hz2 : H2.size = H.size) (hg2 : zq_1002 KT D.2.1 kM kC kT G H2 a (.int zz)) (hc2 : H2[a]? = some cell2) (hl2 : ∀ q ∈ locs, base ≤ q.base) (hls2 : lv_has ls2 nL (x.2.1.map fun q => (q.1, v' q.2))) : W p l e R s m args below meth c H2 locs 0 0 Q (F0 m 176 ls2 [.int n]) := by
  have hF1 := zk_F_st [] (zk_F_ev (keep := true) hw.1 hF ev2 (fun _ => hz2))
  have hL1 : zk_LS C.1.1 v nL ls2 [] v' (zk_st (zk_ex KT E2 x true) []) := zk_LS_st (stk' := []) (zk_LS_ex (zk_LS_ls hL hls2)) (fun q hq => absurd hq List.not_mem_nil)
  have hn1 : (zk_st (zk_ex KT E2 x true) []).1 = x.1 := rfl
  have hup := zk_F_up (w := .int zz) (stk' := []) (t := zk_I) (rs := []) (ms := []) hF1 (zk_tv_I zz) (fun q hq => absurd hq List.not_mem_nil) (fun q hq => absurd hq List.not_mem_nil)
  have hLu := zk_LS_st (stk' := []) (zk_LS_up (w := .int zz) (stk' := []) (t := zk_I) (rs := []) (ms := []) hL1 (fun q hq => absurd hq List.not_mem_nil)) (fun q hq => absurd hq List.not_mem_nil)
  rw [hn1] at hup hLu
  have e0 : zk_up v' x.1 (.int zz) 0 = .ref a := by rw [zk_up_lt hn0, ea]
  have hgb := zk_F_gb (o := 0) (f := 1002) (w := x.1) (zk_F_st [] hup) (Nat.lt_succ_of_lt hn0) (Nat.lt_succ_self _) (by decide) e0 (by rw [hga]; exact hM0) (by rw [hga]; exact hM1) hc2 (by rw [zk_up_at]; exact zq_mk2 hA hg2)
  have hfin := zk_F_up (w := .int n) (stk' := []) (t := (0, 0, 19)) (rs := []) (ms := []) hgb (zk_tv_int n0 n19) (fun q hq => absurd hq List.not_mem_nil) (fun q hq => absurd hq List.not_mem_nil)
  have hLf := zk_LS_up (w := .int n) (stk' := []) (t := (0, 0, 19)) (rs := []) (ms := []) (zk_LS_af (fs := [(0, 1002, x.1)]) (ns := []) (ps := []) hLu) (fun q hq => absurd hq List.not_mem_nil)
  exact zk_from (q0 := (176, zq_ruY KT E2 x, [], 0, 0)) (hd := []) (xs := []) hx hb hw hok hR1 hR2 hr hlocks hQ hchk (fun q hq => absurd hq List.not_mem_nil) hp2 (zk_ev_tr hw.1 he (zk_ev_sb hC ev2)) hl2 hfin hLf
end ZR8
