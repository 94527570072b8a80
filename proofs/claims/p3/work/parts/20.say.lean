/-! SAY, by hand: from its store to its return; what the ghosts become -/
noncomputable section
section ZY
variable {p : Program} {l : Launch} {e : Env} {R : Room} {s : State} {m : MethodId} {args : Array Value} {below : List Frame} {meth : Method} {c : Code} {Q : State → Prop} {KT : List zk_K} {D : zk_D} {base : Nat} {Hb : Heap} {n0 nL : Nat} {v0 : Nat → Value} {E : List (Nat × Nat)} {G0 : Nat → Nat} {H0 : Heap} {cc : ByteArray}
variable {cells slots : Nat}
/-- the kinds of the reference's object and of its row of codes -/
def zq_kM (KT : List zk_K) (kM ci : Nat) (hi : Int) : Prop := kM ≠ 0 ∧ (zk_kd KT kM).1 = 0 ∧ (zk_kd KT kM).2.1 = ci ∧ (zk_kd KT kM).2.2.2.2.2.2.2 = 0 ∧ (zk_kd KT kM).2.2.1[25]? = some (0, 0, hi) ∧ (zk_kd KT kM).2.2.2.2.2.1 = []
def zq_kS (KT : List zk_K) (kS : Nat) : Prop := kS ≠ 0 ∧ (zk_kd KT kS).1 ≠ 0 ∧ (zk_kd KT kS).2.1 = 0 ∧ (zk_kd KT kS).2.2.2.2.2.2.2 = 0 ∧ (zk_kd KT kS).2.2.2.2.2.1 = [] ∧ (zk_kd KT kS).2.2.1[0]? = some zk_I
theorem zq_say_w (hx : p.tables.exec = Jvm.exec) (hb : c.code = cc) (hkt : zk_kt KT) (hdj : zk_dj KT D) (hAT : ArrOfT s (D.2.2.1 0) .int) {kM kS ci i25 : Nat} {hi : Int}
    (hg : zk_gok p l e R s m args below meth c Q D cc i25 ci 25) (hpk : zk_pok p l e R s m args below meth c Q D cc i25 ci 25 0) (hM : zq_kM KT kM ci hi) (hS : zq_kS KT kS)
    (d9 : decode cc 9 = .ok (.iastore, 1)) (d10 : decode cc 10 = .ok (.aload_n 0, 1)) (d11 : decode cc 11 = .ok (.dup, 1)) (d12 : decode cc 12 = .ok (.getfield i25, 3)) (d15 : decode cc 15 = .ok (.iconst 1, 1)) (d16 : decode cc 16 = .ok (.iadd, 1)) (d17 : decode cc 17 = .ok (.putfield i25, 3))
    {G : Nat → Nat} {H : Heap} {locs : List Loc} {ls : Array Slot} {a b : Nat} {cv sd : Int32} {cell cb : Cell} (hp : zk_hp KT D base Hb G H) (hl : ∀ q ∈ locs, base ≤ q.base) (hga : G a = kM) (hca : H[a]? = some cell) (h25 : cell.slots[D.2.1 ci 25]? = some (.int sd)) (hgb : G b = kS) (hcb : H[b]? = some cb) (h0 : 0 ≤ sd.toInt) (h1 : sd.toInt < cb.slots.size) (hh : sd.toInt + 1 ≤ hi) (hh2 : hi ≤ 2147483647) (hls : lv_has ls nL [(0, .ref a), (1, .int cv)])
    (kk : ∀ (H2 : Heap) (locs2 : List Loc), zk_hp KT D base Hb G H2 → zk_ev KT D [(kS, 0), (kM, 25)] G H G H2 → H2.size = H.size → H2[b]? = some (cb.setSlot sd.toNatClampNeg (.int cv)) → H2[a]? = some (cell.setSlot (D.2.1 ci 25) (.int (sd + 1))) → (∀ q ∈ locs2, base ≤ q.base) → W p l e R s m args below meth c H2 locs2 cells slots Q (F0 m 20 ls [])) : W p l e R s m args below meth c H locs cells slots Q (F0 m 9 ls [.int cv, .int sd, .ref b]) := by
  obtain ⟨m1, m2, m3, m4, m5, m6⟩ := hM
  obtain ⟨s1, s2, s3, s4, s5, s6⟩ := hS
  have hab : b ≠ a := fun e => by rw [e, hga] at hgb; rw [← hgb] at s2; exact s2 m2
  have hsn : (sd.toNatClampNeg : Int) = sd.toInt := by rw [Int32.toNatClampNeg]; omega
  obtain ⟨-, cb', r1, r2, -⟩ := hp.2.2 b (by rw [hgb]; exact s1)
  rw [hcb] at r1; cases r1
  have hcls := (r2.2.2 (by rw [hgb]; exact s2)).1
  rw [hgb, s3] at hcls
  have hix : ¬ (sd < 0 ∨ cb.slots.size ≤ sd.toNatClampNeg) := by
    intro q
    rcases q with q | q
    · have q := Int32.lt_iff_toInt_lt.mp q
      rw [show (0 : Int32).toInt = 0 from rfl] at q
      omega
    · omega
  refine W.iast hx hb hcb (zk_isa hAT hcls r2.1.1) (zk_unk r2.1.1) hix rfl rfl d9 (fun H1 e1 e2 e3 => ?_)
  obtain ⟨hp1, ev1, hbb, -⟩ := zk_hp_arr hp (by rw [hgb]; exact s1) (by rw [hgb]; exact s2) (by rw [hgb]; exact s4) (by rw [hgb]; exact s5) hcb (by rw [hgb]; exact s6) (by omega : sd.toNatClampNeg < cb.slots.size) (w := .int cv) ⟨zk_tv_I cv, fun z => by cases z⟩ (fun z => by cases z) e1 e2 e3
  rw [hgb] at ev1
  have hca1 : H1[a]? = some cell := by rw [e3 a (fun z => hab z.symm)]; exact hca
  obtain ⟨-, cl', q1, q2, -⟩ := hp1.2.2 a (by rw [hga]; exact m1)
  rw [hca1] at q1; cases q1
  have hcla := (q2.2.1 (by rw [hga]; exact m2)).1
  rw [hga, m3] at hcla
  have hvm : cell.vm = .none := q2.1.2 (by rw [hga]; exact m4)
  refine lv_aload_n hx hb d10 rfl (lv_at hls 0 rfl) ?_
  refine lv_dup hx hb d11 rfl ?_
  refine hg hca1 hcla q2.1.1 h25 d12 ?_
  refine lv_iconst (v := 1) hx hb d15 rfl ?_
  refine lv_iadd hx hb d16 ?_
  refine hpk hca1 hcla hvm h25 (⟨sd + 1, rfl⟩ : zk_fv 0 (.int (sd + 1))) d17 (fun H2 f1 f2 f3 => ?_)
  have hs1 : (sd + 1).toInt = sd.toInt + 1 := by
    rw [Int32.toInt_add, show (1 : Int32).toInt = 1 from rfl]
    rw [Int.bmod_eq_of_le (by omega) (by omega)]
  have f1' : H2[a]? = some (cell.setSlot (zk_sl KT D (G a) 25) (.int (sd + 1))) := by unfold zk_sl; rw [hga, m3]; exact f1
  obtain ⟨hp2, ev2, -, hba⟩ := zk_hp_put hdj hp1 (by rw [hga]; exact m1) (by rw [hga]; exact m2) (by rw [hga]; exact m4) hca1 (by rw [hga]; exact m5) (w := .int (sd + 1)) ⟨zk_tv_int (by omega) (by omega), fun z => by cases z⟩ (fun q hq => by rw [hga, m6] at hq; exact absurd hq List.not_mem_nil) f1' f2 f3
  rw [hga] at ev2
  refine kk H2 _ hp2 (zk_ev_tr hkt (zk_ev_sb (by simp only [zk_sb, List.all_cons, List.all_nil, Bool.and_true]; simp only [zk_me_eq]; simp [Nat.beq_refl]) ev1) (zk_ev_sb (by simp only [zk_sb, List.all_cons, List.all_nil, Bool.and_true]; simp only [zk_me_eq]; simp [Nat.beq_refl]) ev2)) (f2.trans e2) (by rw [f3 b hab]; exact e1) f1 ?_
  exact zk_locs (zk_locs hl hbb) hba
/-- what has been said, and one code more -/
theorem zq_said {ds : Nat → Nat → Nat} {kM kS ci : Nat} (hci : (zk_kd KT kM).2.1 = ci) (hne : ds ci 18 ≠ ds ci 25) {G : Nat → Nat} {H H2 : Heap} {a b : Nat} {cv sd : Int32} {cell cb : Cell} (hga : G a = kM) (h25 : cell.slots[ds ci 25]? = some (.int sd)) (h18 : cell.slots[ds ci 18]? = some (.ref b)) (hgb : G b = kS) (h0 : 0 ≤ sd.toInt) (h1 : sd.toInt < cb.slots.size) (hb : sd.toInt + 1 ≤ 2147483647) (e1 : H2[b]? = some (cb.setSlot sd.toNatClampNeg (.int cv))) (e2 : H2[a]? = some (cell.setSlot (ds ci 25) (.int (sd + 1)))) :
    zq_G1 KT ds kM kS G H2 a (cb.setSlot sd.toNatClampNeg (.int cv)) (sd.toNatClampNeg + 1) ∧ zq_seg (cb.setSlot sd.toNatClampNeg (.int cv)) 0 (sd.toNatClampNeg + 1) = zq_seg cb 0 sd.toNatClampNeg ++ [cv.toInt] ∧ ∀ o n, o + n ≤ sd.toNatClampNeg → zq_seg (cb.setSlot sd.toNatClampNeg (.int cv)) o n = zq_seg cb o n := by
  have hsn : (sd.toNatClampNeg : Int) = sd.toInt := by rw [Int32.toNatClampNeg]; omega
  have hlt : sd.toNatClampNeg < cb.slots.size := by omega
  have hsz : (cb.setSlot sd.toNatClampNeg (.int cv)).slots.size = cb.slots.size := zk_size_set _ _ _
  have hr := zk_rng sd
  have hseg : ∀ o n, o + n ≤ sd.toNatClampNeg → zq_seg (cb.setSlot sd.toNatClampNeg (.int cv)) o n = zq_seg cb o n := fun o n h => zq_seg_ext fun i hi => slot_ne _ _ (by omega)
  refine ⟨⟨_, b, sd + 1, hga, e2, ?_, ?_, ?_, hgb, e1, by rw [hsz]; omega⟩, ?_, hseg⟩
  · rw [hci]; exact Cell.slots_setSlot_self _ (k2_hasslot h25)
  · rw [Int32.toInt_add, show (1 : Int32).toInt = 1 from rfl, Int.bmod_eq_of_le (by omega) (by omega)]; omega
  · rw [hci, slot_ne _ _ (fun z => hne z.symm)]; exact h18
  · rw [zq_seg_one (w := .int cv) (by rw [Nat.zero_add]; exact Cell.slots_setSlot_self _ hlt), hseg 0 _ (by omega)]
    rfl
end ZY
end
