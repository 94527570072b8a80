/-! CLAUSE, by hand: a sum alone becomes the condition 1 and its value -/
noncomputable section
def zq_sh1 (KT : List zk_K) (kS kM sy : Nat) (l h : Int) (x : zk_S) : zk_S := zk_af (zk_st (zk_pu (zk_st (zk_ex KT [(kS, 0), (kM, 25)] x true) []) [] (0, l, h) [(x.1, sy, 3), (sy, x.1, -3)] []) []) [(0, 25, x.1)] [] []
def zq_sh2 (KT : List zk_K) (kS kM sy : Nat) (l h : Int) (x : zk_S) : zk_S := zk_af (zk_st (zk_pu (zq_sh1 KT kS kM sy l h x) [] (0, 4001, 4001) [] []) []) [(0, 1001, x.1 + 1)] [] []
theorem zq_arith1 (t : Int) (n : Nat) : t - 1 + ((n + 1 : Nat) : Int) - 1 = t - 1 + n := by omega
section ZS
variable {p : Program} {l : Launch} {e : Env} {R : Room} {s : State} {m : MethodId} {args : Array Value} {below : List Frame} {meth : Method} {c : Code} {Q : State → Prop} {KT : List zk_K} {D : zk_D} {base : Nat} {Hb : Heap} {n0 nL : Nat} {v0 : Nat → Value} {E : List (Nat × Nat)} {G0 : Nat → Nat} {H0 : Heap} {cc : ByteArray}
variable {cells slots : Nat}
/-- a row that is being shifted: above k stands what stood three below -/
def zq_sfi (cb cb1 : Cell) (s : Nat) (k : Int) : Prop := cb1.slots.size = cb.slots.size ∧ (∀ j : Nat, (j : Int) ≤ k + 3 → cb1.slots[j]? = cb.slots[j]?) ∧ ∀ j : Nat, k + 1 ≤ (j : Int) → j < s → cb1.slots[j + 3]? = cb.slots[j]?
theorem zq_sfi_step {cb cb1 : Cell} {S : Nat} {k : Int32} {q : Int32} (h : zq_sfi cb cb1 S k.toInt) (hk0 : 0 ≤ k.toInt) (hkS : k.toInt < S) (hS3 : S + 3 ≤ cb.slots.size) (hsz : cb.slots.size ≤ 100000) (hq : cb1.slots[k.toNatClampNeg]? = some (.int q)) : zq_sfi cb (cb1.setSlot (k + 3).toNatClampNeg (.int q)) S (k + Int32.ofInt (-1)).toInt ∧ k.toInt < cb1.slots.size ∧ 0 ≤ (k + 3).toInt ∧ (k + 3).toInt < cb1.slots.size ∧ (k + Int32.ofInt (-1)).toInt = k.toInt - 1 := by
  obtain ⟨f1, f2, f3⟩ := h
  have e3 : (k + 3).toInt = k.toInt + 3 := by
    rw [Int32.toInt_add, show (3 : Int32).toInt = 3 from rfl]
    exact Int.bmod_eq_of_le (by omega) (by omega)
  have em : (k + Int32.ofInt (-1)).toInt = k.toInt - 1 := by
    rw [Int32.toInt_add, show (Int32.ofInt (-1)).toInt = -1 from by decide]
    exact Int.bmod_eq_of_le (by omega) (by omega)
  have nk := zq_nc hk0
  have nk3 := zq_nc (i := k + 3) (by omega)
  have hq2 : cb.slots[k.toNatClampNeg]? = some (.int q) := by rw [← f2 _ (by omega)]; exact hq
  refine ⟨⟨by rw [zk_size_set]; exact f1, fun j hj => ?_, fun j hj hjS => ?_⟩, by omega, by omega, by omega, em⟩
  · rw [slot_ne _ _ (by omega)]
    exact f2 j (by omega)
  · rcases Int.lt_or_le k.toInt (j : Int) with hlt | hle
    · rw [slot_ne _ _ (by omega)]
      exact f3 j (by omega) hjS
    · have ej : j = k.toNatClampNeg := by omega
      subst ej
      rw [show k.toNatClampNeg + 3 = (k + 3).toNatClampNeg by omega, Cell.slots_setSlot_self _ (by omega), hq2]
theorem zq_sfi_lt {cb cb1 : Cell} {S : Nat} {k : Int32} (h : zq_sfi cb cb1 S k.toInt) (hkS : k.toInt < S) (hS3 : S + 3 ≤ cb.slots.size) : k.toInt < cb1.slots.size := by
  obtain ⟨f1, -, -⟩ := h
  omega
set_option maxHeartbeats 400000 in
theorem zq_sh_loop (hx : p.tables.exec = Jvm.exec) (hb : c.code = cc) (hkt : zk_kt KT) (hAT : ArrOfT s (D.2.2.1 0) .int) {kS kM ci iS n : Nat} (hg18 : zk_gok p l e R s m args below meth c Q D cc iS ci 18) (hS : zq_kS KT kS) (hM1 : kM ≠ 0) (hM2 : (zk_kd KT kM).1 = 0) (hM3 : (zk_kd KT kM).2.1 = ci)
    (d120 : decode cc 120 = .ok (.iload 5, 2)) (d122 : decode cc 122 = .ok (.iload 4, 2)) (d124 : decode cc 124 = .ok (.if_icmp .lt 25, 3)) (d127 : decode cc 127 = .ok (.aload_n 0, 1)) (d128 : decode cc 128 = .ok (.getfield iS, 3)) (d131 : decode cc 131 = .ok (.iload 5, 2)) (d133 : decode cc 133 = .ok (.iconst 3, 1)) (d134 : decode cc 134 = .ok (.iadd, 1)) (d135 : decode cc 135 = .ok (.aload_n 0, 1)) (d136 : decode cc 136 = .ok (.getfield iS, 3)) (d139 : decode cc 139 = .ok (.iload 5, 2)) (d141 : decode cc 141 = .ok (.iaload, 1)) (d142 : decode cc 142 = .ok (.iastore, 1)) (d143 : decode cc 143 = .ok (.iinc 5 (-1), 3)) (d146 : decode cc 146 = .ok (.goto (-26), 3)) (hnL : nL = 6)
    {G : Nat → Nat} {H : Heap} {a b S : Nat} {t : Int32} {cell cb : Cell} (hga : G a = kM) (hgb : G b = kS) (h18 : cell.slots[D.2.1 ci 18]? = some (.ref b)) (ht : 0 ≤ t.toInt) (hS3 : S + 3 ≤ cb.slots.size) (hsz : cb.slots.size ≤ 100000)
    (kk : ∀ (H1 : Heap) (locs1 : List Loc) (ls1 : Array Slot) (cb1 : Cell) (k : Int32), zk_hp KT D base Hb G H1 → zk_ev KT D [(kS, 0)] G H G H1 → H1.size = H.size → H1[a]? = some cell → H1[b]? = some cb1 → zq_sfi cb cb1 S (t.toInt - 1) → (∀ q ∈ locs1, base ≤ q.base) → lv_has ls1 nL [(5, .int k), (0, .ref a), (4, .int t)] → W p l e R s m args below meth c H1 locs1 cells slots Q (F0 m 149 ls1 [])) :
    ∀ (n : Nat) (H1 : Heap) (locs1 : List Loc) (ls1 : Array Slot) (cb1 : Cell) (k : Int32), k.toInt = t.toInt - 1 + n → k.toInt < S → zk_hp KT D base Hb G H1 → zk_ev KT D [(kS, 0)] G H G H1 → H1.size = H.size → H1[a]? = some cell → H1[b]? = some cb1 → zq_sfi cb cb1 S k.toInt → (∀ q ∈ locs1, base ≤ q.base) → lv_has ls1 nL [(5, .int k), (0, .ref a), (4, .int t)] → W p l e R s m args below meth c H1 locs1 cells slots Q (F0 m 120 ls1 []) := by
  intro n
  subst hnL
  have hrow := zq_row_S hS
  have hel := hS.2.2.2.2.2
  have hab : b ≠ a := fun e => by rw [e, hga] at hgb; rw [← hgb] at hS; exact hS.2.1 hM2
  induction n with
  | zero =>
    intro H1 locs1 ls1 cb1 k hk hkS hp he hz ha hb1 hsf hl hls
    refine lv_iload hx hb d120 (lv_at hls 0 rfl) (lv_iload hx hb d122 (lv_at hls 2 rfl) ?_)
    refine lv_icmp_lt (tgt := 149) hx hb d124 (by decide) (fun _ => ?_) (fun hn => ?_)
    · exact kk H1 locs1 ls1 cb1 k hp he hz ha hb1 (by rw [show t.toInt - 1 = k.toInt by omega]; exact hsf) hl hls
    · exact absurd (Int32.lt_iff_toInt_lt.mpr (by omega)) hn
  | succ n ih =>
    intro H1 locs1 ls1 cb1 k hk hkS hp he hz ha hb1 hsf hl hls
    refine lv_iload hx hb d120 (lv_at hls 0 rfl) (lv_iload hx hb d122 (lv_at hls 2 rfl) ?_)
    refine lv_icmp_lt (tgt := 149) hx hb d124 (by decide) (fun hn => ?_) (fun _ => ?_)
    · have := Int32.lt_iff_toInt_lt.mp hn
      omega
    have hk0 : 0 ≤ k.toInt := by omega
    have hksz := zq_sfi_lt hsf hkS hS3
    obtain ⟨-, cl, r1, r2, -⟩ := hp.2.2 a (by rw [hga]; exact hM1)
    rw [ha] at r1; cases r1
    have hcla := (r2.2.1 (by rw [hga]; exact hM2)).1
    rw [hga, hM3] at hcla
    refine lv_aload_n hx hb d127 rfl (lv_at hls 1 rfl) ?_
    refine hg18 ha hcla r2.1.1 h18 d128 ?_
    refine lv_iload hx hb d131 (lv_at hls 0 rfl) ?_
    refine lv_iconst (v := 3) hx hb d133 rfl ?_
    refine lv_iadd hx hb d134 ?_
    refine lv_aload_n hx hb d135 rfl (lv_at hls 1 rfl) ?_
    refine hg18 ha hcla r2.1.1 h18 d136 ?_
    refine lv_iload hx hb d139 (lv_at hls 0 rfl) ?_
    refine zq_ild hx hb hAT hp hrow hgb hb1 hk0 hksz d141 (fun q tq q1 q2 q3 q4 => ?_)
    obtain ⟨g1, -, g3, g4, g5⟩ := zq_sfi_step hsf hk0 hkS hS3 hsz q1
    have hrq := zk_rng q
    refine zq_ist hx hb hAT (t := zk_I) hp hl hrow hgb hb1 g3 g4 hel hrq.1 hrq.2 d142 (fun H2 locs2 hp2 he2 hz2 eb2 eo2 hl2 => ?_)
    refine lv_iinc (k := 0) (v := k + Int32.ofInt (-1)) hx hb d143 hls rfl rfl (by decide) rfl (fun ls2 hls2 => ?_)
    refine lv_goto (tgt := 120) hx hb d146 (by decide) ?_
    exact ih H2 locs2 ls2 _ (k + Int32.ofInt (-1)) (by rw [g5, hk]; exact zq_arith1 _ _) (by rw [g5]; exact Int.lt_trans (Int.sub_lt_self _ (by decide)) hkS) hp2 (zk_ev_tr hkt he he2) (hz2.trans hz) (by rw [eo2 a (fun z => hab z.symm)]; exact ha) eb2 g1 hl2 hls2
end ZS
end
