/-! RULES, by hand: a text's codes, copied into their row -/
noncomputable section
/-- the row while it is being written: i codes stand -/
def zq_cp (cb cc cc1 : Cell) (o i : Nat) : Prop := cc1.slots.size = cc.slots.size ∧ (∀ j : Nat, j < o → cc1.slots[j]? = cc.slots[j]?) ∧ ∀ j : Nat, j < i → cc1.slots[o + j]? = cb.slots[j]?
theorem zq_cp_step {cb cc cc1 : Cell} {o i : Nat} {k : Nat} {q : Int32} (h : zq_cp cb cc cc1 o i) (hk : k = o + i) (hs : k < cc.slots.size) (hq : cb.slots[i]? = some (.int q)) : zq_cp cb cc (cc1.setSlot k (.int q)) o (i + 1) := by
  obtain ⟨g1, g2, g3⟩ := h
  subst hk
  refine ⟨by rw [zk_size_set]; exact g1, fun j hj => ?_, fun j hj => ?_⟩
  · rw [slot_ne _ _ (by omega)]; exact g2 j hj
  · by_cases e : j = i
    · subst e
      rw [Cell.slots_setSlot_self _ (by omega), hq]
    · rw [slot_ne _ _ (by omega)]; exact g3 j (by omega)
theorem zq_ru1 {n i s : Int32} {ii N S : Nat} (hn : n.toInt = (N : Int)) (hN : N ≤ 19) (hi : i.toInt = (ii : Int)) (hs : s.toInt = (S : Int)) (hS : S ≤ 420) (hlt : ii < S) {sz : Nat} (hsz : (8400 : Int) ≤ sz) : (420 * n + i).toInt = ((420 * N + ii : Nat) : Int) ∧ 0 ≤ (420 * n + i).toInt ∧ (420 * n + i).toInt < sz ∧ 420 * N + ii < sz ∧ 0 ≤ i.toInt ∧ (i + Int32.ofInt 1).toInt = ((ii + 1 : Nat) : Int) ∧ (420 * n + i).toNatClampNeg = 420 * N + ii ∧ i.toNatClampNeg = ii ∧ ¬ s.toInt ≤ i.toInt := by
  have e0 : (420 * n).toInt = 420 * n.toInt := by
    rw [Int32.toInt_mul, show (420 : Int32).toInt = 420 from rfl]
    exact Int.bmod_eq_of_le (by omega) (by omega)
  have e1 : (420 * n + i).toInt = 420 * n.toInt + i.toInt := by
    rw [Int32.toInt_add, e0]
    exact Int.bmod_eq_of_le (by omega) (by omega)
  have e2 : (i + Int32.ofInt 1).toInt = i.toInt + 1 := by
    rw [Int32.toInt_add, show (Int32.ofInt 1).toInt = 1 from by decide]
    exact Int.bmod_eq_of_le (by omega) (by omega)
  have k1 := zq_nc (i := 420 * n + i) (by omega)
  have k2 := zq_nc (i := i) (by omega)
  omega
section ZR3
variable {p : Program} {l : Launch} {e : Env} {R : Room} {s : State} {m : MethodId} {args : Array Value} {below : List Frame} {meth : Method} {c : Code} {Q : State → Prop} {KT : List zk_K} {D : zk_D} {base : Nat} {Hb : Heap} {n0 nL : Nat} {v0 : Nat → Value} {E : List (Nat × Nat)} {G0 : Nat → Nat} {H0 : Heap} {cc : ByteArray}
variable {cells slots : Nat}
set_option maxHeartbeats 1000000 in
theorem zq_ru_loop (hx : p.tables.exec = Jvm.exec) (hb : c.code = cc) (hkt : zk_kt KT) (hAT : ArrOfT s (D.2.2.1 0) .int) {kM kS kC ci iC iS iD iR : Nat} (hgC : zk_gok p l e R s m args below meth c Q D cc iC ci 19) (hgS : zk_gok p l e R s m args below meth c Q D cc iS ci 18) (hgD : zk_gok p l e R s m args below meth c Q D cc iD ci 25) (hgR : zk_gok p l e R s m args below meth c Q D cc iR ci 26) (hS : zq_row KT kS) (hC : zq_row KT kC) (hCt : (zk_kd KT kC).2.2.1[0]? = some zk_I) (hCl : 8400 ≤ (zk_kd KT kC).2.2.2.1) (hCS : kC ≠ kS) (hM0 : kM ≠ 0) (hM1 : (zk_kd KT kM).1 = 0) (hM2 : (zk_kd KT kM).2.1 = ci)
    (d61 : decode cc 61 = .ok (.iload 4, 2)) (d63 : decode cc 63 = .ok (.aload_n 0, 1)) (d64 : decode cc 64 = .ok (.getfield iD, 3)) (d67 : decode cc 67 = .ok (.if_icmp .ge 32, 3)) (d70 : decode cc 70 = .ok (.aload_n 0, 1)) (d71 : decode cc 71 = .ok (.getfield iC, 3)) (d74 : decode cc 74 = .ok (.sipush 420, 3)) (d77 : decode cc 77 = .ok (.aload_n 0, 1)) (d78 : decode cc 78 = .ok (.getfield iR, 3)) (d81 : decode cc 81 = .ok (.imul, 1)) (d82 : decode cc 82 = .ok (.iload 4, 2)) (d84 : decode cc 84 = .ok (.iadd, 1)) (d85 : decode cc 85 = .ok (.aload_n 0, 1)) (d86 : decode cc 86 = .ok (.getfield iS, 3)) (d89 : decode cc 89 = .ok (.iload 4, 2)) (d91 : decode cc 91 = .ok (.iaload, 1)) (d92 : decode cc 92 = .ok (.iastore, 1)) (d93 : decode cc 93 = .ok (.iinc 4 1, 3)) (d96 : decode cc 96 = .ok (.goto (-35), 3)) (hnL : nL = 5)
    {G : Nat → Nat} {H : Heap} {a bc bs N S : Nat} {cell cb ccc : Cell} {n sd o1 o2 o3 : Int32} (hga : G a = kM) (hgc : G bc = kC) (hgs : G bs = kS) (h19 : cell.slots[D.2.1 ci 19]? = some (.ref bc)) (h18 : cell.slots[D.2.1 ci 18]? = some (.ref bs)) (h25 : cell.slots[D.2.1 ci 25]? = some (.int sd)) (h26 : cell.slots[D.2.1 ci 26]? = some (.int n)) (hn : n.toInt = (N : Int)) (hN : N ≤ 19) (hs : sd.toInt = (S : Int)) (hS4 : S ≤ 420) (hcb : S ≤ cb.slots.size)
    (kk : ∀ (H1 : Heap) (locs1 : List Loc) (ls1 : Array Slot) (cc1 : Cell) (i : Int32), zk_hp KT D base Hb G H1 → zk_ev KT D [(kC, 0)] G H G H1 → H1.size = H.size → H1[a]? = some cell → H1[bs]? = some cb → H1[bc]? = some cc1 → zq_cp cb ccc cc1 (420 * N) S → (∀ q ∈ locs1, base ≤ q.base) → lv_has ls1 nL [(4, .int i), (0, .ref a), (1, .int o1), (2, .int o2), (3, .int o3)] → W p l e R s m args below meth c H1 locs1 cells slots Q (F0 m 99 ls1 [])) :
    ∀ (r ii : Nat) (H1 : Heap) (locs1 : List Loc) (ls1 : Array Slot) (cc1 : Cell) (i : Int32), ii + r = S → i.toInt = (ii : Int) → zk_hp KT D base Hb G H1 → zk_ev KT D [(kC, 0)] G H G H1 → H1.size = H.size → H1[a]? = some cell → H1[bs]? = some cb → H1[bc]? = some cc1 → zq_cp cb ccc cc1 (420 * N) ii → (∀ q ∈ locs1, base ≤ q.base) → lv_has ls1 nL [(4, .int i), (0, .ref a), (1, .int o1), (2, .int o2), (3, .int o3)] → W p l e R s m args below meth c H1 locs1 cells slots Q (F0 m 61 ls1 []) := by
  intro r
  subst hnL
  have hca : bc ≠ a := fun e => by rw [e, hga] at hgc; rw [← hgc] at hC; exact hC.2.1 hM1
  have hcs : bc ≠ bs := fun e => by rw [e, hgs] at hgc; exact hCS hgc.symm
  induction r with
  | zero =>
    intro ii H1 locs1 ls1 cc1 i hr hi hp he hz ha hb1 hc1 hcp hl hls
    obtain ⟨-, cl, r1, r2, -⟩ := hp.2.2 a (by rw [hga]; exact hM0)
    rw [ha] at r1; cases r1
    have hcla := (r2.2.1 (by rw [hga]; exact hM1)).1
    rw [hga, hM2] at hcla
    have e : ii = S := hr
    subst e
    refine lv_iload hx hb d61 (lv_at hls 0 rfl) (lv_aload_n hx hb d63 rfl (lv_at hls 1 rfl) (hgD ha hcla r2.1.1 h25 d64 ?_))
    refine lv_icmp_ge (tgt := 99) hx hb d67 (by decide) (fun _ => kk H1 locs1 ls1 cc1 i hp he hz ha hb1 hc1 hcp hl hls) (fun hn => absurd (Int32.le_iff_toInt_le.mpr (by rw [hi, hs]; exact Int.le_refl _)) hn)
  | succ r ih =>
    intro ii H1 locs1 ls1 cc1 i hr hi hp he hz ha hb1 hc1 hcp hl hls
    obtain ⟨-, cl, r1, r2, -⟩ := hp.2.2 a (by rw [hga]; exact hM0)
    rw [ha] at r1; cases r1
    have hcla := (r2.2.1 (by rw [hga]; exact hM1)).1
    rw [hga, hM2] at hcla
    have hlt : ii < S := by rw [← hr]; exact Nat.lt_add_of_pos_right (Nat.succ_pos _)
    obtain ⟨-, -, sz1, -⟩ := zq_cls hp hC hgc hc1
    obtain ⟨u1, u2, u3, u4, u5, u6, u7, u8, u9⟩ := zq_ru1 hn hN hi hs hS4 hlt (Int.le_trans hCl sz1)
    refine lv_iload hx hb d61 (lv_at hls 0 rfl) (lv_aload_n hx hb d63 rfl (lv_at hls 1 rfl) (hgD ha hcla r2.1.1 h25 d64 ?_))
    refine lv_icmp_ge (tgt := 99) hx hb d67 (by decide) (fun hn => absurd (Int32.le_iff_toInt_le.mp hn) u9) (fun _ => ?_)
    refine lv_aload_n hx hb d70 rfl (lv_at hls 1 rfl) (hgC ha hcla r2.1.1 h19 d71 ?_)
    refine lv_sipush (v := 420) hx hb d74 (by decide) ?_
    refine lv_aload_n hx hb d77 rfl (lv_at hls 1 rfl) (hgR ha hcla r2.1.1 h26 d78 ?_)
    refine lv_imul hx hb d81 (lv_iload hx hb d82 (lv_at hls 0 rfl) (lv_iadd hx hb d84 ?_))
    refine lv_aload_n hx hb d85 rfl (lv_at hls 1 rfl) (hgS ha hcla r2.1.1 h18 d86 ?_)
    refine lv_iload hx hb d89 (lv_at hls 0 rfl) ?_
    refine zq_ild hx hb hAT hp hS hgs hb1 u5 (by rw [hi]; exact Int.ofNat_lt.mpr (Nat.lt_of_lt_of_le hlt hcb)) d91 (fun q tq q1 _ _ _ => ?_)
    have hrq := zk_rng q
    refine zq_ist hx hb hAT (t := zk_I) hp hl hC hgc hc1 u2 u3 hCt hrq.1 hrq.2 d92 (fun H2 locs2 hp2 he2 hz2 ec2 eo2 hl2 => ?_)
    refine lv_iinc (k := 0) (v := i + Int32.ofInt 1) (lv' := [(4, .int (i + Int32.ofInt 1)), (0, .ref a), (1, .int o1), (2, .int o2), (3, .int o3)]) hx hb d93 hls rfl rfl (by decide) rfl (fun ls2 hls2 => ?_)
    refine lv_goto (tgt := 61) hx hb d96 (by decide) ?_
    rw [u8] at q1
    exact ih (ii + 1) H2 locs2 ls2 _ (i + Int32.ofInt 1) (by rw [← hr, Nat.add_assoc, Nat.add_comm 1 r]) u6 hp2 (zk_ev_tr hkt he he2) (hz2.trans hz) (by rw [eo2 a (fun z => hca z.symm)]; exact ha) (by rw [eo2 bs (fun z => hcs z.symm)]; exact hb1) ec2 (zq_cp_step hcp u7 (by rw [u7, ← hcp.1]; exact u4) q1) hl2 hls2
end ZR3
end
