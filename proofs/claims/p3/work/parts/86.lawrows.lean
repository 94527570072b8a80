/-! THE LAW, 4: its calls of isUp -/
section LW
variable {p : Program} {l : Launch} {e : Env} {s : State} {m : MethodId} {below : List Frame} {meth : Method} {c : Code} {b L : Nat} {xs : Nat → Int32} {D : zk_D}
theorem lw_sld {R : Room} {args : Array Value} {Q : State → Prop} {H : Heap} {locs : List Loc} {cells slots pc : Nat} {ls : Array Slot} {rest : List Value} {i : Int32} (hx : p.tables.exec = Jvm.exec) (hb : c.code = code) (hX : va_X b L xs s s.heap) (hbl : b < s.heap.size) (hH : ∀ a : Nat, a < s.heap.size → H[a]? = s.heap[a]?) (hi : ¬ (i < 0 ∨ L ≤ i.toNatClampNeg)) (hdg : decode code pc = .ok (.iaload, 1)) (k : W p l e R s m args below meth c H locs cells slots Q (F0 m (pc + 1) ls (.int (xs i.toNatClampNeg) :: rest))) : W p l e R s m args below meth c H locs cells slots Q (F0 m pc ls (.int i :: .ref b :: rest)) := by
  obtain ⟨scr, x1, hof, x3, x4, x5⟩ := hX
  have hlt : i.toNatClampNeg < L := Nat.not_le.mp fun q => hi (Or.inr q)
  exact W.iald (v := .int (xs i.toNatClampNeg)) hx hb (by rw [hH b hbl]; exact x1) hof x3 (by rw [x4]; exact hi) (x5 _ hlt) rfl rfl hdg k
theorem lw_ix {iv k : Int32} {j L kn : Nat} (hiv : iv.toInt = (j : Int)) (hj : j + 6 ≤ L ∧ L ≤ 3072) (hk : k.toInt = (kn : Int) ∧ kn ≤ 5) : ¬ ((iv + k) < 0 ∨ L ≤ (iv + k).toNatClampNeg) ∧ (iv + k).toNatClampNeg = j + kn := by
  have e1 : (iv + k).toInt = iv.toInt + k.toInt := by
    rw [Int32.toInt_add]
    exact Int.bmod_eq_of_le (by omega) (by omega)
  have k2 := zq_nc (i := iv + k) (by omega)
  refine ⟨?_, by omega⟩
  rintro (z | z)
  · have z := Int32.lt_iff_toInt_lt.mp z
    rw [show (0 : Int32).toInt = 0 from rfl] at z; omega
  · omega
set_option maxHeartbeats 4000000 in
set_option maxRecDepth 100000 in
theorem lw_up {G : Nat → Nat} {H : Heap} {locs : List Loc} {ls : Array Slot} {xo mo n j cells slots : Nat} {iv : Int32} (C0 : lw_At p s m meth c b L xs) (hK : zg_K D s.heap.size s.heap s) (hp : zk_hp qK D s.heap.size s.heap G H) (hlc : ∀ q ∈ locs, s.heap.size ≤ q.base) (hU : zr_U D H xo n) (hgn : G n = 4) (hmo : G mo = 57) (hgh : zq_1005 D.2.1 G H n (.ref mo)) (hkk : ∀ (k k' : Int32) (r r' : Nat) (ca cb : Cell), zr_N D G H n k r ca → zr_M D G H mo k' r' cb → k = k') (hiv : iv.toInt = (j : Int)) (hj : j + 6 ≤ L ∧ L ≤ 3072) (hcells : cells ≤ room_1.cells) (hslots : slots ≤ room_1.slots) (hl : lv_has ls 4 [(0, .ref b), (1, .ref xo), (2, .ref mo), (3, .int iv)]) {Q : State → Prop}
    (kk : ∀ (H1 : Heap) (locs1 : List Loc) (ls1 : Array Slot), zk_hp qK D s.heap.size s.heap G H1 → zk_ev qK D [(6, 0), (59, 0)] G H G H1 → zq_1005 D.2.1 G H1 n (.ref mo) → (∃ cell : Cell, H1[n]? = some cell) → (∀ q ∈ locs1, s.heap.size ≤ q.base) → lv_has ls1 4 [(0, .ref b), (1, .ref xo), (2, .ref mo), (3, .int iv)] → W p l e room_1 s m #[Value.ref b] below meth c H1 locs1 cells slots Q (F0 m 1529 ls1 [])) : W p l e room_1 s m #[Value.ref b] below meth c H locs cells slots Q (F0 m 209 ls []) := by
  obtain ⟨hx, hb, hr, hml, hown, hts, hX, hbl, hlocks, hgv⟩ := C0
  have S : CallFix p m c code 4 s #[Value.ref b] lw_tbl R_law := ⟨hx, hb, hml, hown, hts⟩
  have hH : ∀ a : Nat, a < s.heap.size → H[a]? = s.heap[a]? := hp.2.1
  obtain ⟨k, r, ca, hN⟩ := zr_N_of hp hgn
  obtain ⟨k', r', cb, hM⟩ := zr_M_of hp hmo
  have ek := hkk _ _ _ _ _ _ hN hM
  subst ek
  have hrel := zr_rel_of hgh hN hM
  obtain ⟨-, cn0, ⟨hcn0, -⟩, -, -, ⟨gr1, -, sa⟩, hk0, hk12⟩ := id hN
  obtain ⟨-, -, -, -, -, ⟨gr2, -, sb⟩, -⟩ := id hM
  have hcell : ∃ cell : Cell, H[n]? = some cell := ⟨cn0, hcn0⟩
  obtain ⟨cu, ⟨u1, u2, u3⟩, u4⟩ := id hU
  have key : ∀ (H1 : Heap) (locs : List Loc) (ls : Array Slot) (ru w : Int32), (((xs (j + 2)) = 0 ∧ w = 0) ∨ (¬ (xs (j + 2)) = 0 ∧ w = 1)) → zk_hp qK D s.heap.size s.heap G H1 → zk_ev qK D [(6, 0)] G H G H1 → ((ru = 0 ∧ ¬ zr_cU (xs (j + 1)) w k ca ∧ H1 = H) ∨ (ru = 1 ∧ zr_cU (xs (j + 1)) w k ca ∧ H1[r]? = some (zr_aU (xs (j + 1)) w ca) ∧ ∀ q : Nat, q ≠ r → H1[q]? = H[q]?)) → (∀ q ∈ locs, s.heap.size ≤ q.base) → lv_has ls 4 [(0, .ref b), (1, .ref xo), (2, .ref mo), (3, .int iv)] → W p l e room_1 s m #[Value.ref b] below meth c H1 locs cells slots Q (F0 m 231 ls [.int ru]) := by
    intro H1 locs ls ru w hw hp1 he1 hd hlc hl
    have hH : ∀ a : Nat, a < s.heap.size → H1[a]? = s.heap[a]? := hp1.2.1
    have hM1 : zr_M D G H1 mo k r' cb := by
      rcases hd with ⟨-, -, e⟩ | ⟨-, -, -, e⟩
      · rw [e]; exact hM
      · exact zr_M_ne hM (by rw [gr1]; decide) (by rw [gr1]; decide) e
    obtain ⟨-, cm, ⟨m1, m2, m3⟩, -⟩ := id hM1
    refine lv_aload_n hx hb (by decide +kernel : decode code 231 = .ok (.aload_n 2, 1)) rfl (lv_at hl 2 rfl) ?_
    refine lv_aload_n hx hb (by decide +kernel : decode code 232 = .ok (.aload_n 0, 1)) rfl (lv_at hl 0 rfl) ?_
    refine lv_iload_n hx hb (by decide +kernel : decode code 233 = .ok (.iload_n 3, 1)) rfl (lv_at hl 3 rfl) ?_
    refine lv_iconst (v := 1) hx hb (by decide +kernel : decode code 234 = .ok (.iconst 1, 1)) (by decide) ?_
    refine lv_iadd hx hb (by decide +kernel : decode code 235 = .ok (.iadd, 1)) ?_
    refine lw_sld (i := iv + 1) hx hb hX hbl hH (lw_ix (kn := 1) hiv hj (by decide)).1 (by decide +kernel : decode code 236 = .ok (.iaload, 1)) ?_
    rw [(lw_ix (kn := 1) (k := 1) hiv hj (by decide)).2]
    refine W.eq (g2 := F0 m 237 ls [.int (xs (j + 1)), .ref mo, .int ru]) rfl ?_
    refine lv_aload_n hx hb (by decide +kernel : decode code 237 = .ok (.aload_n 0, 1)) rfl (lv_at hl 0 rfl) ?_
    refine lv_iload_n hx hb (by decide +kernel : decode code 238 = .ok (.iload_n 3, 1)) rfl (lv_at hl 3 rfl) ?_
    refine lv_iconst (v := 2) hx hb (by decide +kernel : decode code 239 = .ok (.iconst 2, 1)) (by decide) ?_
    refine lv_iadd hx hb (by decide +kernel : decode code 240 = .ok (.iadd, 1)) ?_
    refine lw_sld (i := iv + 2) hx hb hX hbl hH (lw_ix (kn := 2) hiv hj (by decide)).1 (by decide +kernel : decode code 241 = .ok (.iaload, 1)) ?_
    rw [(lw_ix (kn := 2) (k := 2) hiv hj (by decide)).2]
    refine W.eq (g2 := F0 m 242 ls [.int (xs (j + 2)), .int (xs (j + 1)), .ref mo, .int ru]) rfl ?_
    refine lv_if_eq (tgt := 249) hx hb (by decide +kernel : decode code 242 = .ok (.ifCond .eq 7, 3)) (by decide) (fun c_1 => ?_) (fun c_1 => ?_)
    · refine lv_iconst (v := 0) hx hb (by decide +kernel : decode code 249 = .ok (.iconst 0, 1)) (by decide) ?_
      have ew : w = 0 := by rcases hw with ⟨z1, z2⟩ | ⟨z1, z2⟩ <;> first | exact z2 | exact absurd c_1 z1 | exact absurd z1 c_1
      subst ew
      refine zh_callV (fun w h => zg_tb_lw w h) zg_tb_all S hK zg_Km ⟨rfl, rfl⟩ (zr_upM (D := D) (Hb := s.heap) hp1 hM1 (xs (j + 1)) 0) zw6_137 zy_yX12_up_V ⟨cm, m1, m3, by rw [m2]; exact (hK.2.1 12 _ rfl).2.1⟩ rfl hl.1 rfl ⟨rfl, rfl⟩ hcells hslots (by decide +kernel : decode code 250 = .ok (.invokevirtual 22, 3)) hlc (fun ov H' locs hh hlc => ?_)
      rcases hh with ⟨rfl, hn2, rfl⟩ | ⟨rfl, hc2, q1, q2, q3, q4, q5⟩
      · rcases hd with ⟨rfl, hn1, e1⟩ | ⟨rfl, hc1, e1, e2⟩
        · subst e1
          refine lv_icmp_eq (tgt := 1529) hx hb (by decide +kernel : decode code 253 = .ok (.if_icmp .eq 1276, 3)) (by decide) (fun c_2 => ?_) (fun c_2 => absurd rfl c_2)
          exact kk _ locs ls hp zk_ev_rf hgh hcell hlc hl
        · exact absurd ((zr_iff hrel hk12 (by decide)).mp hc1) hn2
      · rcases hd with ⟨rfl, hn1, e1⟩ | ⟨rfl, hc1, e1, e2⟩
        · exact absurd ((zr_iff hrel hk12 (by decide)).mpr hc2) hn1
        · refine lv_icmp_eq (tgt := 1529) hx hb (by decide +kernel : decode code 253 = .ok (.if_icmp .eq 1276, 3)) (by decide) (fun c_2 => ?_) (fun c_2 => absurd rfl c_2)
          have hN2 := zr_N_set hN ((q5 n (fun z => by rw [z, gr2] at hgn; exact absurd hgn (by decide))).trans (e2 n (fun z => by rw [z, gr1] at hgn; exact absurd hgn (by decide)))) ((q5 r (fun z => by rw [z, gr2] at gr1; exact absurd gr1 (by decide))).trans e1) (zr_aU_sz.trans sa)
          have hM2 := zr_M_set hM ((q5 mo (fun z => by rw [z, gr2] at hmo; exact absurd hmo (by decide))).trans (e2 mo (fun z => by rw [z, gr1] at hmo; exact absurd hmo (by decide)))) q4 (zr_aM_sz.trans sb)
          refine kk _ locs ls q1 (zk_ev_tr (zg_wd hK).1 (zk_ev_sb (by decide +kernel) he1) (zk_ev_sb (by decide +kernel) q2)) (zr_1005_mk hN2 hM2 (zr_rel_aa hrel hk12 (by decide) hc1 sa sb)) ?_ hlc hl
          obtain ⟨-, cn2, ⟨d1, -⟩, -⟩ := hN2
          exact ⟨cn2, d1⟩
    · refine lv_iconst (v := 1) hx hb (by decide +kernel : decode code 245 = .ok (.iconst 1, 1)) (by decide) ?_
      refine lv_goto (tgt := 250) hx hb (by decide +kernel : decode code 246 = .ok (.goto 4, 3)) (by decide) ?_
      have ew : w = 1 := by rcases hw with ⟨z1, z2⟩ | ⟨z1, z2⟩ <;> first | exact z2 | exact absurd c_1 z1 | exact absurd z1 c_1
      subst ew
      refine zh_callV (fun w h => zg_tb_lw w h) zg_tb_all S hK zg_Km ⟨rfl, rfl⟩ (zr_upM (D := D) (Hb := s.heap) hp1 hM1 (xs (j + 1)) 1) zw6_137 zy_yX12_up_V ⟨cm, m1, m3, by rw [m2]; exact (hK.2.1 12 _ rfl).2.1⟩ rfl hl.1 rfl ⟨rfl, rfl⟩ hcells hslots (by decide +kernel : decode code 250 = .ok (.invokevirtual 22, 3)) hlc (fun ov H' locs hh hlc => ?_)
      rcases hh with ⟨rfl, hn2, rfl⟩ | ⟨rfl, hc2, q1, q2, q3, q4, q5⟩
      · rcases hd with ⟨rfl, hn1, e1⟩ | ⟨rfl, hc1, e1, e2⟩
        · subst e1
          refine lv_icmp_eq (tgt := 1529) hx hb (by decide +kernel : decode code 253 = .ok (.if_icmp .eq 1276, 3)) (by decide) (fun c_2 => ?_) (fun c_2 => absurd rfl c_2)
          exact kk _ locs ls hp zk_ev_rf hgh hcell hlc hl
        · exact absurd ((zr_iff hrel hk12 (by decide)).mp hc1) hn2
      · rcases hd with ⟨rfl, hn1, e1⟩ | ⟨rfl, hc1, e1, e2⟩
        · exact absurd ((zr_iff hrel hk12 (by decide)).mpr hc2) hn1
        · refine lv_icmp_eq (tgt := 1529) hx hb (by decide +kernel : decode code 253 = .ok (.if_icmp .eq 1276, 3)) (by decide) (fun c_2 => ?_) (fun c_2 => absurd rfl c_2)
          have hN2 := zr_N_set hN ((q5 n (fun z => by rw [z, gr2] at hgn; exact absurd hgn (by decide))).trans (e2 n (fun z => by rw [z, gr1] at hgn; exact absurd hgn (by decide)))) ((q5 r (fun z => by rw [z, gr2] at gr1; exact absurd gr1 (by decide))).trans e1) (zr_aU_sz.trans sa)
          have hM2 := zr_M_set hM ((q5 mo (fun z => by rw [z, gr2] at hmo; exact absurd hmo (by decide))).trans (e2 mo (fun z => by rw [z, gr1] at hmo; exact absurd hmo (by decide)))) q4 (zr_aM_sz.trans sb)
          refine kk _ locs ls q1 (zk_ev_tr (zg_wd hK).1 (zk_ev_sb (by decide +kernel) he1) (zk_ev_sb (by decide +kernel) q2)) (zr_1005_mk hN2 hM2 (zr_rel_aa hrel hk12 (by decide) hc1 sa sb)) ?_ hlc hl
          obtain ⟨-, cn2, ⟨d1, -⟩, -⟩ := hN2
          exact ⟨cn2, d1⟩
  refine lv_aload_n hx hb (by decide +kernel : decode code 209 = .ok (.aload_n 1, 1)) rfl (lv_at hl 1 rfl) ?_
  refine lv_aload_n hx hb (by decide +kernel : decode code 210 = .ok (.aload_n 0, 1)) rfl (lv_at hl 0 rfl) ?_
  refine lv_iload_n hx hb (by decide +kernel : decode code 211 = .ok (.iload_n 3, 1)) rfl (lv_at hl 3 rfl) ?_
  refine lv_iconst (v := 1) hx hb (by decide +kernel : decode code 212 = .ok (.iconst 1, 1)) (by decide) ?_
  refine lv_iadd hx hb (by decide +kernel : decode code 213 = .ok (.iadd, 1)) ?_
  refine lw_sld (i := iv + 1) hx hb hX hbl hH (lw_ix (kn := 1) hiv hj (by decide)).1 (by decide +kernel : decode code 214 = .ok (.iaload, 1)) ?_
  rw [(lw_ix (kn := 1) (k := 1) hiv hj (by decide)).2]
  refine W.eq (g2 := F0 m 215 ls [.int (xs (j + 1)), .ref xo]) rfl ?_
  refine lv_aload_n hx hb (by decide +kernel : decode code 215 = .ok (.aload_n 0, 1)) rfl (lv_at hl 0 rfl) ?_
  refine lv_iload_n hx hb (by decide +kernel : decode code 216 = .ok (.iload_n 3, 1)) rfl (lv_at hl 3 rfl) ?_
  refine lv_iconst (v := 2) hx hb (by decide +kernel : decode code 217 = .ok (.iconst 2, 1)) (by decide) ?_
  refine lv_iadd hx hb (by decide +kernel : decode code 218 = .ok (.iadd, 1)) ?_
  refine lw_sld (i := iv + 2) hx hb hX hbl hH (lw_ix (kn := 2) hiv hj (by decide)).1 (by decide +kernel : decode code 219 = .ok (.iaload, 1)) ?_
  rw [(lw_ix (kn := 2) (k := 2) hiv hj (by decide)).2]
  refine W.eq (g2 := F0 m 220 ls [.int (xs (j + 2)), .int (xs (j + 1)), .ref xo]) rfl ?_
  refine lv_if_eq (tgt := 227) hx hb (by decide +kernel : decode code 220 = .ok (.ifCond .eq 7, 3)) (by decide) (fun c_1 => ?_) (fun c_1 => ?_)
  · refine lv_iconst (v := 0) hx hb (by decide +kernel : decode code 227 = .ok (.iconst 0, 1)) (by decide) ?_
    refine zh_callV (fun w h => zg_tb_lw w h) zg_tb_all S hK zg_Km ⟨rfl, rfl⟩ (zr_upU (D := D) (Hb := s.heap) hp hU hN (xs (j + 1)) 0 (by decide)) zw2_113 zy_yX11_up_V ⟨cu, u1, u3, by rw [u2]; exact (hK.2.1 11 _ rfl).2.1⟩ rfl hl.1 rfl ⟨rfl, rfl⟩ hcells hslots (by decide +kernel : decode code 228 = .ok (.invokevirtual 18, 3)) hlc (fun ov H' locs hh hlc => ?_)
    rcases hh with ⟨rfl, hc, rfl⟩ | ⟨rfl, hc, q1, q2, q3, q4, q5⟩
    · exact key _ locs ls 0 0 (Or.inl ⟨c_1, rfl⟩) hp zk_ev_rf (Or.inl ⟨rfl, hc, rfl⟩) hlc hl
    · exact key _ locs ls 1 0 (Or.inl ⟨c_1, rfl⟩) q1 q2 (Or.inr ⟨rfl, hc, q4, q5⟩) hlc hl
  · refine lv_iconst (v := 1) hx hb (by decide +kernel : decode code 223 = .ok (.iconst 1, 1)) (by decide) ?_
    refine lv_goto (tgt := 228) hx hb (by decide +kernel : decode code 224 = .ok (.goto 4, 3)) (by decide) ?_
    refine zh_callV (fun w h => zg_tb_lw w h) zg_tb_all S hK zg_Km ⟨rfl, rfl⟩ (zr_upU (D := D) (Hb := s.heap) hp hU hN (xs (j + 1)) 1 (by decide)) zw2_113 zy_yX11_up_V ⟨cu, u1, u3, by rw [u2]; exact (hK.2.1 11 _ rfl).2.1⟩ rfl hl.1 rfl ⟨rfl, rfl⟩ hcells hslots (by decide +kernel : decode code 228 = .ok (.invokevirtual 18, 3)) hlc (fun ov H' locs hh hlc => ?_)
    rcases hh with ⟨rfl, hc, rfl⟩ | ⟨rfl, hc, q1, q2, q3, q4, q5⟩
    · exact key _ locs ls 0 1 (Or.inr ⟨c_1, rfl⟩) hp zk_ev_rf (Or.inl ⟨rfl, hc, rfl⟩) hlc hl
    · exact key _ locs ls 1 1 (Or.inr ⟨c_1, rfl⟩) q1 q2 (Or.inr ⟨rfl, hc, q4, q5⟩) hlc hl
end LW
