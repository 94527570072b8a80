/-! THE LAW, 4: its calls of ends -/
section LW
variable {p : Program} {l : Launch} {e : Env} {s : State} {m : MethodId} {below : List Frame} {meth : Method} {c : Code} {b L : Nat} {xs : Nat → Int32} {D : zk_D}
theorem lw_sld {R : Room} {args : Array Value} {Q : State → Prop} {H : Heap} {locs : List Loc} {cells slots pc : Nat} {ls : Array Slot} {rest : List Value} {i : Int32} (hx : p.tables.exec = Jvm.exec) (hb : c.code = code) (hX : va_X b L xs s s.heap) (hbl : b < s.heap.size) (hH : ∀ a : Nat, a < s.heap.size → H[a]? = s.heap[a]?) (hi : ¬ (i < 0 ∨ L ≤ i.toNatClampNeg)) (hdg : decode code pc = .ok (.iaload, 1)) (k : W p l e R s m args below meth c H locs cells slots Q (F0 m (pc + 1) ls (.int (xs i.toNatClampNeg) :: rest))) : W p l e R s m args below meth c H locs cells slots Q (F0 m pc ls (.int i :: .ref b :: rest)) := by
  obtain ⟨scr, x1, hof, x3, x4, x5⟩ := hX
  have hlt : i.toNatClampNeg < L := Nat.not_le.mp fun q => hi (Or.inr q)
  exact W.iald (v := .int (xs i.toNatClampNeg)) hx hb (by rw [hH b hbl]; exact x1) hof x3 (by rw [x4]; exact hi) (x5 _ hlt) rfl rfl hdg k
theorem lw_ix {iv k : Int32} {j L kn : Nat} (hiv : iv.toInt = (j : Int)) (hj : j + 6 ≤ L ∧ L ≤ 3072) (hk : k.toInt = (kn : Int) ∧ kn ≤ 5) : ¬ ((iv + k) < 0 ∨ L ≤ (iv + k).toNatClampNeg) ∧ (iv + k).toNatClampNeg = j + kn := by
  have e1 : (iv + k).toInt = iv.toInt + k.toInt := by
    rw [Int32.toInt_add]
    exact Int.bmod_eq_of_le (by omega) (by omega)
  have k2 := zq_nc (i := iv + k) (by omega)
  refine ⟨?_, by omega⟩
  rintro (z | z)
  · have z := Int32.lt_iff_toInt_lt.mp z
    rw [show (0 : Int32).toInt = 0 from rfl] at z; omega
  · omega
set_option maxHeartbeats 4000000 in
set_option maxRecDepth 100000 in
theorem lw_ends {G : Nat → Nat} {H : Heap} {locs : List Loc} {ls : Array Slot} {xo mo j cells slots : Nat} {iv : Int32} (C0 : lw_At p s m meth c b L xs) (hK : zg_K D s.heap.size s.heap s) (hp : zk_hp qK D s.heap.size s.heap G H) (hlc : ∀ q ∈ locs, s.heap.size ≤ q.base) (hxo : G xo = 2) (hmo : G mo = 57) (hiv : iv.toInt = (j : Int)) (hj : j + 6 ≤ L ∧ L ≤ 3072) (hcells : cells ≤ room_1.cells) (hslots : slots ≤ room_1.slots) (hl : lv_has ls 4 [(0, .ref b), (1, .ref xo), (2, .ref mo), (3, .int iv)]) {Q : State → Prop}
    (kk : ∀ (locs1 : List Loc) (ls1 : Array Slot), (∀ q ∈ locs1, s.heap.size ≤ q.base) → lv_has ls1 4 [(0, .ref b), (1, .ref xo), (2, .ref mo), (3, .int iv)] → W p l e room_1 s m #[Value.ref b] below meth c H locs1 cells slots Q (F0 m 1529 ls1 [])) : W p l e room_1 s m #[Value.ref b] below meth c H locs cells slots Q (F0 m 1374 ls []) := by
  obtain ⟨hx, hb, hr, hml, hown, hts, hX, hbl, hlocks, hgv⟩ := C0
  have S : CallFix p m c code 4 s #[Value.ref b] lw_tbl R_law := ⟨hx, hb, hml, hown, hts⟩
  have hH : ∀ a : Nat, a < s.heap.size → H[a]? = s.heap[a]? := hp.2.1
  refine lv_aload_n hx hb (by decide +kernel : decode code 1374 = .ok (.aload_n 1, 1)) rfl (lv_at hl 1 rfl) ?_
  refine lv_aload_n hx hb (by decide +kernel : decode code 1375 = .ok (.aload_n 0, 1)) rfl (lv_at hl 0 rfl) ?_
  refine lv_iload_n hx hb (by decide +kernel : decode code 1376 = .ok (.iload_n 3, 1)) rfl (lv_at hl 3 rfl) ?_
  refine lv_iconst (v := 1) hx hb (by decide +kernel : decode code 1377 = .ok (.iconst 1, 1)) (by decide) ?_
  refine lv_iadd hx hb (by decide +kernel : decode code 1378 = .ok (.iadd, 1)) ?_
  refine lw_sld (i := iv + 1) hx hb hX hbl hH (lw_ix (kn := 1) hiv hj (by decide)).1 (by decide +kernel : decode code 1379 = .ok (.iaload, 1)) ?_
  rw [(lw_ix (kn := 1) (k := 1) hiv hj (by decide)).2]
  refine W.eq (g2 := F0 m 1380 ls [.int (xs (j + 1)), .ref xo]) rfl ?_
  refine lv_aload_n hx hb (by decide +kernel : decode code 1380 = .ok (.aload_n 0, 1)) rfl (lv_at hl 0 rfl) ?_
  refine lv_iload_n hx hb (by decide +kernel : decode code 1381 = .ok (.iload_n 3, 1)) rfl (lv_at hl 3 rfl) ?_
  refine lv_iconst (v := 2) hx hb (by decide +kernel : decode code 1382 = .ok (.iconst 2, 1)) (by decide) ?_
  refine lv_iadd hx hb (by decide +kernel : decode code 1383 = .ok (.iadd, 1)) ?_
  refine lw_sld (i := iv + 2) hx hb hX hbl hH (lw_ix (kn := 2) hiv hj (by decide)).1 (by decide +kernel : decode code 1384 = .ok (.iaload, 1)) ?_
  rw [(lw_ix (kn := 2) (k := 2) hiv hj (by decide)).2]
  refine W.eq (g2 := F0 m 1385 ls [.int (xs (j + 2)), .int (xs (j + 1)), .ref xo]) rfl ?_
  refine lv_aload_n hx hb (by decide +kernel : decode code 1385 = .ok (.aload_n 0, 1)) rfl (lv_at hl 0 rfl) ?_
  refine lv_iload_n hx hb (by decide +kernel : decode code 1386 = .ok (.iload_n 3, 1)) rfl (lv_at hl 3 rfl) ?_
  refine lv_iconst (v := 3) hx hb (by decide +kernel : decode code 1387 = .ok (.iconst 3, 1)) (by decide) ?_
  refine lv_iadd hx hb (by decide +kernel : decode code 1388 = .ok (.iadd, 1)) ?_
  refine lw_sld (i := iv + 3) hx hb hX hbl hH (lw_ix (kn := 3) hiv hj (by decide)).1 (by decide +kernel : decode code 1389 = .ok (.iaload, 1)) ?_
  rw [(lw_ix (kn := 3) (k := 3) hiv hj (by decide)).2]
  refine W.eq (g2 := F0 m 1390 ls [.int (xs (j + 3)), .int (xs (j + 2)), .int (xs (j + 1)), .ref xo]) rfl ?_
  refine lv_aload_n hx hb (by decide +kernel : decode code 1390 = .ok (.aload_n 0, 1)) rfl (lv_at hl 0 rfl) ?_
  refine lv_iload_n hx hb (by decide +kernel : decode code 1391 = .ok (.iload_n 3, 1)) rfl (lv_at hl 3 rfl) ?_
  refine lv_iconst (v := 4) hx hb (by decide +kernel : decode code 1392 = .ok (.iconst 4, 1)) (by decide) ?_
  refine lv_iadd hx hb (by decide +kernel : decode code 1393 = .ok (.iadd, 1)) ?_
  refine lw_sld (i := iv + 4) hx hb hX hbl hH (lw_ix (kn := 4) hiv hj (by decide)).1 (by decide +kernel : decode code 1394 = .ok (.iaload, 1)) ?_
  rw [(lw_ix (kn := 4) (k := 4) hiv hj (by decide)).2]
  refine W.eq (g2 := F0 m 1395 ls [.int (xs (j + 4)), .int (xs (j + 3)), .int (xs (j + 2)), .int (xs (j + 1)), .ref xo]) rfl ?_
  refine zh_callV (fun w h => zg_tb_lw w h) zg_tb_all S hK zg_Km ⟨rfl, rfl⟩ (zh_ends (D := D) (Hb := s.heap) xo (xs (j + 1)) (xs (j + 2)) (xs (j + 3)) (xs (j + 4))) zw5_109 zy_yX11_ends_V (by
      obtain ⟨-, cell, r1, r2, -⟩ := hp.2.2 xo (by rw [hxo]; decide)
      exact ⟨cell, r1, r2.1.1, by rw [(r2.2.1 (by rw [hxo]; decide +kernel)).1, hxo]; exact (hK.2.1 11 _ rfl).2.1⟩) rfl hl.1 rfl ⟨rfl, rfl⟩ hcells hslots (by decide +kernel : decode code 1395 = .ok (.invokevirtual 154, 3)) hlc (fun ov H' locs hh hlc => ?_)
  obtain ⟨rfl, hHe⟩ := hh
  rw [hHe]
  refine lv_aload_n hx hb (by decide +kernel : decode code 1398 = .ok (.aload_n 2, 1)) rfl (lv_at hl 2 rfl) ?_
  refine lv_aload_n hx hb (by decide +kernel : decode code 1399 = .ok (.aload_n 0, 1)) rfl (lv_at hl 0 rfl) ?_
  refine lv_iload_n hx hb (by decide +kernel : decode code 1400 = .ok (.iload_n 3, 1)) rfl (lv_at hl 3 rfl) ?_
  refine lv_iconst (v := 1) hx hb (by decide +kernel : decode code 1401 = .ok (.iconst 1, 1)) (by decide) ?_
  refine lv_iadd hx hb (by decide +kernel : decode code 1402 = .ok (.iadd, 1)) ?_
  refine lw_sld (i := iv + 1) hx hb hX hbl hH (lw_ix (kn := 1) hiv hj (by decide)).1 (by decide +kernel : decode code 1403 = .ok (.iaload, 1)) ?_
  rw [(lw_ix (kn := 1) (k := 1) hiv hj (by decide)).2]
  refine W.eq (g2 := F0 m 1404 ls [.int (xs (j + 1)), .ref mo, .int (zf_ends (xs (j + 1)) (xs (j + 2)) (xs (j + 3)) (xs (j + 4)))]) rfl ?_
  refine lv_aload_n hx hb (by decide +kernel : decode code 1404 = .ok (.aload_n 0, 1)) rfl (lv_at hl 0 rfl) ?_
  refine lv_iload_n hx hb (by decide +kernel : decode code 1405 = .ok (.iload_n 3, 1)) rfl (lv_at hl 3 rfl) ?_
  refine lv_iconst (v := 2) hx hb (by decide +kernel : decode code 1406 = .ok (.iconst 2, 1)) (by decide) ?_
  refine lv_iadd hx hb (by decide +kernel : decode code 1407 = .ok (.iadd, 1)) ?_
  refine lw_sld (i := iv + 2) hx hb hX hbl hH (lw_ix (kn := 2) hiv hj (by decide)).1 (by decide +kernel : decode code 1408 = .ok (.iaload, 1)) ?_
  rw [(lw_ix (kn := 2) (k := 2) hiv hj (by decide)).2]
  refine W.eq (g2 := F0 m 1409 ls [.int (xs (j + 2)), .int (xs (j + 1)), .ref mo, .int (zf_ends (xs (j + 1)) (xs (j + 2)) (xs (j + 3)) (xs (j + 4)))]) rfl ?_
  refine lv_aload_n hx hb (by decide +kernel : decode code 1409 = .ok (.aload_n 0, 1)) rfl (lv_at hl 0 rfl) ?_
  refine lv_iload_n hx hb (by decide +kernel : decode code 1410 = .ok (.iload_n 3, 1)) rfl (lv_at hl 3 rfl) ?_
  refine lv_iconst (v := 3) hx hb (by decide +kernel : decode code 1411 = .ok (.iconst 3, 1)) (by decide) ?_
  refine lv_iadd hx hb (by decide +kernel : decode code 1412 = .ok (.iadd, 1)) ?_
  refine lw_sld (i := iv + 3) hx hb hX hbl hH (lw_ix (kn := 3) hiv hj (by decide)).1 (by decide +kernel : decode code 1413 = .ok (.iaload, 1)) ?_
  rw [(lw_ix (kn := 3) (k := 3) hiv hj (by decide)).2]
  refine W.eq (g2 := F0 m 1414 ls [.int (xs (j + 3)), .int (xs (j + 2)), .int (xs (j + 1)), .ref mo, .int (zf_ends (xs (j + 1)) (xs (j + 2)) (xs (j + 3)) (xs (j + 4)))]) rfl ?_
  refine lv_aload_n hx hb (by decide +kernel : decode code 1414 = .ok (.aload_n 0, 1)) rfl (lv_at hl 0 rfl) ?_
  refine lv_iload_n hx hb (by decide +kernel : decode code 1415 = .ok (.iload_n 3, 1)) rfl (lv_at hl 3 rfl) ?_
  refine lv_iconst (v := 4) hx hb (by decide +kernel : decode code 1416 = .ok (.iconst 4, 1)) (by decide) ?_
  refine lv_iadd hx hb (by decide +kernel : decode code 1417 = .ok (.iadd, 1)) ?_
  refine lw_sld (i := iv + 4) hx hb hX hbl hH (lw_ix (kn := 4) hiv hj (by decide)).1 (by decide +kernel : decode code 1418 = .ok (.iaload, 1)) ?_
  rw [(lw_ix (kn := 4) (k := 4) hiv hj (by decide)).2]
  refine W.eq (g2 := F0 m 1419 ls [.int (xs (j + 4)), .int (xs (j + 3)), .int (xs (j + 2)), .int (xs (j + 1)), .ref mo, .int (zf_ends (xs (j + 1)) (xs (j + 2)) (xs (j + 3)) (xs (j + 4)))]) rfl ?_
  refine zh_callV (fun w h => zg_tb_lw w h) zg_tb_all S hK zg_Km ⟨rfl, rfl⟩ (zh_endsM (D := D) (Hb := s.heap) mo (xs (j + 1)) (xs (j + 2)) (xs (j + 3)) (xs (j + 4))) zw8_23 zy_yX12_ends_V (by
      obtain ⟨-, cell, r1, r2, -⟩ := hp.2.2 mo (by rw [hmo]; decide)
      exact ⟨cell, r1, r2.1.1, by rw [(r2.2.1 (by rw [hmo]; decide +kernel)).1, hmo]; exact (hK.2.1 12 _ rfl).2.1⟩) rfl hl.1 rfl ⟨rfl, rfl⟩ hcells hslots (by decide +kernel : decode code 1419 = .ok (.invokevirtual 157, 3)) hlc (fun ov H' locs hh hlc => ?_)
  obtain ⟨rfl, hHe⟩ := hh
  rw [hHe]
  refine lv_icmp_eq (tgt := 1529) hx hb (by decide +kernel : decode code 1422 = .ok (.if_icmp .eq 107, 3)) (by decide) (fun c_1 => ?_) (fun c_1 => absurd rfl c_1)
  exact kk locs ls hlc hl
end LW
