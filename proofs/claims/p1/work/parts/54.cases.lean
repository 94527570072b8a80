/-! THE LAW, 3: three cases by hand -/
section LW
variable {p : Program} {l : Launch} {e : Env} {s : State} {m : MethodId} {below : List Frame} {meth : Method} {c : Code} {b L : Nat} {xs : Nat → Int32} {D : zk_D}
theorem lw_sld {R : Room} {args : Array Value} {Q : State → Prop} {H : Heap} {locs : List Loc} {cells slots pc : Nat} {ls : Array Slot} {rest : List Value} {i : Int32} (hx : p.tables.exec = Jvm.exec) (hb : c.code = code) (hX : va_X b L xs s s.heap) (hbl : b < s.heap.size) (hH : ∀ a : Nat, a < s.heap.size → H[a]? = s.heap[a]?) (hi : ¬ (i < 0 ∨ L ≤ i.toNatClampNeg)) (hdg : decode code pc = .ok (.iaload, 1)) (k : W p l e R s m args below meth c H locs cells slots Q (F0 m (pc + 1) ls (.int (xs i.toNatClampNeg) :: rest))) : W p l e R s m args below meth c H locs cells slots Q (F0 m pc ls (.int i :: .ref b :: rest)) := by
  obtain ⟨scr, x1, hof, x3, x4, x5⟩ := hX
  have hlt : i.toNatClampNeg < L := Nat.not_le.mp fun q => hi (Or.inr q)
  exact W.iald (v := .int (xs i.toNatClampNeg)) hx hb (by rw [hH b hbl]; exact x1) hof x3 (by rw [x4]; exact hi) (x5 _ hlt) rfl rfl hdg k
theorem lw_slen {R : Room} {args : Array Value} {Q : State → Prop} {H : Heap} {locs : List Loc} {cells slots pc : Nat} {ls : Array Slot} {rest : List Value} (hx : p.tables.exec = Jvm.exec) (hb : c.code = code) (hX : va_X b L xs s s.heap) (hbl : b < s.heap.size) (hH : ∀ a : Nat, a < s.heap.size → H[a]? = s.heap[a]?) (hdg : decode code pc = .ok (.arraylength, 1)) (k : W p l e R s m args below meth c H locs cells slots Q (F0 m (pc + 1) ls (.int (Int32.ofNat L) :: rest))) : W p l e R s m args below meth c H locs cells slots Q (F0 m pc ls (.ref b :: rest)) := by
  obtain ⟨scr, x1, hof, x3, x4, x5⟩ := hX
  exact W.alen (n := Int32.ofNat L) hx hb (by rw [hH b hbl]; exact x1) hof (by rw [x4] <;> rfl) rfl rfl hdg k
/-- an object of a kind that is written to -/
theorem lw_obj {base : Nat} {Hb H : Heap} {G : Nat → Nat} {a k : Nat} (hp : zk_hp qK D base Hb G H) (hg : G a = k) (hk : k ≠ 0) (hs : (zk_kd qK k).1 = 0) (hro : (zk_kd qK k).2.2.2.2.2.2.2 = 0) : base ≤ a ∧ ∃ cell : Cell, H[a]? = some cell ∧ cell.cls = D.1 (zk_kd qK k).2.1 ∧ cell.vm = .none ∧ ∀ (f : Nat) (t : zk_T), (zk_kd qK k).2.2.1[f]? = some t → ∃ w, cell.slots[D.2.1 (zk_kd qK k).2.1 f]? = some w ∧ zk_tv G w t := by
  subst hg
  obtain ⟨b0, cell, h1, h2, -⟩ := hp.2.2 a hk
  exact ⟨b0.1 hro, cell, h1, (h2.2.1 hs).1, h2.1.2 hro, fun f t ht => by obtain ⟨w, w1, w2⟩ := (h2.2.1 hs).2 f t ht; exact ⟨w, w1, w2.1⟩⟩
theorem lw_arr1 {base : Nat} {Hb H : Heap} {G : Nat → Nat} {a k : Nat} (hp : zk_hp qK D base Hb G H) (hg : G a = k) (hk : k ≠ 0) (hs : (zk_kd qK k).1 ≠ 0) (hro : (zk_kd qK k).2.2.2.2.2.2.2 = 0) : base ≤ a ∧ ∃ cell : Cell, H[a]? = some cell ∧ cell.cls = D.2.2.1 (zk_kd qK k).2.1 ∧ cell.vm = .none ∧ (zk_kd qK k).2.2.2.1 ≤ (cell.slots.size : Int) ∧ (cell.slots.size : Int) ≤ (zk_kd qK k).2.2.2.2.1 := by
  subst hg
  obtain ⟨b0, cell, h1, h2, -⟩ := hp.2.2 a hk
  exact ⟨b0.1 hro, cell, h1, (h2.2.2 hs).1, h2.1.2 hro, (h2.2.2 hs).2.1, (h2.2.2 hs).2.2.1⟩
theorem lw_ref {G : Nat → Nat} {w : Value} {k : Nat} (h : zk_tv G w (2, (k : Int), 0)) : ∃ a : Nat, w = .ref a ∧ G a = k := by
  obtain ⟨a, h1, h2, h3⟩ := zk_gr h rfl rfl
  exact ⟨a, h1, h2⟩
theorem lw_int0 {G : Nat → Nat} {w : Value} (h : zk_tv G w (0, 0, 0)) : w = .int 0 := by
  obtain ⟨x, h1, h2, h3⟩ := h
  rw [h1, show x = 0 from Int32.toInt_inj.mp (by have h2 : (0 : Int) ≤ x.toInt := h2; have h3 : x.toInt ≤ 0 := h3; rw [show (0 : Int32).toInt = 0 from rfl]; omega)]

set_option maxHeartbeats 4000000 in
set_option maxRecDepth 100000 in
theorem lw_ends {G : Nat → Nat} {H : Heap} {locs : List Loc} {ls : Array Slot} {xo mo : Nat} (hL6 : L = 6) (C0 : lw_At p s m meth c b L xs) (hK : zg_K D s.heap.size s.heap s) (hp : zk_hp qK D s.heap.size s.heap G H) (hlc : ∀ q ∈ locs, s.heap.size ≤ q.base) (hxo : G xo = 2) (hmo : G mo = 57) (hl : lv_has ls 4 [(0, .ref b), (1, .ref xo), (2, .ref mo), (3, .int 0)]) : W p l e room_1 s m #[Value.ref b] below meth c H locs 92 37171 (lw_Z below #[Value.ref b] s) (F0 m 1374 ls []) := by
  obtain ⟨hx, hb, hr, hml, hown, hts, hX, hbl, hlocks, hgv⟩ := C0
  have S : CallFix p m c code 4 s #[Value.ref b] lw_tbl R_law := ⟨hx, hb, hml, hown, hts⟩
  have hH : ∀ a : Nat, a < s.heap.size → H[a]? = s.heap[a]? := hp.2.1
  obtain ⟨hxb, cx, x1, x2, x3, x4⟩ := lw_obj hp hxo (by decide) rfl rfl
  obtain ⟨hmb, cm, m1, m2, m3, m4⟩ := lw_obj hp hmo (by decide) rfl rfl
  refine lv_aload_n hx hb (by decide +kernel : decode code 1374 = .ok (.aload_n 1, 1)) rfl (lv_at hl 1 rfl) ?_
  refine lv_aload_n hx hb (by decide +kernel : decode code 1375 = .ok (.aload_n 0, 1)) rfl (lv_at hl 0 rfl) ?_
  refine lv_iload_n hx hb (by decide +kernel : decode code 1376 = .ok (.iload_n 3, 1)) rfl (lv_at hl 3 rfl) ?_
  refine lv_iconst (v := 1) hx hb (by decide +kernel : decode code 1377 = .ok (.iconst 1, 1)) (by decide) ?_
  refine lv_iadd hx hb (by decide +kernel : decode code 1378 = .ok (.iadd, 1)) ?_
  refine lw_sld (i := 0 + 1) hx hb hX hbl hH (by rw [hL6]; decide) (by decide +kernel : decode code 1379 = .ok (.iaload, 1)) ?_
  refine W.eq (g2 := F0 m 1380 ls [.int (xs 1), .ref xo]) rfl ?_
  refine lv_aload_n hx hb (by decide +kernel : decode code 1380 = .ok (.aload_n 0, 1)) rfl (lv_at hl 0 rfl) ?_
  refine lv_iload_n hx hb (by decide +kernel : decode code 1381 = .ok (.iload_n 3, 1)) rfl (lv_at hl 3 rfl) ?_
  refine lv_iconst (v := 2) hx hb (by decide +kernel : decode code 1382 = .ok (.iconst 2, 1)) (by decide) ?_
  refine lv_iadd hx hb (by decide +kernel : decode code 1383 = .ok (.iadd, 1)) ?_
  refine lw_sld (i := 0 + 2) hx hb hX hbl hH (by rw [hL6]; decide) (by decide +kernel : decode code 1384 = .ok (.iaload, 1)) ?_
  refine W.eq (g2 := F0 m 1385 ls [.int (xs 2), .int (xs 1), .ref xo]) rfl ?_
  refine lv_aload_n hx hb (by decide +kernel : decode code 1385 = .ok (.aload_n 0, 1)) rfl (lv_at hl 0 rfl) ?_
  refine lv_iload_n hx hb (by decide +kernel : decode code 1386 = .ok (.iload_n 3, 1)) rfl (lv_at hl 3 rfl) ?_
  refine lv_iconst (v := 3) hx hb (by decide +kernel : decode code 1387 = .ok (.iconst 3, 1)) (by decide) ?_
  refine lv_iadd hx hb (by decide +kernel : decode code 1388 = .ok (.iadd, 1)) ?_
  refine lw_sld (i := 0 + 3) hx hb hX hbl hH (by rw [hL6]; decide) (by decide +kernel : decode code 1389 = .ok (.iaload, 1)) ?_
  refine W.eq (g2 := F0 m 1390 ls [.int (xs 3), .int (xs 2), .int (xs 1), .ref xo]) rfl ?_
  refine lv_aload_n hx hb (by decide +kernel : decode code 1390 = .ok (.aload_n 0, 1)) rfl (lv_at hl 0 rfl) ?_
  refine lv_iload_n hx hb (by decide +kernel : decode code 1391 = .ok (.iload_n 3, 1)) rfl (lv_at hl 3 rfl) ?_
  refine lv_iconst (v := 4) hx hb (by decide +kernel : decode code 1392 = .ok (.iconst 4, 1)) (by decide) ?_
  refine lv_iadd hx hb (by decide +kernel : decode code 1393 = .ok (.iadd, 1)) ?_
  refine lw_sld (i := 0 + 4) hx hb hX hbl hH (by rw [hL6]; decide) (by decide +kernel : decode code 1394 = .ok (.iaload, 1)) ?_
  refine W.eq (g2 := F0 m 1395 ls [.int (xs 4), .int (xs 3), .int (xs 2), .int (xs 1), .ref xo]) rfl ?_
  refine zh_callV (fun w h => zg_tb_lw w h) zg_tb_all S hK zg_Km ⟨rfl, rfl⟩ (zh_ends (D := D) (Hb := s.heap) xo (xs 1) (xs 2) (xs 3) (xs 4)) zw5_109 zy_yX11_ends_V ⟨cx, x1, zk_vk_of x3, by rw [x2]; exact (hK.2.1 11 _ rfl).2.1⟩ rfl hl.1 rfl ⟨rfl, rfl⟩ (by decide) (by decide) (by decide +kernel : decode code 1395 = .ok (.invokevirtual 154, 3)) hlc (fun ov H' locs hh hlc => ?_)
  obtain ⟨rfl, hHe⟩ := hh
  rw [hHe]
  refine lv_aload_n hx hb (by decide +kernel : decode code 1398 = .ok (.aload_n 2, 1)) rfl (lv_at hl 2 rfl) ?_
  refine lv_aload_n hx hb (by decide +kernel : decode code 1399 = .ok (.aload_n 0, 1)) rfl (lv_at hl 0 rfl) ?_
  refine lv_iload_n hx hb (by decide +kernel : decode code 1400 = .ok (.iload_n 3, 1)) rfl (lv_at hl 3 rfl) ?_
  refine lv_iconst (v := 1) hx hb (by decide +kernel : decode code 1401 = .ok (.iconst 1, 1)) (by decide) ?_
  refine lv_iadd hx hb (by decide +kernel : decode code 1402 = .ok (.iadd, 1)) ?_
  refine lw_sld (i := 0 + 1) hx hb hX hbl hH (by rw [hL6]; decide) (by decide +kernel : decode code 1403 = .ok (.iaload, 1)) ?_
  refine W.eq (g2 := F0 m 1404 ls [.int (xs 1), .ref mo, .int (zf_ends (xs 1) (xs 2) (xs 3) (xs 4))]) rfl ?_
  refine lv_aload_n hx hb (by decide +kernel : decode code 1404 = .ok (.aload_n 0, 1)) rfl (lv_at hl 0 rfl) ?_
  refine lv_iload_n hx hb (by decide +kernel : decode code 1405 = .ok (.iload_n 3, 1)) rfl (lv_at hl 3 rfl) ?_
  refine lv_iconst (v := 2) hx hb (by decide +kernel : decode code 1406 = .ok (.iconst 2, 1)) (by decide) ?_
  refine lv_iadd hx hb (by decide +kernel : decode code 1407 = .ok (.iadd, 1)) ?_
  refine lw_sld (i := 0 + 2) hx hb hX hbl hH (by rw [hL6]; decide) (by decide +kernel : decode code 1408 = .ok (.iaload, 1)) ?_
  refine W.eq (g2 := F0 m 1409 ls [.int (xs 2), .int (xs 1), .ref mo, .int (zf_ends (xs 1) (xs 2) (xs 3) (xs 4))]) rfl ?_
  refine lv_aload_n hx hb (by decide +kernel : decode code 1409 = .ok (.aload_n 0, 1)) rfl (lv_at hl 0 rfl) ?_
  refine lv_iload_n hx hb (by decide +kernel : decode code 1410 = .ok (.iload_n 3, 1)) rfl (lv_at hl 3 rfl) ?_
  refine lv_iconst (v := 3) hx hb (by decide +kernel : decode code 1411 = .ok (.iconst 3, 1)) (by decide) ?_
  refine lv_iadd hx hb (by decide +kernel : decode code 1412 = .ok (.iadd, 1)) ?_
  refine lw_sld (i := 0 + 3) hx hb hX hbl hH (by rw [hL6]; decide) (by decide +kernel : decode code 1413 = .ok (.iaload, 1)) ?_
  refine W.eq (g2 := F0 m 1414 ls [.int (xs 3), .int (xs 2), .int (xs 1), .ref mo, .int (zf_ends (xs 1) (xs 2) (xs 3) (xs 4))]) rfl ?_
  refine lv_aload_n hx hb (by decide +kernel : decode code 1414 = .ok (.aload_n 0, 1)) rfl (lv_at hl 0 rfl) ?_
  refine lv_iload_n hx hb (by decide +kernel : decode code 1415 = .ok (.iload_n 3, 1)) rfl (lv_at hl 3 rfl) ?_
  refine lv_iconst (v := 4) hx hb (by decide +kernel : decode code 1416 = .ok (.iconst 4, 1)) (by decide) ?_
  refine lv_iadd hx hb (by decide +kernel : decode code 1417 = .ok (.iadd, 1)) ?_
  refine lw_sld (i := 0 + 4) hx hb hX hbl hH (by rw [hL6]; decide) (by decide +kernel : decode code 1418 = .ok (.iaload, 1)) ?_
  refine W.eq (g2 := F0 m 1419 ls [.int (xs 4), .int (xs 3), .int (xs 2), .int (xs 1), .ref mo, .int (zf_ends (xs 1) (xs 2) (xs 3) (xs 4))]) rfl ?_
  refine zh_callV (fun w h => zg_tb_lw w h) zg_tb_all S hK zg_Km ⟨rfl, rfl⟩ (zh_endsM (D := D) (Hb := s.heap) mo (xs 1) (xs 2) (xs 3) (xs 4)) zw8_23 zy_yX12_ends_V ⟨cm, m1, zk_vk_of m3, by rw [m2]; exact (hK.2.1 12 _ rfl).2.1⟩ rfl hl.1 rfl ⟨rfl, rfl⟩ (by decide) (by decide) (by decide +kernel : decode code 1419 = .ok (.invokevirtual 157, 3)) hlc (fun ov H' locs hh hlc => ?_)
  obtain ⟨rfl, hHe⟩ := hh
  rw [hHe]
  refine lv_icmp_eq (tgt := 1529) hx hb (by decide +kernel : decode code 1422 = .ok (.if_icmp .eq 107, 3)) (by decide) (fun c_1 => ?_) (fun c_1 => absurd rfl c_1)
  refine lv_iinc (v := (0 + 6)) (lv' := [(3, .int (0 + 6)), (0, .ref b), (1, .ref xo), (2, .ref mo)]) hx hb (by decide +kernel : decode code 1529 = .ok (.iinc 3 6, 3)) hl (k := 3) rfl rfl (by decide) rfl (fun ls hl => ?_)
  refine lv_goto (tgt := 18) hx hb (by decide +kernel : decode code 1532 = .ok (.goto (-1514), 3)) (by decide) ?_
  refine lv_iload_n hx hb (by decide +kernel : decode code 18 = .ok (.iload_n 3, 1)) rfl (lv_at hl 0 rfl) ?_
  refine lv_aload_n hx hb (by decide +kernel : decode code 19 = .ok (.aload_n 0, 1)) rfl (lv_at hl 1 rfl) ?_
  refine lw_slen hx hb hX hbl hH (by decide +kernel : decode code 20 = .ok (.arraylength, 1)) ?_
  rw [hL6]
  refine lv_bipush (v := 6) hx hb (by decide +kernel : decode code 21 = .ok (.bipush 6, 2)) (by decide) ?_
  refine lv_isub hx hb (by decide +kernel : decode code 23 = .ok (.isub, 1)) ?_
  refine lv_icmp_gt (tgt := 1535) hx hb (by decide +kernel : decode code 24 = .ok (.if_icmp .gt 1511, 3)) (by decide) (fun c_2 => ?_) (fun c_2 => absurd (by decide) c_2)
  refine lv_iconst (v := 1) hx hb (by decide +kernel : decode code 1535 = .ok (.iconst 1, 1)) (by decide) ?_
  refine va_forget hlc (W.widen (k := 600000) (n := 7302250) (by decide) (by decide) ?_)
  exact lw_ret hx hb hr hlocks (by decide +kernel : decode code 1536 = .ok (.ireturn, 1))
set_option maxHeartbeats 4000000 in
set_option maxRecDepth 100000 in
theorem lw_feed {G : Nat → Nat} {H : Heap} {locs : List Loc} {ls : Array Slot} {xo mo : Nat} (hL6 : L = 6) (C0 : lw_At p s m meth c b L xs) (hK : zg_K D s.heap.size s.heap s) (hp : zk_hp qK D s.heap.size s.heap G H) (hlc : ∀ q ∈ locs, s.heap.size ≤ q.base) (hxo : G xo = 2) (hmo : G mo = 57) (hlen : ∃ to : Nat, (∃ cx : Cell, H[xo]? = some cx ∧ cx.slots[D.2.1 11 1]? = some (.ref to)) ∧ G to = 12 ∧ ∃ ct : Cell, H[to]? = some ct ∧ ct.slots[D.2.1 8 1]? = some (.int 0)) (hsz : ∃ cm : Cell, H[mo]? = some cm ∧ cm.slots[D.2.1 12 9]? = some (.int 0)) (hl : lv_has ls 4 [(0, .ref b), (1, .ref xo), (2, .ref mo), (3, .int 0)]) : W p l e room_1 s m #[Value.ref b] below meth c H locs 92 37171 (lw_Z below #[Value.ref b] s) (F0 m 340 ls []) := by
  obtain ⟨hx, hb, hr, hml, hown, hts, hX, hbl, hlocks, hgv⟩ := C0
  have S : CallFix p m c code 4 s #[Value.ref b] lw_tbl R_law := ⟨hx, hb, hml, hown, hts⟩
  have hH : ∀ a : Nat, a < s.heap.size → H[a]? = s.heap[a]? := hp.2.1
  obtain ⟨hxb, cx, x1, x2, x3, x4⟩ := lw_obj hp hxo (by decide) rfl rfl
  obtain ⟨hmb, cm, m1, m2, m3, m4⟩ := lw_obj hp hmo (by decide) rfl rfl
  obtain ⟨to, ⟨cx0, t1, t2⟩, t3, ct0, t4, t5⟩ := hlen
  rw [x1] at t1; cases t1
  obtain ⟨htb, ct, u1, u2, u3, u4⟩ := lw_obj hp t3 (by decide) rfl rfl
  rw [u1] at t4; cases t4
  obtain ⟨w1, v1, v2⟩ := u4 0 _ rfl
  obtain ⟨qa, rfl, hqa⟩ := lw_ref v2
  obtain ⟨hqb, cq, y1, y2, y3, y4, y5⟩ := lw_arr1 hp hqa (by decide) (by decide) rfl
  have y4 : (160 : Int) ≤ (cq.slots.size : Int) := y4
  have y5 : (cq.slots.size : Int) ≤ 160 := y5
  obtain ⟨cm0, z1, z2⟩ := hsz
  rw [m1] at z1; cases z1
  obtain ⟨w2, r1, r2⟩ := m4 8 _ rfl
  obtain ⟨qm, rfl, hqm⟩ := lw_ref r2
  obtain ⟨hqmb, cqm, p1, p2, p3, p4, p5⟩ := lw_arr1 hp hqm (by decide) (by decide) rfl
  have p4 : (160 : Int) ≤ (cqm.slots.size : Int) := p4
  have p5 : (cqm.slots.size : Int) ≤ 160 := p5
  have d1 : xo ≠ to := fun e => by rw [e, t3] at hxo; exact absurd hxo (by decide)
  have d2 : xo ≠ qa := fun e => by rw [e, hqa] at hxo; exact absurd hxo (by decide)
  have d3 : to ≠ qa := fun e => by rw [e, hqa] at t3; exact absurd t3 (by decide)
  have d4 : mo ≠ to := fun e => by rw [e, t3] at hmo; exact absurd hmo (by decide)
  have d5 : mo ≠ qa := fun e => by rw [e, hqa] at hmo; exact absurd hmo (by decide)
  have d6 : qm ≠ to := fun e => by rw [e, t3] at hqm; exact absurd hqm (by decide)
  have d7 : qm ≠ qa := fun e => by rw [e, hqa] at hqm; exact absurd hqm (by decide)
  have d8 : mo ≠ qm := fun e => by rw [e, hqm] at hmo; exact absurd hmo (by decide)
  have hdj := hK.1.2
  have e8 : D.2.1 8 1 ≠ D.2.1 8 0 := hdj 12 1 0 rfl (by decide) (by decide) (by decide)
  have e12 : D.2.1 12 9 ≠ D.2.1 12 8 := hdj 57 9 8 rfl (by decide) (by decide) (by decide)
  have hTx : zt_Tp D 8 0 1 3 160 H to qa (nI 0) := ⟨_, cq, u1, u2, u3, v1, t5, y1, y2, y3, by omega, d3⟩
  have hTm : zt_Tp D 12 8 9 0 160 H mo qm (nI 0) := ⟨cm, cqm, m1, m2, m3, r1, z2, p1, p2, p3, by omega, d8⟩
  refine lv_aload_n hx hb (by decide +kernel : decode code 340 = .ok (.aload_n 1, 1)) rfl (lv_at hl 1 rfl) ?_
  refine lv_aload_n hx hb (by decide +kernel : decode code 341 = .ok (.aload_n 0, 1)) rfl (lv_at hl 0 rfl) ?_
  refine lv_iload_n hx hb (by decide +kernel : decode code 342 = .ok (.iload_n 3, 1)) rfl (lv_at hl 3 rfl) ?_
  refine lv_iconst (v := 1) hx hb (by decide +kernel : decode code 343 = .ok (.iconst 1, 1)) (by decide) ?_
  refine lv_iadd hx hb (by decide +kernel : decode code 344 = .ok (.iadd, 1)) ?_
  refine lw_sld (i := 0 + 1) hx hb hX hbl hH (by rw [hL6]; decide) (by decide +kernel : decode code 345 = .ok (.iaload, 1)) ?_
  refine W.eq (g2 := F0 m 346 ls [.int (xs 1), .ref xo]) rfl ?_
  refine lv_aload_n hx hb (by decide +kernel : decode code 346 = .ok (.aload_n 0, 1)) rfl (lv_at hl 0 rfl) ?_
  refine lv_iload_n hx hb (by decide +kernel : decode code 347 = .ok (.iload_n 3, 1)) rfl (lv_at hl 3 rfl) ?_
  refine lv_iconst (v := 2) hx hb (by decide +kernel : decode code 348 = .ok (.iconst 2, 1)) (by decide) ?_
  refine lv_iadd hx hb (by decide +kernel : decode code 349 = .ok (.iadd, 1)) ?_
  refine lw_sld (i := 0 + 2) hx hb hX hbl hH (by rw [hL6]; decide) (by decide +kernel : decode code 350 = .ok (.iaload, 1)) ?_
  refine W.eq (g2 := F0 m 351 ls [.int (xs 2), .int (xs 1), .ref xo]) rfl ?_
  refine lv_aload_n hx hb (by decide +kernel : decode code 351 = .ok (.aload_n 0, 1)) rfl (lv_at hl 0 rfl) ?_
  refine lv_iload_n hx hb (by decide +kernel : decode code 352 = .ok (.iload_n 3, 1)) rfl (lv_at hl 3 rfl) ?_
  refine lv_iconst (v := 3) hx hb (by decide +kernel : decode code 353 = .ok (.iconst 3, 1)) (by decide) ?_
  refine lv_iadd hx hb (by decide +kernel : decode code 354 = .ok (.iadd, 1)) ?_
  refine lw_sld (i := 0 + 3) hx hb hX hbl hH (by rw [hL6]; decide) (by decide +kernel : decode code 355 = .ok (.iaload, 1)) ?_
  refine W.eq (g2 := F0 m 356 ls [.int (xs 3), .int (xs 2), .int (xs 1), .ref xo]) rfl ?_
  refine lv_aload_n hx hb (by decide +kernel : decode code 356 = .ok (.aload_n 0, 1)) rfl (lv_at hl 0 rfl) ?_
  refine lv_iload_n hx hb (by decide +kernel : decode code 357 = .ok (.iload_n 3, 1)) rfl (lv_at hl 3 rfl) ?_
  refine lv_iconst (v := 4) hx hb (by decide +kernel : decode code 358 = .ok (.iconst 4, 1)) (by decide) ?_
  refine lv_iadd hx hb (by decide +kernel : decode code 359 = .ok (.iadd, 1)) ?_
  refine lw_sld (i := 0 + 4) hx hb hX hbl hH (by rw [hL6]; decide) (by decide +kernel : decode code 360 = .ok (.iaload, 1)) ?_
  refine W.eq (g2 := F0 m 361 ls [.int (xs 4), .int (xs 3), .int (xs 2), .int (xs 1), .ref xo]) rfl ?_
  refine lv_aload_n hx hb (by decide +kernel : decode code 361 = .ok (.aload_n 0, 1)) rfl (lv_at hl 0 rfl) ?_
  refine lv_iload_n hx hb (by decide +kernel : decode code 362 = .ok (.iload_n 3, 1)) rfl (lv_at hl 3 rfl) ?_
  refine lv_iconst (v := 5) hx hb (by decide +kernel : decode code 363 = .ok (.iconst 5, 1)) (by decide) ?_
  refine lv_iadd hx hb (by decide +kernel : decode code 364 = .ok (.iadd, 1)) ?_
  refine lw_sld (i := 0 + 5) hx hb hX hbl hH (by rw [hL6]; decide) (by decide +kernel : decode code 365 = .ok (.iaload, 1)) ?_
  refine W.eq (g2 := F0 m 366 ls [.int (xs 5), .int (xs 4), .int (xs 3), .int (xs 2), .int (xs 1), .ref xo]) rfl ?_
  refine zh_callV (fun w h => zg_tb_lw w h) zg_tb_all S hK zg_Km ⟨rfl, rfl⟩ (zh_feed (D := D) (Hb := s.heap) xo to qa (xs 1) (xs 2) (xs 3) (xs 4) (xs 5) ⟨cx, x1, x2, zk_vk_of x3, t2⟩ d1 d2 htb hqb hTx e8) zw2_141 zy_yX11_feed_V ⟨cx, x1, zk_vk_of x3, by rw [x2]; exact (hK.2.1 11 _ rfl).2.1⟩ rfl hl.1 rfl ⟨rfl, rfl⟩ (by decide) (by decide) (by decide +kernel : decode code 366 = .ok (.invokevirtual 33, 3)) hlc (fun ov H' locs hh hlc => ?_)
  obtain ⟨rfl, hz1, hs1⟩ := hh
  obtain ⟨H1, rfl⟩ : ∃ z, z = H' := ⟨_, rfl⟩
  have hTm1 : zt_Tp D 12 8 9 0 160 H1 mo qm (nI 0) := ⟨cm, cqm, by rw [hs1 mo d4 d5]; exact m1, m2, m3, r1, z2, by rw [hs1 qm d6 d7]; exact p1, p2, p3, by omega, d8⟩
  have hm1 : H1[mo]? = some cm := by rw [hs1 mo d4 d5]; exact m1
  have hH : ∀ a : Nat, a < s.heap.size → H1[a]? = s.heap[a]? := fun a ha => by rw [hs1 a (by omega) (by omega)]; exact hH a ha
  refine lv_aload_n hx hb (by decide +kernel : decode code 369 = .ok (.aload_n 2, 1)) rfl (lv_at hl 2 rfl) ?_
  refine lv_aload_n hx hb (by decide +kernel : decode code 370 = .ok (.aload_n 0, 1)) rfl (lv_at hl 0 rfl) ?_
  refine lv_iload_n hx hb (by decide +kernel : decode code 371 = .ok (.iload_n 3, 1)) rfl (lv_at hl 3 rfl) ?_
  refine lv_iconst (v := 1) hx hb (by decide +kernel : decode code 372 = .ok (.iconst 1, 1)) (by decide) ?_
  refine lv_iadd hx hb (by decide +kernel : decode code 373 = .ok (.iadd, 1)) ?_
  refine lw_sld (i := 0 + 1) hx hb hX hbl hH (by rw [hL6]; decide) (by decide +kernel : decode code 374 = .ok (.iaload, 1)) ?_
  refine W.eq (g2 := F0 m 375 ls [.int (xs 1), .ref mo, .int (nI (zf_c (xs 1) 4 + zf_c (xs 2) 4 + zf_c (xs 3) 4 + zf_c (xs 4) 4 + zf_c (xs 5) 4))]) rfl ?_
  refine lv_aload_n hx hb (by decide +kernel : decode code 375 = .ok (.aload_n 0, 1)) rfl (lv_at hl 0 rfl) ?_
  refine lv_iload_n hx hb (by decide +kernel : decode code 376 = .ok (.iload_n 3, 1)) rfl (lv_at hl 3 rfl) ?_
  refine lv_iconst (v := 2) hx hb (by decide +kernel : decode code 377 = .ok (.iconst 2, 1)) (by decide) ?_
  refine lv_iadd hx hb (by decide +kernel : decode code 378 = .ok (.iadd, 1)) ?_
  refine lw_sld (i := 0 + 2) hx hb hX hbl hH (by rw [hL6]; decide) (by decide +kernel : decode code 379 = .ok (.iaload, 1)) ?_
  refine W.eq (g2 := F0 m 380 ls [.int (xs 2), .int (xs 1), .ref mo, .int (nI (zf_c (xs 1) 4 + zf_c (xs 2) 4 + zf_c (xs 3) 4 + zf_c (xs 4) 4 + zf_c (xs 5) 4))]) rfl ?_
  refine lv_aload_n hx hb (by decide +kernel : decode code 380 = .ok (.aload_n 0, 1)) rfl (lv_at hl 0 rfl) ?_
  refine lv_iload_n hx hb (by decide +kernel : decode code 381 = .ok (.iload_n 3, 1)) rfl (lv_at hl 3 rfl) ?_
  refine lv_iconst (v := 3) hx hb (by decide +kernel : decode code 382 = .ok (.iconst 3, 1)) (by decide) ?_
  refine lv_iadd hx hb (by decide +kernel : decode code 383 = .ok (.iadd, 1)) ?_
  refine lw_sld (i := 0 + 3) hx hb hX hbl hH (by rw [hL6]; decide) (by decide +kernel : decode code 384 = .ok (.iaload, 1)) ?_
  refine W.eq (g2 := F0 m 385 ls [.int (xs 3), .int (xs 2), .int (xs 1), .ref mo, .int (nI (zf_c (xs 1) 4 + zf_c (xs 2) 4 + zf_c (xs 3) 4 + zf_c (xs 4) 4 + zf_c (xs 5) 4))]) rfl ?_
  refine lv_aload_n hx hb (by decide +kernel : decode code 385 = .ok (.aload_n 0, 1)) rfl (lv_at hl 0 rfl) ?_
  refine lv_iload_n hx hb (by decide +kernel : decode code 386 = .ok (.iload_n 3, 1)) rfl (lv_at hl 3 rfl) ?_
  refine lv_iconst (v := 4) hx hb (by decide +kernel : decode code 387 = .ok (.iconst 4, 1)) (by decide) ?_
  refine lv_iadd hx hb (by decide +kernel : decode code 388 = .ok (.iadd, 1)) ?_
  refine lw_sld (i := 0 + 4) hx hb hX hbl hH (by rw [hL6]; decide) (by decide +kernel : decode code 389 = .ok (.iaload, 1)) ?_
  refine W.eq (g2 := F0 m 390 ls [.int (xs 4), .int (xs 3), .int (xs 2), .int (xs 1), .ref mo, .int (nI (zf_c (xs 1) 4 + zf_c (xs 2) 4 + zf_c (xs 3) 4 + zf_c (xs 4) 4 + zf_c (xs 5) 4))]) rfl ?_
  refine lv_aload_n hx hb (by decide +kernel : decode code 390 = .ok (.aload_n 0, 1)) rfl (lv_at hl 0 rfl) ?_
  refine lv_iload_n hx hb (by decide +kernel : decode code 391 = .ok (.iload_n 3, 1)) rfl (lv_at hl 3 rfl) ?_
  refine lv_iconst (v := 5) hx hb (by decide +kernel : decode code 392 = .ok (.iconst 5, 1)) (by decide) ?_
  refine lv_iadd hx hb (by decide +kernel : decode code 393 = .ok (.iadd, 1)) ?_
  refine lw_sld (i := 0 + 5) hx hb hX hbl hH (by rw [hL6]; decide) (by decide +kernel : decode code 394 = .ok (.iaload, 1)) ?_
  refine W.eq (g2 := F0 m 395 ls [.int (xs 5), .int (xs 4), .int (xs 3), .int (xs 2), .int (xs 1), .ref mo, .int (nI (zf_c (xs 1) 4 + zf_c (xs 2) 4 + zf_c (xs 3) 4 + zf_c (xs 4) 4 + zf_c (xs 5) 4))]) rfl ?_
  refine zh_callV (fun w h => zg_tb_lw w h) zg_tb_all S hK zg_Km ⟨rfl, rfl⟩ (zh_feedM (D := D) (Hb := s.heap) mo qm (xs 1) (xs 2) (xs 3) (xs 4) (xs 5) hmb hqmb hTm1 e12) zw6_164 zy_yX12_feed_V ⟨cm, hm1, zk_vk_of m3, by rw [m2]; exact (hK.2.1 12 _ rfl).2.1⟩ rfl hl.1 rfl ⟨rfl, rfl⟩ (by decide) (by decide) (by decide +kernel : decode code 395 = .ok (.invokevirtual 37, 3)) hlc (fun ov H' locs hh hlc => ?_)
  obtain ⟨rfl, hz2, hs2⟩ := hh
  obtain ⟨H2, rfl⟩ : ∃ z, z = H' := ⟨_, rfl⟩
  have hH : ∀ a : Nat, a < s.heap.size → H2[a]? = s.heap[a]? := fun a ha => by rw [hs2 a (by omega) (by omega)]; exact hH a ha
  refine lv_icmp_eq (tgt := 1529) hx hb (by decide +kernel : decode code 398 = .ok (.if_icmp .eq 1131, 3)) (by decide) (fun c_1 => ?_) (fun c_1 => absurd (by rw [zf_m20]) c_1)
  refine lv_iinc (v := (0 + 6)) (lv' := [(3, .int (0 + 6)), (0, .ref b), (1, .ref xo), (2, .ref mo)]) hx hb (by decide +kernel : decode code 1529 = .ok (.iinc 3 6, 3)) hl (k := 3) rfl rfl (by decide) rfl (fun ls hl => ?_)
  refine lv_goto (tgt := 18) hx hb (by decide +kernel : decode code 1532 = .ok (.goto (-1514), 3)) (by decide) ?_
  refine lv_iload_n hx hb (by decide +kernel : decode code 18 = .ok (.iload_n 3, 1)) rfl (lv_at hl 0 rfl) ?_
  refine lv_aload_n hx hb (by decide +kernel : decode code 19 = .ok (.aload_n 0, 1)) rfl (lv_at hl 1 rfl) ?_
  refine lw_slen hx hb hX hbl hH (by decide +kernel : decode code 20 = .ok (.arraylength, 1)) ?_
  rw [hL6]
  refine lv_bipush (v := 6) hx hb (by decide +kernel : decode code 21 = .ok (.bipush 6, 2)) (by decide) ?_
  refine lv_isub hx hb (by decide +kernel : decode code 23 = .ok (.isub, 1)) ?_
  refine lv_icmp_gt (tgt := 1535) hx hb (by decide +kernel : decode code 24 = .ok (.if_icmp .gt 1511, 3)) (by decide) (fun c_2 => ?_) (fun c_2 => absurd (by decide) c_2)
  refine lv_iconst (v := 1) hx hb (by decide +kernel : decode code 1535 = .ok (.iconst 1, 1)) (by decide) ?_
  refine va_forget hlc (W.widen (k := 600000) (n := 7302250) (by decide) (by decide) ?_)
  exact lw_ret hx hb hr hlocks (by decide +kernel : decode code 1536 = .ok (.ireturn, 1))
set_option maxHeartbeats 4000000 in
set_option maxRecDepth 100000 in
theorem lw_hands {G : Nat → Nat} {H : Heap} {locs : List Loc} {ls : Array Slot} {xo mo : Nat} (hL6 : L = 6) (C0 : lw_At p s m meth c b L xs) (hK : zg_K D s.heap.size s.heap s) (hp : zk_hp qK D s.heap.size s.heap G H) (hlc : ∀ q ∈ locs, s.heap.size ≤ q.base) (hxo : G xo = 2) (hmo : G mo = 57) (hn1 : ∃ cx : Cell, H[xo]? = some cx ∧ cx.slots[D.2.1 11 13]? = some (.int 0)) (hn2 : ∃ cm : Cell, H[mo]? = some cm ∧ cm.slots[D.2.1 12 0]? = some (.int 0)) (hn3 : ∃ cx : Cell, H[xo]? = some cx ∧ cx.slots[D.2.1 11 15]? = some (.int 0)) (hn4 : ∃ cm : Cell, H[mo]? = some cm ∧ cm.slots[D.2.1 12 6]? = some (.int 0)) (hn5 : ∃ cm : Cell, H[mo]? = some cm ∧ cm.slots[D.2.1 12 44]? = some (.int 0)) (hl : lv_has ls 4 [(0, .ref b), (1, .ref xo), (2, .ref mo), (3, .int 0)]) : W p l e room_1 s m #[Value.ref b] below meth c H locs 92 37171 (lw_Z below #[Value.ref b] s) (F0 m 1427 ls []) := by
  obtain ⟨hx, hb, hr, hml, hown, hts, hX, hbl, hlocks, hgv⟩ := C0
  have S : CallFix p m c code 4 s #[Value.ref b] lw_tbl R_law := ⟨hx, hb, hml, hown, hts⟩
  have hH : ∀ a : Nat, a < s.heap.size → H[a]? = s.heap[a]? := hp.2.1
  obtain ⟨hxb, cx, x1, x2, x3, x4⟩ := lw_obj hp hxo (by decide) rfl rfl
  obtain ⟨hmb, cm, m1, m2, m3, m4⟩ := lw_obj hp hmo (by decide) rfl rfl
  obtain ⟨cx0, t1, t2⟩ := hn1
  rw [x1] at t1; cases t1
  obtain ⟨cx0, t3, t4⟩ := hn3
  rw [x1] at t3; cases t3
  obtain ⟨cm0, z1, z2⟩ := hn2
  rw [m1] at z1; cases z1
  obtain ⟨cm0, z3, z4⟩ := hn4
  rw [m1] at z3; cases z3
  obtain ⟨cm0, z5, z6⟩ := hn5
  rw [m1] at z5; cases z5
  obtain ⟨w1, v1, v2⟩ := x4 12 _ rfl
  obtain ⟨qa, rfl, hqa⟩ := lw_ref v2
  obtain ⟨hqb, cq, y1, y2, y3, y4, y5⟩ := lw_arr1 hp hqa (by decide) (by decide) rfl
  have y4 : (12 : Int) ≤ (cq.slots.size : Int) := y4
  have y5 : (cq.slots.size : Int) ≤ 12 := y5
  have d2 : xo ≠ qa := fun e => by rw [e, hqa] at hxo; exact absurd hxo (by decide)
  have d5 : mo ≠ qa := fun e => by rw [e, hqa] at hmo; exact absurd hmo (by decide)
  refine lv_aload_n hx hb (by decide +kernel : decode code 1427 = .ok (.aload_n 1, 1)) rfl (lv_at hl 1 rfl) ?_
  refine lv_aload_n hx hb (by decide +kernel : decode code 1428 = .ok (.aload_n 0, 1)) rfl (lv_at hl 0 rfl) ?_
  refine lv_iload_n hx hb (by decide +kernel : decode code 1429 = .ok (.iload_n 3, 1)) rfl (lv_at hl 3 rfl) ?_
  refine lv_iconst (v := 1) hx hb (by decide +kernel : decode code 1430 = .ok (.iconst 1, 1)) (by decide) ?_
  refine lv_iadd hx hb (by decide +kernel : decode code 1431 = .ok (.iadd, 1)) ?_
  refine lw_sld (i := 0 + 1) hx hb hX hbl hH (by rw [hL6]; decide) (by decide +kernel : decode code 1432 = .ok (.iaload, 1)) ?_
  refine W.eq (g2 := F0 m 1433 ls [.int (xs 1), .ref xo]) rfl ?_
  refine zh_callV (fun w h => zg_tb_lw w h) zg_tb_all S hK zg_Km ⟨rfl, rfl⟩ (zh_hands (D := D) (Hb := s.heap) xo qa (xs 1) d2 hqb ⟨cx, x1, x2, zk_vk_of x3, t2, v1, t4⟩ ⟨cq, y1, y2, y3, by omega⟩) zw5_114 zy_yX11_hands_V ⟨cx, x1, zk_vk_of x3, by rw [x2]; exact (hK.2.1 11 _ rfl).2.1⟩ rfl hl.1 rfl ⟨rfl, rfl⟩ (by decide) (by decide) (by decide +kernel : decode code 1433 = .ok (.invokevirtual 158, 3)) hlc (fun ov H' locs hh hlc => ?_)
  obtain ⟨rfl, hz1, hs1⟩ := hh
  obtain ⟨H1, rfl⟩ : ∃ z, z = H' := ⟨_, rfl⟩
  have hm1 : H1[mo]? = some cm := by rw [hs1 mo d5]; exact m1
  have hH : ∀ a : Nat, a < s.heap.size → H1[a]? = s.heap[a]? := fun a ha => by rw [hs1 a (by omega)]; exact hH a ha
  refine lv_aload_n hx hb (by decide +kernel : decode code 1436 = .ok (.aload_n 2, 1)) rfl (lv_at hl 2 rfl) ?_
  refine lv_aload_n hx hb (by decide +kernel : decode code 1437 = .ok (.aload_n 0, 1)) rfl (lv_at hl 0 rfl) ?_
  refine lv_iload_n hx hb (by decide +kernel : decode code 1438 = .ok (.iload_n 3, 1)) rfl (lv_at hl 3 rfl) ?_
  refine lv_iconst (v := 1) hx hb (by decide +kernel : decode code 1439 = .ok (.iconst 1, 1)) (by decide) ?_
  refine lv_iadd hx hb (by decide +kernel : decode code 1440 = .ok (.iadd, 1)) ?_
  refine lw_sld (i := 0 + 1) hx hb hX hbl hH (by rw [hL6]; decide) (by decide +kernel : decode code 1441 = .ok (.iaload, 1)) ?_
  refine W.eq (g2 := F0 m 1442 ls [.int (xs 1), .ref mo, .int (zf_hd (xs 1))]) rfl ?_
  refine zh_callV (fun w h => zg_tb_lw w h) zg_tb_all S hK zg_Km ⟨rfl, rfl⟩ (zh_handsM (D := D) (Hb := s.heap) mo (xs 1) ⟨cm, hm1, m2, zk_vk_of m3, z2⟩ ⟨cm, hm1, m2, zk_vk_of m3, z4⟩ ⟨cm, hm1, m2, zk_vk_of m3, z6⟩) zw8_28 zy_yX12_hands_V ⟨cm, hm1, zk_vk_of m3, by rw [m2]; exact (hK.2.1 12 _ rfl).2.1⟩ rfl hl.1 rfl ⟨rfl, rfl⟩ (by decide) (by decide) (by decide +kernel : decode code 1442 = .ok (.invokevirtual 161, 3)) hlc (fun ov H' locs hh hlc => ?_)
  obtain ⟨rfl, hHe⟩ := hh
  rw [hHe]
  refine lv_icmp_eq (tgt := 1529) hx hb (by decide +kernel : decode code 1445 = .ok (.if_icmp .eq 84, 3)) (by decide) (fun c_1 => ?_) (fun c_1 => absurd rfl c_1)
  refine lv_iinc (v := (0 + 6)) (lv' := [(3, .int (0 + 6)), (0, .ref b), (1, .ref xo), (2, .ref mo)]) hx hb (by decide +kernel : decode code 1529 = .ok (.iinc 3 6, 3)) hl (k := 3) rfl rfl (by decide) rfl (fun ls hl => ?_)
  refine lv_goto (tgt := 18) hx hb (by decide +kernel : decode code 1532 = .ok (.goto (-1514), 3)) (by decide) ?_
  refine lv_iload_n hx hb (by decide +kernel : decode code 18 = .ok (.iload_n 3, 1)) rfl (lv_at hl 0 rfl) ?_
  refine lv_aload_n hx hb (by decide +kernel : decode code 19 = .ok (.aload_n 0, 1)) rfl (lv_at hl 1 rfl) ?_
  refine lw_slen hx hb hX hbl hH (by decide +kernel : decode code 20 = .ok (.arraylength, 1)) ?_
  rw [hL6]
  refine lv_bipush (v := 6) hx hb (by decide +kernel : decode code 21 = .ok (.bipush 6, 2)) (by decide) ?_
  refine lv_isub hx hb (by decide +kernel : decode code 23 = .ok (.isub, 1)) ?_
  refine lv_icmp_gt (tgt := 1535) hx hb (by decide +kernel : decode code 24 = .ok (.if_icmp .gt 1511, 3)) (by decide) (fun c_2 => ?_) (fun c_2 => absurd (by decide) c_2)
  refine lv_iconst (v := 1) hx hb (by decide +kernel : decode code 1535 = .ok (.iconst 1, 1)) (by decide) ?_
  refine va_forget hlc (W.widen (k := 600000) (n := 7302250) (by decide) (by decide) ?_)
  exact lw_ret hx hb hr hlocks (by decide +kernel : decode code 1536 = .ok (.ireturn, 1))
end LW
