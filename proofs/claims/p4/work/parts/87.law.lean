/-! THE LAW, 5: whole -/
/-- a row that is known to be zeros -/
theorem zr_zero {D : zk_D} {G : Nat → Nat} {H : Heap} {v : Nat → Value} {x : zk_S} {o f sy a r : Nat} {cell cr : Cell} (hF : zk_F qK D G H v x) (h1 : (o, f, sy) ∈ x.2.2.2.2.2.1) (h2 : (11, sy, 0, 0) ∈ x.2.2.2.2.2.2.2.2.1) (hf : Nat.blt f 1000 = true) (ho : v o = .ref a) (hc : H[a]? = some cell) (hs : cell.slots[zk_sl qK D (G a) f]? = some (.ref r)) (hr : H[r]? = some cr) : ∀ (j : Nat) (w : Value), cr.slots[j]? = some w → w = .int 0 := by
  obtain ⟨-, -, h3⟩ := zk_F_fl hF _ h1
  obtain ⟨a1, c1, q1, -, -, -, q2, q3⟩ := zk_fl_real h3 hf
  have q1 : v o = .ref a1 := q1
  rw [ho] at q1; cases q1
  rw [hc] at q2; cases q2
  have q3 : cell.slots[zk_sl qK D (G a) f]? = some (v sy) := q3
  rw [hs] at q3
  obtain ⟨-, a2, c2, m1, -, m3, m4⟩ := zk_ms11 (zk_F_ms hF _ h2) rfl
  have m1 : v sy = .ref a2 := m1
  rw [m1] at q3; cases q3
  rw [hr] at m3; cases m3
  exact m4
section LWC
variable {p : Program} {l : Launch} {e : Env} {s : State} {m : MethodId} {below : List Frame} {meth : Method} {c : Code} {b L : Nat} {xs : Nat → Int32} {D : zk_D} {G0 : Nat → Nat}
theorem lw_hQ (t : State) (h : MQ below (zk_Qf qK D s.heap.size s.heap qCL (fun _ => .ref b) G0 s.heap) #[Value.ref b] s 600000 7302250 (fun q => s.heap.size ≤ q) t) : lw_Z below #[Value.ref b] s t := by
  obtain ⟨o, h1, h2, ⟨ov, rfl, G', v', t', ht', ho, hlen, hlt, hn, hv, hp', he', hF'⟩, Lc, hfe, hfree⟩ := h
  have ht' := List.mem_singleton.mp ht'
  subst ht'
  obtain ⟨x, ex, e1, e2⟩ := (hF'.1 (1, 0, 1, 1) (List.mem_singleton.mpr rfl)).2
  have e1 : (1 : Int) ≤ x.toInt := e1
  have e2 : x.toInt ≤ 1 := e2
  have hx1 : x = 1 := Int32.toInt_inj.mp (by rw [show (1 : Int32).toInt = 1 from rfl]; omega)
  have ho : ov = some (v' 1) := ho
  rw [ex, hx1] at ho
  subst ho
  exact ⟨_, h1, h2, rfl, ⟨_, rfl⟩, hfe.2.1, hfe.2.2.weaken (fun y hy hlt9 => absurd hlt9 (Nat.not_lt.mpr (hfree y hy))) (Nat.le_refl _) (Nat.le_refl _)⟩
set_option maxHeartbeats 4000000 in
set_option maxRecDepth 100000 in
theorem lw_ok (C0 : lw_At p s m meth c b L xs) (hK : zg_K D s.heap.size s.heap s) : zk_ok p l e room_1 s m #[Value.ref b] below meth c (lw_Z below #[Value.ref b] s) qK D s.heap.size s.heap 4 code qPL 7302250 := by
  obtain ⟨hx, hb, hr, hml, hown, hts, hX, hbl, hlocks, hgv⟩ := id C0
  have S : CallFix p m c code 4 s #[Value.ref b] lw_tbl R_law := ⟨hx, hb, hml, hown, hts⟩
  exact ⟨fun _ h => absurd h List.not_mem_nil,
    fun _ h => absurd h List.not_mem_nil,
    List.forall_mem_cons.mpr ⟨zg_nokE (by decide +kernel) (zg_nok tyX11 S (hK.2.1 11 _ rfl) (fun w h => zg_tb_lw w (zc11 w h)) tyX11_ok (zg_tb_lw _ zw1_23) (zg_tb_lw _ zw1_24) (zg_tb_lw _ zw1_1) rfl (by decide +kernel)), List.forall_mem_cons.mpr ⟨zg_nokE (by decide +kernel) (zg_nok tyX12 S (hK.2.1 12 _ rfl) (fun w h => zg_tb_lw w (zc12 w h)) tyX12_ok (zg_tb_lw _ zw5_153) (zg_tb_lw _ zw5_154) (zg_tb_lw _ zw1_12) rfl (by decide +kernel)), fun _ h => absurd h List.not_mem_nil⟩⟩,
    fun _ h => absurd h List.not_mem_nil,
    fun h => absurd rfl h,
    fun _ h => absurd h List.not_mem_nil,
    List.forall_mem_cons.mpr ⟨zg_callI (fun w h => zg_tb_lw w h) zg_tb_all S hK zg_Km qm11 zw1_25 zy_yX11_init_I rfl (ci := 11) (by decide +kernel) ⟨rfl, rfl⟩ (zk_dg_ok qdo_law (by decide +kernel)), List.forall_mem_cons.mpr ⟨zg_callI (fun w h => zg_tb_lw w h) zg_tb_all S hK zg_Km qm12 zw5_155 zy_yX12_init_I rfl (ci := 12) (by decide +kernel) ⟨rfl, rfl⟩ (zk_dg_ok qdo_law (by decide +kernel)), List.forall_mem_cons.mpr ⟨zg_callV (fun w h => zg_tb_lw w h) zg_tb_all S hK zg_Km qm14 zw2_105 zy_yX11_house_V (ci := 11) (by decide +kernel) (hK.2.1 11 _ rfl).2.1 ⟨rfl, rfl⟩ (zk_dg_ok qdo_law (by decide +kernel)), List.forall_mem_cons.mpr ⟨zg_callV (fun w h => zg_tb_lw w h) zg_tb_all S hK zg_Km qm15 zw6_133 zy_yX12_house_V (ci := 12) (by decide +kernel) (hK.2.1 12 _ rfl).2.1 ⟨rfl, rfl⟩ (zk_dg_ok qdo_law (by decide +kernel)), List.forall_mem_cons.mpr ⟨zg_callV (fun w h => zg_tb_lw w h) zg_tb_all S hK zg_Km qm17 zw2_113 zy_yX11_up_V (ci := 11) (by decide +kernel) (hK.2.1 11 _ rfl).2.1 ⟨rfl, rfl⟩ (zk_dg_ok qdo_law (by decide +kernel)), List.forall_mem_cons.mpr ⟨zg_callV (fun w h => zg_tb_lw w h) zg_tb_all S hK zg_Km qm20 zw6_137 zy_yX12_up_V (ci := 12) (by decide +kernel) (hK.2.1 12 _ rfl).2.1 ⟨rfl, rfl⟩ (zk_dg_ok qdo_law (by decide +kernel)), List.forall_mem_cons.mpr ⟨zg_callV (fun w h => zg_tb_lw w h) zg_tb_all S hK zg_Km qm22 zw2_133 zy_yX11_name_V (ci := 11) (by decide +kernel) (hK.2.1 11 _ rfl).2.1 ⟨rfl, rfl⟩ (zk_dg_ok qdo_law (by decide +kernel)), List.forall_mem_cons.mpr ⟨zg_callV (fun w h => zg_tb_lw w h) zg_tb_all S hK zg_Km qm23 zw6_152 zy_yX12_name_V (ci := 12) (by decide +kernel) (hK.2.1 12 _ rfl).2.1 ⟨rfl, rfl⟩ (zk_dg_ok qdo_law (by decide +kernel)), List.forall_mem_cons.mpr ⟨zg_callV (fun w h => zg_tb_lw w h) zg_tb_all S hK zg_Km qm26 zw2_141 zy_yX11_feed_V (ci := 11) (by decide +kernel) (hK.2.1 11 _ rfl).2.1 ⟨rfl, rfl⟩ (zk_dg_ok qdo_law (by decide +kernel)), List.forall_mem_cons.mpr ⟨zg_callV (fun w h => zg_tb_lw w h) zg_tb_all S hK zg_Km qm27 zw6_164 zy_yX12_feed_V (ci := 12) (by decide +kernel) (hK.2.1 12 _ rfl).2.1 ⟨rfl, rfl⟩ (zk_dg_ok qdo_law (by decide +kernel)), List.forall_mem_cons.mpr ⟨zg_callV (fun w h => zg_tb_lw w h) zg_tb_all S hK zg_Km qm28 zw2_152 zy_yX11_end_V (ci := 11) (by decide +kernel) (hK.2.1 11 _ rfl).2.1 ⟨rfl, rfl⟩ (zk_dg_ok qdo_law (by decide +kernel)), List.forall_mem_cons.mpr ⟨zg_callV (fun w h => zg_tb_lw w h) zg_tb_all S hK zg_Km qm29 zw6_171 zy_yX12_end_V (ci := 12) (by decide +kernel) (hK.2.1 12 _ rfl).2.1 ⟨rfl, rfl⟩ (zk_dg_ok qdo_law (by decide +kernel)), List.forall_mem_cons.mpr ⟨zg_callV (fun w h => zg_tb_lw w h) zg_tb_all S hK zg_Km qm163 zw2_156 zy_yX11_fault_V (ci := 11) (by decide +kernel) (hK.2.1 11 _ rfl).2.1 ⟨rfl, rfl⟩ (zk_dg_ok qdo_law (by decide +kernel)), List.forall_mem_cons.mpr ⟨zg_callV (fun w h => zg_tb_lw w h) zg_tb_all S hK zg_Km qm364 zw6_175 zy_yX12_fault_V (ci := 12) (by decide +kernel) (hK.2.1 12 _ rfl).2.1 ⟨rfl, rfl⟩ (zk_dg_ok qdo_law (by decide +kernel)), List.forall_mem_cons.mpr ⟨zg_callV (fun w h => zg_tb_lw w h) zg_tb_all S hK zg_Km qm371 zw3_65 zy_yX11_rules_V (ci := 11) (by decide +kernel) (hK.2.1 11 _ rfl).2.1 ⟨rfl, rfl⟩ (zk_dg_ok qdo_law (by decide +kernel)), List.forall_mem_cons.mpr ⟨zg_callV (fun w h => zg_tb_lw w h) zg_tb_all S hK zg_Km qm374 zw7_49 zy_yX12_rules_V (ci := 12) (by decide +kernel) (hK.2.1 12 _ rfl).2.1 ⟨rfl, rfl⟩ (zk_dg_ok qdo_law (by decide +kernel)), List.forall_mem_cons.mpr ⟨zg_callV (fun w h => zg_tb_lw w h) zg_tb_all S hK zg_Km qm377 zw3_104 zy_yX11_force_V (ci := 11) (by decide +kernel) (hK.2.1 11 _ rfl).2.1 ⟨rfl, rfl⟩ (zk_dg_ok qdo_law (by decide +kernel)), List.forall_mem_cons.mpr ⟨zg_callV (fun w h => zg_tb_lw w h) zg_tb_all S hK zg_Km qm383 zw7_53 zy_yX12_force_V (ci := 12) (by decide +kernel) (hK.2.1 12 _ rfl).2.1 ⟨rfl, rfl⟩ (zk_dg_ok qdo_law (by decide +kernel)), List.forall_mem_cons.mpr ⟨zg_callV (fun w h => zg_tb_lw w h) zg_tb_all S hK zg_Km qm384 zw3_116 zy_yX11_list_V (ci := 11) (by decide +kernel) (hK.2.1 11 _ rfl).2.1 ⟨rfl, rfl⟩ (zk_dg_ok qdo_law (by decide +kernel)), List.forall_mem_cons.mpr ⟨zg_callV (fun w h => zg_tb_lw w h) zg_tb_all S hK zg_Km qm385 zw7_164 zy_yX12_list_V (ci := 12) (by decide +kernel) (hK.2.1 12 _ rfl).2.1 ⟨rfl, rfl⟩ (zk_dg_ok qdo_law (by decide +kernel)), List.forall_mem_cons.mpr ⟨zg_callV (fun w h => zg_tb_lw w h) zg_tb_all S hK zg_Km qm387 zw3_120 zy_yX11_off_V (ci := 11) (by decide +kernel) (hK.2.1 11 _ rfl).2.1 ⟨rfl, rfl⟩ (zk_dg_ok qdo_law (by decide +kernel)), List.forall_mem_cons.mpr ⟨zg_callV (fun w h => zg_tb_lw w h) zg_tb_all S hK zg_Km qm390 zw7_168 zy_yX12_off_V (ci := 12) (by decide +kernel) (hK.2.1 12 _ rfl).2.1 ⟨rfl, rfl⟩ (zk_dg_ok qdo_law (by decide +kernel)), List.forall_mem_cons.mpr ⟨zg_callV (fun w h => zg_tb_lw w h) zg_tb_all S hK zg_Km qm418 zw3_128 zy_yX11_bars_V (ci := 11) (by decide +kernel) (hK.2.1 11 _ rfl).2.1 ⟨rfl, rfl⟩ (zk_dg_ok qdo_law (by decide +kernel)), List.forall_mem_cons.mpr ⟨zg_callV (fun w h => zg_tb_lw w h) zg_tb_all S hK zg_Km qm429 zw7_176 zy_yX12_bars_V (ci := 12) (by decide +kernel) (hK.2.1 12 _ rfl).2.1 ⟨rfl, rfl⟩ (zk_dg_ok qdo_law (by decide +kernel)), List.forall_mem_cons.mpr ⟨zg_callV (fun w h => zg_tb_lw w h) zg_tb_all S hK zg_Km qm431 zw3_192 zy_yX11_harm_V (ci := 11) (by decide +kernel) (hK.2.1 11 _ rfl).2.1 ⟨rfl, rfl⟩ (zk_dg_ok qdo_law (by decide +kernel)), List.forall_mem_cons.mpr ⟨zg_callV (fun w h => zg_tb_lw w h) zg_tb_all S hK zg_Km qm432 zw7_206 zy_yX12_harm_V (ci := 12) (by decide +kernel) (hK.2.1 12 _ rfl).2.1 ⟨rfl, rfl⟩ (zk_dg_ok qdo_law (by decide +kernel)), List.forall_mem_cons.mpr ⟨zg_callV (fun w h => zg_tb_lw w h) zg_tb_all S hK zg_Km qm462 zw3_200 zy_yX11_write_V (ci := 11) (by decide +kernel) (hK.2.1 11 _ rfl).2.1 ⟨rfl, rfl⟩ (zk_dg_ok qdo_law (by decide +kernel)), List.forall_mem_cons.mpr ⟨zg_callV (fun w h => zg_tb_lw w h) zg_tb_all S hK zg_Km qm469 zw7_65 zy_yX12_write_V (ci := 12) (by decide +kernel) (hK.2.1 12 _ rfl).2.1 ⟨rfl, rfl⟩ (zk_dg_ok qdo_law (by decide +kernel)), List.forall_mem_cons.mpr ⟨zg_callV (fun w h => zg_tb_lw w h) zg_tb_all S hK zg_Km qm471 zw4_138 zy_yX11_words_V (ci := 11) (by decide +kernel) (hK.2.1 11 _ rfl).2.1 ⟨rfl, rfl⟩ (zk_dg_ok qdo_law (by decide +kernel)), List.forall_mem_cons.mpr ⟨zg_callV (fun w h => zg_tb_lw w h) zg_tb_all S hK zg_Km qm475 zw7_76 zy_yX12_words_V (ci := 12) (by decide +kernel) (hK.2.1 12 _ rfl).2.1 ⟨rfl, rfl⟩ (zk_dg_ok qdo_law (by decide +kernel)), List.forall_mem_cons.mpr ⟨zg_callV (fun w h => zg_tb_lw w h) zg_tb_all S hK zg_Km qm477 zw4_146 zy_yX11_read_V (ci := 11) (by decide +kernel) (hK.2.1 11 _ rfl).2.1 ⟨rfl, rfl⟩ (zk_dg_ok qdo_law (by decide +kernel)), List.forall_mem_cons.mpr ⟨zg_callV (fun w h => zg_tb_lw w h) zg_tb_all S hK zg_Km qm480 zw7_84 zy_yX12_read_V (ci := 12) (by decide +kernel) (hK.2.1 12 _ rfl).2.1 ⟨rfl, rfl⟩ (zk_dg_ok qdo_law (by decide +kernel)), List.forall_mem_cons.mpr ⟨zg_callV (fun w h => zg_tb_lw w h) zg_tb_all S hK zg_Km qm482 zw4_153 zy_yX11_unlike_V (ci := 11) (by decide +kernel) (hK.2.1 11 _ rfl).2.1 ⟨rfl, rfl⟩ (zk_dg_ok qdo_law (by decide +kernel)), List.forall_mem_cons.mpr ⟨zg_callV (fun w h => zg_tb_lw w h) zg_tb_all S hK zg_Km qm484 zw7_93 zy_yX12_unlike_V (ci := 12) (by decide +kernel) (hK.2.1 12 _ rfl).2.1 ⟨rfl, rfl⟩ (zk_dg_ok qdo_law (by decide +kernel)), List.forall_mem_cons.mpr ⟨zg_callV (fun w h => zg_tb_lw w h) zg_tb_all S hK zg_Km qm485 zw4_157 zy_yX11_letter_V (ci := 11) (by decide +kernel) (hK.2.1 11 _ rfl).2.1 ⟨rfl, rfl⟩ (zk_dg_ok qdo_law (by decide +kernel)), List.forall_mem_cons.mpr ⟨zg_callV (fun w h => zg_tb_lw w h) zg_tb_all S hK zg_Km qm486 zw7_98 zy_yX12_letter_V (ci := 12) (by decide +kernel) (hK.2.1 12 _ rfl).2.1 ⟨rfl, rfl⟩ (zk_dg_ok qdo_law (by decide +kernel)), List.forall_mem_cons.mpr ⟨zg_callV (fun w h => zg_tb_lw w h) zg_tb_all S hK zg_Km qm487 zw4_161 zy_yX11_why_V (ci := 11) (by decide +kernel) (hK.2.1 11 _ rfl).2.1 ⟨rfl, rfl⟩ (zk_dg_ok qdo_law (by decide +kernel)), List.forall_mem_cons.mpr ⟨zg_callV (fun w h => zg_tb_lw w h) zg_tb_all S hK zg_Km qm488 zw7_102 zy_yX12_why_V (ci := 12) (by decide +kernel) (hK.2.1 12 _ rfl).2.1 ⟨rfl, rfl⟩ (zk_dg_ok qdo_law (by decide +kernel)), List.forall_mem_cons.mpr ⟨zg_callV (fun w h => zg_tb_lw w h) zg_tb_all S hK zg_Km qm504 zw4_165 zy_yX11_minutes_V (ci := 11) (by decide +kernel) (hK.2.1 11 _ rfl).2.1 ⟨rfl, rfl⟩ (zk_dg_ok qdo_law (by decide +kernel)), List.forall_mem_cons.mpr ⟨zg_callV (fun w h => zg_tb_lw w h) zg_tb_all S hK zg_Km qm518 zw7_210 zy_yX12_minutes_V (ci := 12) (by decide +kernel) (hK.2.1 12 _ rfl).2.1 ⟨rfl, rfl⟩ (zk_dg_ok qdo_law (by decide +kernel)), List.forall_mem_cons.mpr ⟨zg_callV (fun w h => zg_tb_lw w h) zg_tb_all S hK zg_Km qm520 zw4_230 zy_yX11_mark_V (ci := 11) (by decide +kernel) (hK.2.1 11 _ rfl).2.1 ⟨rfl, rfl⟩ (zk_dg_ok qdo_law (by decide +kernel)), List.forall_mem_cons.mpr ⟨zg_callV (fun w h => zg_tb_lw w h) zg_tb_all S hK zg_Km qm521 zw7_106 zy_yX12_mark_V (ci := 12) (by decide +kernel) (hK.2.1 12 _ rfl).2.1 ⟨rfl, rfl⟩ (zk_dg_ok qdo_law (by decide +kernel)), List.forall_mem_cons.mpr ⟨zg_callV (fun w h => zg_tb_lw w h) zg_tb_all S hK zg_Km qm523 zw4_238 zy_yX11_weight_V (ci := 11) (by decide +kernel) (hK.2.1 11 _ rfl).2.1 ⟨rfl, rfl⟩ (zk_dg_ok qdo_law (by decide +kernel)), List.forall_mem_cons.mpr ⟨zg_callV (fun w h => zg_tb_lw w h) zg_tb_all S hK zg_Km qm525 zw7_110 zy_yX12_weight_V (ci := 12) (by decide +kernel) (hK.2.1 12 _ rfl).2.1 ⟨rfl, rfl⟩ (zk_dg_ok qdo_law (by decide +kernel)), List.forall_mem_cons.mpr ⟨zg_callV (fun w h => zg_tb_lw w h) zg_tb_all S hK zg_Km qm526 zw5_7 zy_yX11_decides_V (ci := 11) (by decide +kernel) (hK.2.1 11 _ rfl).2.1 ⟨rfl, rfl⟩ (zk_dg_ok qdo_law (by decide +kernel)), List.forall_mem_cons.mpr ⟨zg_callV (fun w h => zg_tb_lw w h) zg_tb_all S hK zg_Km qm528 zw7_140 zy_yX12_decides_V (ci := 12) (by decide +kernel) (hK.2.1 12 _ rfl).2.1 ⟨rfl, rfl⟩ (zk_dg_ok qdo_law (by decide +kernel)), List.forall_mem_cons.mpr ⟨zg_callV (fun w h => zg_tb_lw w h) zg_tb_all S hK zg_Km qm529 zw5_11 zy_yX11_moved_V (ci := 11) (by decide +kernel) (hK.2.1 11 _ rfl).2.1 ⟨rfl, rfl⟩ (zk_dg_ok qdo_law (by decide +kernel)), List.forall_mem_cons.mpr ⟨zg_callV (fun w h => zg_tb_lw w h) zg_tb_all S hK zg_Km qm530 zw7_144 zy_yX12_moved_V (ci := 12) (by decide +kernel) (hK.2.1 12 _ rfl).2.1 ⟨rfl, rfl⟩ (zk_dg_ok qdo_law (by decide +kernel)), List.forall_mem_cons.mpr ⟨zg_callV (fun w h => zg_tb_lw w h) zg_tb_all S hK zg_Km qm534 zw5_15 zy_yX11_lose_V (ci := 11) (by decide +kernel) (hK.2.1 11 _ rfl).2.1 ⟨rfl, rfl⟩ (zk_dg_ok qdo_law (by decide +kernel)), List.forall_mem_cons.mpr ⟨zg_callV (fun w h => zg_tb_lw w h) zg_tb_all S hK zg_Km qm538 zw7_148 zy_yX12_lose_V (ci := 12) (by decide +kernel) (hK.2.1 12 _ rfl).2.1 ⟨rfl, rfl⟩ (zk_dg_ok qdo_law (by decide +kernel)), List.forall_mem_cons.mpr ⟨zg_callV (fun w h => zg_tb_lw w h) zg_tb_all S hK zg_Km qm539 zw5_31 zy_yX11_best_V (ci := 11) (by decide +kernel) (hK.2.1 11 _ rfl).2.1 ⟨rfl, rfl⟩ (zk_dg_ok qdo_law (by decide +kernel)), List.forall_mem_cons.mpr ⟨zg_callV (fun w h => zg_tb_lw w h) zg_tb_all S hK zg_Km qm540 zw7_160 zy_yX12_best_V (ci := 12) (by decide +kernel) (hK.2.1 12 _ rfl).2.1 ⟨rfl, rfl⟩ (zk_dg_ok qdo_law (by decide +kernel)), List.forall_mem_cons.mpr ⟨zg_callV (fun w h => zg_tb_lw w h) zg_tb_all S hK zg_Km qm542 zw5_35 zy_yX11_path_V (ci := 11) (by decide +kernel) (hK.2.1 11 _ rfl).2.1 ⟨rfl, rfl⟩ (zk_dg_ok qdo_law (by decide +kernel)), List.forall_mem_cons.mpr ⟨zg_callV (fun w h => zg_tb_lw w h) zg_tb_all S hK zg_Km qm544 zw7_230 zy_yX12_path_V (ci := 12) (by decide +kernel) (hK.2.1 12 _ rfl).2.1 ⟨rfl, rfl⟩ (zk_dg_ok qdo_law (by decide +kernel)), List.forall_mem_cons.mpr ⟨zg_callV (fun w h => zg_tb_lw w h) zg_tb_all S hK zg_Km qm546 zw5_43 zy_yX11_falsely_V (ci := 11) (by decide +kernel) (hK.2.1 11 _ rfl).2.1 ⟨rfl, rfl⟩ (zk_dg_ok qdo_law (by decide +kernel)), List.forall_mem_cons.mpr ⟨zg_callV (fun w h => zg_tb_lw w h) zg_tb_all S hK zg_Km qm547 zw7_234 zy_yX12_falsely_V (ci := 12) (by decide +kernel) (hK.2.1 12 _ rfl).2.1 ⟨rfl, rfl⟩ (zk_dg_ok qdo_law (by decide +kernel)), List.forall_mem_cons.mpr ⟨zg_callV (fun w h => zg_tb_lw w h) zg_tb_all S hK zg_Km qm548 zw5_47 zy_yX11_give_V (ci := 11) (by decide +kernel) (hK.2.1 11 _ rfl).2.1 ⟨rfl, rfl⟩ (zk_dg_ok qdo_law (by decide +kernel)), List.forall_mem_cons.mpr ⟨zg_callV (fun w h => zg_tb_lw w h) zg_tb_all S hK zg_Km qm550 zw6_156 zy_yX12_give_V (ci := 12) (by decide +kernel) (hK.2.1 12 _ rfl).2.1 ⟨rfl, rfl⟩ (zk_dg_ok qdo_law (by decide +kernel)), List.forall_mem_cons.mpr ⟨zg_callV (fun w h => zg_tb_lw w h) zg_tb_all S hK zg_Km qm556 zw5_51 zy_yX11_spread_V (ci := 11) (by decide +kernel) (hK.2.1 11 _ rfl).2.1 ⟨rfl, rfl⟩ (zk_dg_ok qdo_law (by decide +kernel)), List.forall_mem_cons.mpr ⟨zg_callV (fun w h => zg_tb_lw w h) zg_tb_all S hK zg_Km qm560 zw7_238 zy_yX12_spread_V (ci := 12) (by decide +kernel) (hK.2.1 12 _ rfl).2.1 ⟨rfl, rfl⟩ (zk_dg_ok qdo_law (by decide +kernel)), List.forall_mem_cons.mpr ⟨zg_callV (fun w h => zg_tb_lw w h) zg_tb_all S hK zg_Km qm565 zw5_72 zy_yX11_swap_V (ci := 11) (by decide +kernel) (hK.2.1 11 _ rfl).2.1 ⟨rfl, rfl⟩ (zk_dg_ok qdo_law (by decide +kernel)), List.forall_mem_cons.mpr ⟨zg_callV (fun w h => zg_tb_lw w h) zg_tb_all S hK zg_Km qm568 zw8_7 zy_yX12_swap_V (ci := 12) (by decide +kernel) (hK.2.1 12 _ rfl).2.1 ⟨rfl, rfl⟩ (zk_dg_ok qdo_law (by decide +kernel)), List.forall_mem_cons.mpr ⟨zg_callV (fun w h => zg_tb_lw w h) zg_tb_all S hK zg_Km qm577 zw5_95 zy_yX11_round_V (ci := 11) (by decide +kernel) (hK.2.1 11 _ rfl).2.1 ⟨rfl, rfl⟩ (zk_dg_ok qdo_law (by decide +kernel)), List.forall_mem_cons.mpr ⟨zg_callV (fun w h => zg_tb_lw w h) zg_tb_all S hK zg_Km qm586 zw8_11 zy_yX12_round_V (ci := 12) (by decide +kernel) (hK.2.1 12 _ rfl).2.1 ⟨rfl, rfl⟩ (zk_dg_ok qdo_law (by decide +kernel)), List.forall_mem_cons.mpr ⟨zg_callV (fun w h => zg_tb_lw w h) zg_tb_all S hK zg_Km qm587 zw5_109 zy_yX11_ends_V (ci := 11) (by decide +kernel) (hK.2.1 11 _ rfl).2.1 ⟨rfl, rfl⟩ (zk_dg_ok qdo_law (by decide +kernel)), List.forall_mem_cons.mpr ⟨zg_callV (fun w h => zg_tb_lw w h) zg_tb_all S hK zg_Km qm592 zw8_23 zy_yX12_ends_V (ci := 12) (by decide +kernel) (hK.2.1 12 _ rfl).2.1 ⟨rfl, rfl⟩ (zk_dg_ok qdo_law (by decide +kernel)), List.forall_mem_cons.mpr ⟨zg_callV (fun w h => zg_tb_lw w h) zg_tb_all S hK zg_Km qm598 zw5_114 zy_yX11_hands_V (ci := 11) (by decide +kernel) (hK.2.1 11 _ rfl).2.1 ⟨rfl, rfl⟩ (zk_dg_ok qdo_law (by decide +kernel)), List.forall_mem_cons.mpr ⟨zg_callV (fun w h => zg_tb_lw w h) zg_tb_all S hK zg_Km qm600 zw8_28 zy_yX12_hands_V (ci := 12) (by decide +kernel) (hK.2.1 12 _ rfl).2.1 ⟨rfl, rfl⟩ (zk_dg_ok qdo_law (by decide +kernel)), List.forall_mem_cons.mpr ⟨zg_callV (fun w h => zg_tb_lw w h) zg_tb_all S hK zg_Km qm601 zw5_128 zy_yX11_measure_V (ci := 11) (by decide +kernel) (hK.2.1 11 _ rfl).2.1 ⟨rfl, rfl⟩ (zk_dg_ok qdo_law (by decide +kernel)), List.forall_mem_cons.mpr ⟨zg_callV (fun w h => zg_tb_lw w h) zg_tb_all S hK zg_Km qm603 zw8_36 zy_yX12_measure_V (ci := 12) (by decide +kernel) (hK.2.1 12 _ rfl).2.1 ⟨rfl, rfl⟩ (zk_dg_ok qdo_law (by decide +kernel)), List.forall_mem_cons.mpr ⟨zg_callV (fun w h => zg_tb_lw w h) zg_tb_all S hK zg_Km qm608 zw5_133 zy_yX11_plan_V (ci := 11) (by decide +kernel) (hK.2.1 11 _ rfl).2.1 ⟨rfl, rfl⟩ (zk_dg_ok qdo_law (by decide +kernel)), List.forall_mem_cons.mpr ⟨zg_callV (fun w h => zg_tb_lw w h) zg_tb_all S hK zg_Km qm614 zw8_41 zy_yX12_plan_V (ci := 12) (by decide +kernel) (hK.2.1 12 _ rfl).2.1 ⟨rfl, rfl⟩ (zk_dg_ok qdo_law (by decide +kernel)), List.forall_mem_cons.mpr ⟨zg_callV (fun w h => zg_tb_lw w h) zg_tb_all S hK zg_Km qm616 zw5_145 zy_yX11_count_V (ci := 11) (by decide +kernel) (hK.2.1 11 _ rfl).2.1 ⟨rfl, rfl⟩ (zk_dg_ok qdo_law (by decide +kernel)), List.forall_mem_cons.mpr ⟨zg_callV (fun w h => zg_tb_lw w h) zg_tb_all S hK zg_Km qm618 zw8_49 zy_yX12_count_V (ci := 12) (by decide +kernel) (hK.2.1 12 _ rfl).2.1 ⟨rfl, rfl⟩ (zk_dg_ok qdo_law (by decide +kernel)), fun _ h => absurd h List.not_mem_nil⟩⟩⟩⟩⟩⟩⟩⟩⟩⟩⟩⟩⟩⟩⟩⟩⟩⟩⟩⟩⟩⟩⟩⟩⟩⟩⟩⟩⟩⟩⟩⟩⟩⟩⟩⟩⟩⟩⟩⟩⟩⟩⟩⟩⟩⟩⟩⟩⟩⟩⟩⟩⟩⟩⟩⟩⟩⟩⟩⟩⟩⟩⟩⟩⟩⟩⟩⟩⟩⟩⟩⟩⟩⟩⟩
set_option maxHeartbeats 4000000 in
set_option maxRecDepth 100000 in
theorem lw_case (C0 : lw_At p s m meth c b L xs) (hK : zg_K D s.heap.size s.heap s) {q : Nat} (hrun : zk_run qK qPL code 4 (zk_cmx qCL 168 1635) (some .boolean) [(18, qLs, [((3072, none, some 3) : zk_M)], 168, 1635)] (some [((3072, none, some 3) : zk_M)]) 200 true 0 0 q qLc = true) {cells slots k : Nat} (hc : cells + 168 ≤ qCL.2.2.2.1) (hs : slots + 1635 ≤ qCL.2.2.2.2) (ih : ∀ k', k = k' + 1 → zk_HW p l e room_1 s m #[Value.ref b] below meth c (lw_Z below #[Value.ref b] s) qK D s.heap.size s.heap 4 qCL G0 s.heap (fun _ => .ref b) 18 qLs ((3072, none, some 3) : zk_M) (cells + 168) (slots + 1635) k') : zk_HW p l e room_1 s m #[Value.ref b] below meth c (lw_Z below #[Value.ref b] s) qK D s.heap.size s.heap 4 qCL G0 s.heap (fun _ => .ref b) q qLc ((3072, none, some 3) : zk_M) cells slots k := by
  obtain ⟨hx, hb, hr, hml, hown, hts, hX, hbl, hlocks, hgv⟩ := id C0
  exact zk_turn_case (Q := lw_Z below #[Value.ref b] s) (v := fun _ => .ref b) hx hb (zg_wd hK) (lw_ok C0 hK) rfl rfl hr hlocks lw_hQ hrun (by decide +kernel) (by decide +kernel) hc hs ih
set_option maxHeartbeats 4000000 in
set_option maxRecDepth 100000 in
theorem lw_caseR (C0 : lw_At p s m meth c b L xs) (hK : zg_K D s.heap.size s.heap s) {cells slots k : Nat} (hc : cells + 168 ≤ qCL.2.2.2.1) (hs : slots + 1635 ≤ qCL.2.2.2.2) (ih : ∀ k', k = k' + 1 → zk_HW p l e room_1 s m #[Value.ref b] below meth c (lw_Z below #[Value.ref b] s) qK D s.heap.size s.heap 4 qCL G0 s.heap (fun _ => .ref b) 18 qLs ((3072, none, some 3) : zk_M) (cells + 168) (slots + 1635) k') : zk_HW p l e room_1 s m #[Value.ref b] below meth c (lw_Z below #[Value.ref b] s) qK D s.heap.size s.heap 4 qCL G0 s.heap (fun _ => .ref b) 1529 qLcR ((3072, none, some 3) : zk_M) cells slots k := by
  obtain ⟨hx, hb, hr, hml, hown, hts, hX, hbl, hlocks, hgv⟩ := id C0
  exact zk_turn_case (Q := lw_Z below #[Value.ref b] s) (v := fun _ => .ref b) hx hb (zg_wd hK) (lw_ok C0 hK) rfl rfl hr hlocks lw_hQ ql_258_R (by decide +kernel) (by decide +kernel) hc hs ih
set_option maxHeartbeats 4000000 in
set_option maxRecDepth 100000 in
theorem lw_cR (hL : L ≤ 3072) (C0 : lw_At p s m meth c b L xs) (hK : zg_K D s.heap.size s.heap s) (hG0 : G0 b = 1) {cells slots k : Nat} (hc : cells + 168 ≤ qCL.2.2.2.1) (hs : slots + 1635 ≤ qCL.2.2.2.2) (ih : ∀ k', k = k' + 1 → zk_HW p l e room_1 s m #[Value.ref b] below meth c (lw_Z below #[Value.ref b] s) qK D s.heap.size s.heap 4 qCL G0 s.heap (fun _ => .ref b) 18 qLs ((3072, none, some 3) : zk_M) (cells + 168) (slots + 1635) k') : zk_HW p l e room_1 s m #[Value.ref b] below meth c (lw_Z below #[Value.ref b] s) qK D s.heap.size s.heap 4 qCL G0 s.heap (fun _ => .ref b) 258 qLc ((3072, none, some 3) : zk_M) cells slots k := by
  intro G H locs ls vs v' hk hp he hl hF hLS
  have hX := C0.2.2.2.2.2.2.1
  have hbl := C0.2.2.2.2.2.2.2.1
  have e0 : v' 0 = .ref b := (zk_LS_own hLS).2 0 (by decide)
  have hvs : vs = [] := by rw [(zk_LS_stk hLS).1]; rfl
  subst hvs
  obtain ⟨xo, ex, gx, -⟩ := zk_gr (zk_F_ty hF 1) rfl rfl
  have gx : G xo = 2 := gx
  obtain ⟨mo, em, gm, -⟩ := zk_gr (zk_F_ty hF 2) rfl rfl
  have gm : G mo = 57 := gm
  obtain ⟨no, en, gn, -⟩ := zk_gr (zk_F_ty hF 4) rfl rfl
  have gn : G no = 4 := gn
  obtain ⟨iv, ei, i0, i1⟩ := zk_gi (zk_F_ty hF 3) rfl
  have i0 : 0 ≤ iv.toInt := i0
  obtain ⟨lv5, el, -, -⟩ := zk_gi (zk_F_ty hF 19) rfl
  have hrel := zk_F_le hF (k := 3) (y := 3) (z := 19) (c := -6) (by decide +kernel)
  rw [ei, el] at hrel
  have hrel : iv.toInt ≤ lv5.toInt + -6 := hrel
  obtain ⟨-, -, a2, cell2, r1, -, -, r4, r5⟩ := zk_F_ln hF (0, 19) (by decide +kernel)
  have r1 : v' 0 = .ref a2 := r1
  rw [e0] at r1; cases r1
  have r5 : zk_i (v' 19) = (cell2.slots.size : Int) := r5
  rw [el] at r5
  have r5 : lv5.toInt = (cell2.slots.size : Int) := r5
  have hLs : cell2.slots.size = L := by
    obtain ⟨scr, x1, -, -, x4, -⟩ := hX
    rw [hp.2.1 b hbl, x1] at r4; cases r4
    exact x4
  obtain ⟨j, hj⟩ := zq_nat i0
  have hls : lv_has ls 4 [(0, .ref b), (1, .ref xo), (2, .ref mo), (3, .int iv)] := by
    have h2 : lv_has ls 4 [(0, v' 0), (1, v' 1), (2, v' 2), (3, v' 3)] := (zk_LS_loc hLS).1
    rw [e0, ex, em, ei] at h2
    exact h2
  obtain ⟨n', hU, -⟩ := zr_U_of hp gx
  have en' : n' = no := by
    obtain ⟨cu, ⟨u1, -⟩, u4⟩ := id hU
    obtain ⟨-, -, f1⟩ := zk_F_fl hF (1, 0, 4) (by decide +kernel)
    obtain ⟨a1, c1, q1, -, -, -, q2, q3⟩ := zk_fl_real f1 rfl
    have q1 : v' 1 = .ref a1 := q1
    rw [ex] at q1; cases q1
    rw [u1] at q2; cases q2
    have q3 : cu.slots[zk_sl qK D (G xo) 0]? = some (v' 4) := q3
    rw [show zk_sl qK D (G xo) 0 = D.2.1 11 0 by unfold zk_sl; rw [gx]; rfl, u4, en] at q3
    cases q3; rfl
  rw [en'] at hU
  have h5 : zq_1005 D.2.1 G H no (.ref mo) := by
    obtain ⟨-, -, f1⟩ := zk_F_fl hF (4, 1005, 2) (by decide +kernel)
    obtain ⟨a1, c1, q1, -, -, -, q2⟩ := f1
    have q1 : v' 4 = .ref a1 := q1
    rw [en] at q1; cases q1
    rcases q2 with ⟨q2, -⟩ | ⟨-, q2⟩
    · rw [gn] at q2
      exact absurd q2 (by decide +kernel)
    · have q2 : zk_gh qK D G H no 1005 (v' 2) := q2
      rw [em] at q2
      exact zq_at5 hK.1.2.2 q2
  have hkk : ∀ (k k' : Int32) (r r' : Nat) (ca cb : Cell), zr_N D G H no k r ca → zr_M D G H mo k' r' cb → k = k' := by
    intro k k' r r' ca cb hN hM
    obtain ⟨-, cn, ⟨n1, -⟩, n4, -⟩ := hN
    obtain ⟨-, cm, ⟨m1, -⟩, m4, -⟩ := hM
    obtain ⟨-, -, f1⟩ := zk_F_fl hF (4, 6, 16) (by decide +kernel)
    obtain ⟨a1, c1, q1, -, -, -, q2, q3⟩ := zk_fl_real f1 rfl
    have q1 : v' 4 = .ref a1 := q1
    rw [en] at q1; cases q1
    rw [n1] at q2; cases q2
    have q3 : cn.slots[zk_sl qK D (G no) 6]? = some (v' 16) := q3
    rw [show zk_sl qK D (G no) 6 = D.2.1 4 6 by unfold zk_sl; rw [gn]; rfl, n4] at q3
    have q3 : Value.int k = v' 16 := Option.some.inj q3
    obtain ⟨-, -, f2⟩ := zk_F_fl hF (2, 6, 13) (by decide +kernel)
    obtain ⟨a2, c2, t1, -, -, -, t2, t3⟩ := zk_fl_real f2 rfl
    have t1 : v' 2 = .ref a2 := t1
    rw [em] at t1; cases t1
    rw [m1] at t2; cases t2
    have t3 : cm.slots[zk_sl qK D (G mo) 6]? = some (v' 13) := t3
    rw [show zk_sl qK D (G mo) 6 = D.2.1 12 6 by unfold zk_sl; rw [gm]; rfl, m4] at t3
    have t3 : Value.int k' = v' 13 := Option.some.inj t3
    have l1 := zk_F_le hF (k := 3) (y := 16) (z := 13) (c := 0) (by decide +kernel)
    have l2 := zk_F_le hF (k := 3) (y := 13) (z := 16) (c := 0) (by decide +kernel)
    rw [← q3, ← t3] at l1 l2
    have l1 : k.toInt ≤ k'.toInt + 0 := l1
    have l2 : k'.toInt ≤ k.toInt + 0 := l2
    exact Int32.toInt_inj.mp (by omega)
  refine lw_road (j := j) C0 hK hp hl hU gn gm h5 hkk hj ⟨by omega, hL⟩ (by show cells ≤ 600000; have hc : cells + 168 ≤ 600000 := hc; omega) (by show slots ≤ 7302250; have hs : slots + 1635 ≤ 7302250 := hs; omega) hls (fun H1 locs1 ls1 hp1 ev1 gh1 hcl hl1 hls1 => ?_)
  have hls2 : lv_has ls1 4 (qLc.2.1.map fun q => (q.1, v' q.2)) := by
    show lv_has ls1 4 [(0, v' 0), (1, v' 1), (2, v' 2), (3, v' 3)]
    rw [e0, ex, em, ei]
    exact hls1
  obtain ⟨cell1, hcl⟩ := hcl
  have hF1 := zk_F_ev (keep := false) (zg_wd hK).1 hF ev1 (fun z => by cases z)
  have hF2 := zk_F_gb (o := 4) (f := 1005) (w := 2) hF1 (by decide +kernel) (by decide +kernel) (by decide) en (by rw [gn]; decide) (by rw [gn]; decide +kernel) hcl (by rw [em]; exact zq_mk5 hK.1.2.2 gh1)
  exact lw_caseR C0 hK hc hs ih G H1 locs1 ls1 [] v' hk hp1 (zk_ev_tr (zg_wd hK).1 he (zk_ev_sb (by decide +kernel) ev1)) hl1 hF2 (zk_LS_af (fs := [(4, 1005, 2)]) (ns := []) (ps := []) (zk_LS_ex (zk_LS_ls hLS hls2)))
set_option maxHeartbeats 4000000 in
set_option maxRecDepth 100000 in
theorem lw_cases (hL : L ≤ 3072) (C0 : lw_At p s m meth c b L xs) (hK : zg_K D s.heap.size s.heap s) (hG0 : G0 b = 1) : ∀ q ∈ qLx, ∀ (cells slots k : Nat), cells + 168 ≤ qCL.2.2.2.1 → slots + 1635 ≤ qCL.2.2.2.2 → (∀ k', k = k' + 1 → zk_HW p l e room_1 s m #[Value.ref b] below meth c (lw_Z below #[Value.ref b] s) qK D s.heap.size s.heap 4 qCL G0 s.heap (fun _ => .ref b) 18 qLs ((3072, none, some 3) : zk_M) (cells + 168) (slots + 1635) k') → zk_HW p l e room_1 s m #[Value.ref b] below meth c (lw_Z below #[Value.ref b] s) qK D s.heap.size s.heap 4 qCL G0 s.heap (fun _ => .ref b) q qLc ((3072, none, some 3) : zk_M) cells slots k :=
  List.forall_mem_cons.mpr ⟨fun cells slots k hc hs ih => lw_case C0 hK ql_196_ hc hs ih, List.forall_mem_cons.mpr ⟨fun cells slots k hc hs ih => lw_case C0 hK ql_209_ hc hs ih, List.forall_mem_cons.mpr ⟨fun cells slots k hc hs ih => lw_cR hL C0 hK hG0 hc hs ih, List.forall_mem_cons.mpr ⟨fun cells slots k hc hs ih => lw_case C0 hK ql_291_ hc hs ih, List.forall_mem_cons.mpr ⟨fun cells slots k hc hs ih => lw_case C0 hK ql_340_ hc hs ih, List.forall_mem_cons.mpr ⟨fun cells slots k hc hs ih => lw_case C0 hK ql_403_ hc hs ih, List.forall_mem_cons.mpr ⟨fun cells slots k hc hs ih => lw_case C0 hK ql_426_ hc hs ih, List.forall_mem_cons.mpr ⟨fun cells slots k hc hs ih => lw_case C0 hK ql_449_ hc hs ih, List.forall_mem_cons.mpr ⟨fun cells slots k hc hs ih => lw_case C0 hK ql_508_ hc hs ih, List.forall_mem_cons.mpr ⟨fun cells slots k hc hs ih => lw_case C0 hK ql_577_ hc hs ih, List.forall_mem_cons.mpr ⟨fun cells slots k hc hs ih => lw_case C0 hK ql_590_ hc hs ih, List.forall_mem_cons.mpr ⟨fun cells slots k hc hs ih => lw_case C0 hK ql_623_ hc hs ih, List.forall_mem_cons.mpr ⟨fun cells slots k hc hs ih => lw_case C0 hK ql_676_ hc hs ih, List.forall_mem_cons.mpr ⟨fun cells slots k hc hs ih => lw_case C0 hK ql_699_ hc hs ih, List.forall_mem_cons.mpr ⟨fun cells slots k hc hs ih => lw_case C0 hK ql_768_ hc hs ih, List.forall_mem_cons.mpr ⟨fun cells slots k hc hs ih => lw_case C0 hK ql_801_ hc hs ih, List.forall_mem_cons.mpr ⟨fun cells slots k hc hs ih => lw_case C0 hK ql_854_ hc hs ih, List.forall_mem_cons.mpr ⟨fun cells slots k hc hs ih => lw_case C0 hK ql_877_ hc hs ih, List.forall_mem_cons.mpr ⟨fun cells slots k hc hs ih => lw_case C0 hK ql_910_ hc hs ih, List.forall_mem_cons.mpr ⟨fun cells slots k hc hs ih => lw_case C0 hK ql_933_ hc hs ih, List.forall_mem_cons.mpr ⟨fun cells slots k hc hs ih => lw_case C0 hK ql_956_ hc hs ih, List.forall_mem_cons.mpr ⟨fun cells slots k hc hs ih => lw_case C0 hK ql_1005_ hc hs ih, List.forall_mem_cons.mpr ⟨fun cells slots k hc hs ih => lw_case C0 hK ql_1038_ hc hs ih, List.forall_mem_cons.mpr ⟨fun cells slots k hc hs ih => lw_case C0 hK ql_1081_ hc hs ih, List.forall_mem_cons.mpr ⟨fun cells slots k hc hs ih => lw_case C0 hK ql_1130_ hc hs ih, List.forall_mem_cons.mpr ⟨fun cells slots k hc hs ih => lw_case C0 hK ql_1173_ hc hs ih, List.forall_mem_cons.mpr ⟨fun cells slots k hc hs ih => lw_case C0 hK ql_1196_ hc hs ih, List.forall_mem_cons.mpr ⟨fun cells slots k hc hs ih => lw_case C0 hK ql_1239_ hc hs ih, List.forall_mem_cons.mpr ⟨fun cells slots k hc hs ih => lw_case C0 hK ql_1262_ hc hs ih, List.forall_mem_cons.mpr ⟨fun cells slots k hc hs ih => lw_case C0 hK ql_1295_ hc hs ih, List.forall_mem_cons.mpr ⟨fun cells slots k hc hs ih => lw_case C0 hK ql_1318_ hc hs ih, List.forall_mem_cons.mpr ⟨fun cells slots k hc hs ih => lw_case C0 hK ql_1331_ hc hs ih, List.forall_mem_cons.mpr ⟨fun cells slots k hc hs ih => lw_case C0 hK ql_1374_ hc hs ih, List.forall_mem_cons.mpr ⟨fun cells slots k hc hs ih => lw_case C0 hK ql_1427_ hc hs ih, List.forall_mem_cons.mpr ⟨fun cells slots k hc hs ih => lw_case C0 hK ql_1450_ hc hs ih, List.forall_mem_cons.mpr ⟨fun cells slots k hc hs ih => lw_case C0 hK ql_1473_ hc hs ih, List.forall_mem_cons.mpr ⟨fun cells slots k hc hs ih => lw_case C0 hK ql_1506_ hc hs ih, List.forall_mem_cons.mpr ⟨fun cells slots k hc hs ih => lw_case C0 hK ql_1529_ hc hs ih, fun _ h => absurd h List.not_mem_nil⟩⟩⟩⟩⟩⟩⟩⟩⟩⟩⟩⟩⟩⟩⟩⟩⟩⟩⟩⟩⟩⟩⟩⟩⟩⟩⟩⟩⟩⟩⟩⟩⟩⟩⟩⟩⟩⟩
set_option maxHeartbeats 4000000 in
set_option maxRecDepth 100000 in
theorem lw_loop (hL : L ≤ 3072) (C0 : lw_At p s m meth c b L xs) (hK : zg_K D s.heap.size s.heap s) (hG0 : G0 b = 1) : zk_HW p l e room_1 s m #[Value.ref b] below meth c (lw_Z below #[Value.ref b] s) qK D s.heap.size s.heap 4 qCL G0 s.heap (fun _ => .ref b) 18 qLs ((3072, none, some 3) : zk_M) 92 37171 3072 := by
  obtain ⟨hx, hb, hr, hml, hown, hts, hX, hbl, hlocks, hgv⟩ := id C0
  have := zk_turnsX (l := l) (e := e) (C := qCL) (G0 := G0) (Q := lw_Z below #[Value.ref b] s) (v := fun _ => .ref b) (c0 := 92) (s0 := 37171) (n := 3072) hx hb (zg_wd hK) (lw_ok C0 hK) rfl rfl hr hlocks lw_hQ ql_18 (by decide +kernel) (by decide +kernel) (by decide +kernel) (by decide +kernel) (lw_cases hL C0 hK hG0) 3072 (Nat.le_refl _)
  rw [Nat.sub_self] at this
  exact this
set_option maxHeartbeats 4000000 in
set_option maxRecDepth 100000 in
theorem lw_16 (hL : L ≤ 3072) (C0 : lw_At p s m meth c b L xs) (hK : zg_K D s.heap.size s.heap s) (hG0 : G0 b = 1) : ∀ (G : Nat → Nat) (H : Heap) (locs : List Loc) (ls : Array Slot) (vs : List Value) (v' : Nat → Value), zk_hp qK D s.heap.size s.heap G H → zk_ev qK D qCL.2.2.1 G0 s.heap G H → (∀ z ∈ locs, s.heap.size ≤ z.base) → zk_F qK D G H v' qL16 → zk_LS qCL.1.1 (fun _ => .ref b) 4 ls vs v' qL16 → W p l e room_1 s m #[Value.ref b] below meth c H locs 92 37171 (lw_Z below #[Value.ref b] s) (F0 m 16 ls vs) := by
  obtain ⟨hx, hb, hr, hml, hown, hts, hX, hbl, hlocks, hgv⟩ := id C0
  intro G H locs ls vs v' hp he hl hF hLS
  obtain ⟨mo, em, gm, gm0⟩ := zk_gr (zk_F_ty hF 2) rfl rfl
  have gm : G mo = qn_M := gm
  obtain ⟨-, -, f26⟩ := zk_F_fl hF (2, 26, 3) (by decide +kernel)
  obtain ⟨a1, cell, q1, -, -, -, hca, h26⟩ := zk_fl_real f26 rfl
  have q1 : v' 2 = .ref a1 := q1
  rw [em] at q1; cases q1
  have hsl : ∀ f, zk_sl qK D (G mo) f = D.2.1 12 f := fun f => by unfold zk_sl; rw [gm]; rfl
  rw [hsl] at h26
  obtain ⟨z, ez, z0, z1⟩ := zk_gi (zk_F_ty hF 3) rfl
  have z1 : z.toInt ≤ 0 := z1
  have h26 : cell.slots[D.2.1 12 26]? = some (v' 3) := h26
  rw [ez] at h26
  obtain ⟨bc, ccc, h19, hgc, -, hcc⟩ := zq_refM (f := 19) (k := qn_codes) hp gm hca (by decide +kernel)
  obtain ⟨bt, ct, h20, hgt, -, hct⟩ := zq_refM (f := 20) (k := qn_textSize) hp gm hca (by decide +kernel)
  have hgh : zq_1002 qK D.2.1 qn_M qn_codes qn_textSize G H mo (v' 3) := by
    rw [ez]
    exact ⟨cell, ccc, ct, bc, bt, z, z, rfl, gm, hca, h26, h19, hgc, hcc, h20, hgt, hct, fun r hr => absurd hr (by omega)⟩
  have hF2 := zk_F_gb (o := 2) (f := 1002) (w := 3) hF (by decide) (by decide) (by decide) em (by rw [gm]; decide) (by rw [gm]; decide +kernel) hca (zq_mk2 hK.1.2.2 hgh)
  obtain ⟨no, en, gn, -⟩ := zk_gr (zk_F_ty hF 4) rfl rfl
  have gn : G no = 4 := gn
  obtain ⟨k5, r5, ca5, hN⟩ := zr_N_of hp gn
  obtain ⟨k6, r6, cb6, hM⟩ := zr_M_of hp gm
  have hgh5 : zq_1005 D.2.1 G H no (v' 2) := by
    rw [em]
    refine zr_1005_mk hN hM ?_
    obtain ⟨-, cn5, ⟨n1, -⟩, n4, n5, ⟨-, n7, n8⟩, -⟩ := hN
    obtain ⟨-, cm6, ⟨m1, -⟩, m4, m5, ⟨-, m7, m8⟩, -⟩ := hM
    exact zr_rel0 n8 m8 (zr_zero (o := 4) (f := 1) (sy := 18) hF (by decide +kernel) (by decide +kernel) rfl en n1 (by rw [show zk_sl qK D (G no) 1 = D.2.1 4 1 by unfold zk_sl; rw [gn]; rfl]; exact n5) n7) (zr_zero (o := 2) (f := 2) (sy := 19) hF (by decide +kernel) (by decide +kernel) rfl em m1 (by rw [show zk_sl qK D (G mo) 2 = D.2.1 12 2 by unfold zk_sl; rw [gm]; rfl]; exact m5) m7)
  obtain ⟨-, cnn, ⟨hcn, -⟩, -⟩ := id hN
  have hF3 := zk_F_gb (o := 4) (f := 1005) (w := 2) hF2 (by decide +kernel) (by decide +kernel) (by decide) en (by rw [gn]; decide) (by rw [gn]; decide +kernel) hcn (zq_mk5 hK.1.2.2 hgh5)
  exact zk_from (Q := lw_Z below #[Value.ref b] s) (v := fun _ => .ref b) (q0 := (16, qL16g, [], 92, 37171)) (hd := []) (xs := [(18, qLs, [(0, none, none)], 92, 37171)]) hx hb (zg_wd hK) (lw_ok C0 hK) rfl rfl hr hlocks lw_hQ ql_16 (fun q hq G2 H2 locs2 ls2 vs2 v2 b1 b2 b3 b4 b5 => by
    have hq := List.mem_singleton.mp hq
    subst hq
    refine lw_loop hL C0 hK hG0 G2 H2 locs2 ls2 vs2 v2 ?_ b1 b2 b3 b4 b5
    exact zk_mb_ok (n := 3072) b4 (by decide +kernel)) hp he hl hF3 (zk_LS_af (fs := [(4, 1005, 2)]) (ns := []) (ps := []) (zk_LS_af (fs := [(2, 1002, 3)]) (ns := []) (ps := []) hLS))
end LWC
set_option maxHeartbeats 4000000 in
set_option maxRecDepth 100000 in
theorem whole_start {p : Program} {e : Env} {s : State} {m : MethodId} {below : List Frame} {meth : Method} {c : Code} (l : Launch) (hflags : l.flags = flags0) {b L : Nat} {xs : Nat → Int32} (hL : L ≤ 3072) (C0 : lw_At p s m meth c b L xs) : W p l e room_1 s m #[Value.ref b] below meth c s.heap [] 0 0 (lw_Z below #[Value.ref b] s) (entryFrame m ([Value.ref b] : List Value).toArray 4) := by
  obtain ⟨D, G0, hK, hG0, hp0⟩ := lw_start hL C0
  obtain ⟨hx, hb, hr, hml, hown, hts, hX, hbl, hlocks, hgv⟩ := id C0
  have hF : zk_F qK D G0 s.heap (fun _ => Value.ref b) qCL.1 := ⟨fun q hq => by rw [List.mem_singleton.mp hq]; exact ⟨by decide, Or.inl ⟨b, rfl, by rw [hG0]; rfl, by rw [hG0]; decide⟩⟩, (fun q hq => absurd hq List.not_mem_nil), (fun q hq => absurd hq List.not_mem_nil), (fun q hq => absurd hq List.not_mem_nil), (fun q hq => absurd hq List.not_mem_nil), (fun q hq => absurd hq List.not_mem_nil), (fun x hx => absurd (show (none : Option _) = some x from hx) (by intro h; cases h))⟩
  have h := zk_whole (Q := lw_Z below #[Value.ref b] s) (G0 := G0) (H0 := s.heap) (v := fun _ => .ref b) (l := l) (e := e) hx hb (zg_wd hK) (lw_ok C0 hK) rfl rfl hr hlocks lw_hQ ql_0 (fun q hq => by
    have hq := List.mem_singleton.mp hq
    subst hq
    exact lw_16 hL C0 hK hG0) hp0 hF
  exact h
