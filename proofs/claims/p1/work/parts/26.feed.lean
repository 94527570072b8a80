/-! BY HAND, 4: feed -/
def yX11_feed : MethodName := ⟨RX11, "feed", "(IIIII)I"⟩
def yX12_byteOf : MethodName := ⟨RX12, "byteOf", "(IIIIII)I"⟩
def yX12_feed : MethodName := ⟨RX12, "feed", "(IIIII)I"⟩
def yX8_bytesIn : MethodName := ⟨RX8, "bytesIn", "(I)I"⟩
def yX8_put : MethodName := ⟨RX8, "put", "(I)V"⟩
theorem zw2_145 : Jvm.Cond.methodLink RX11 116 yX8_bytesIn ∈ zg_tb := zg_m2 (i := 145) (by decide +kernel) rfl
theorem zw2_147 : Jvm.Cond.code yX8_bytesIn prog_10_method_2_code 3 (some .int) ∈ zg_tb := zg_m2 (i := 147) (by decide +kernel) rfl
theorem zw2_146 : Jvm.Cond.static yX8_bytesIn ∈ zg_tb := zg_m2 (i := 146) (by decide +kernel) rfl
theorem zy_yX8_bytesIn_S : (Jvm.Cond.static yX8_bytesIn ∈ zg_tb ∧ Jvm.Cond.initialized yX8_bytesIn.cls ∈ zg_tb ∧ Jvm.Cond.code yX8_bytesIn prog_10_method_2_code 3 (some .int) ∈ zg_tb) ∧ zg_dm yX8_bytesIn 1 := ⟨⟨zw2_146, zw1_3, zw2_147⟩, by decide +kernel, by decide +kernel, by decide +kernel⟩
theorem zw2_148 : Jvm.Cond.methodLink RX11 123 yX8_put ∈ zg_tb := zg_m2 (i := 148) (by decide +kernel) rfl
theorem zw2_151 : Jvm.Cond.code yX8_put prog_10_method_3_code 4 none ∈ zg_tb := zg_m2 (i := 151) (by decide +kernel) rfl
theorem zw2_149 : Jvm.Cond.instanceMethod yX8_put ∈ zg_tb := zg_m2 (i := 149) (by decide +kernel) rfl
theorem zw2_150 : Jvm.Cond.selects RX8 yX8_put yX8_put ∈ zg_tb := zg_m2 (i := 150) (by decide +kernel) rfl
theorem zy_yX8_put_V : (Jvm.Cond.instanceMethod yX8_put ∈ zg_tb ∧ Jvm.Cond.selects yX8_put.cls yX8_put yX8_put ∈ zg_tb ∧ Jvm.Cond.initialized yX8_put.cls ∈ zg_tb ∧ Jvm.Cond.code yX8_put prog_10_method_3_code 4 none ∈ zg_tb) ∧ zg_dm yX8_put 1 := ⟨⟨zw2_149, zw2_150, zw1_3, zw2_151⟩, by decide +kernel, by decide +kernel, by decide +kernel⟩
theorem zw6_168 : Jvm.Cond.methodLink RX12 177 yX12_byteOf ∈ zg_tb := zg_m6 (i := 168) (by decide +kernel) rfl
theorem zw6_170 : Jvm.Cond.code yX12_byteOf prog_14_method_11_code 7 (some .int) ∈ zg_tb := zg_m6 (i := 170) (by decide +kernel) rfl
theorem zw6_169 : Jvm.Cond.static yX12_byteOf ∈ zg_tb := zg_m6 (i := 169) (by decide +kernel) rfl
theorem zy_yX12_byteOf_S : (Jvm.Cond.static yX12_byteOf ∈ zg_tb ∧ Jvm.Cond.initialized yX12_byteOf.cls ∈ zg_tb ∧ Jvm.Cond.code yX12_byteOf prog_14_method_11_code 7 (some .int) ∈ zg_tb) ∧ zg_dm yX12_byteOf 6 := ⟨⟨zw6_169, zw1_12, zw6_170⟩, by decide +kernel, by decide +kernel, by decide +kernel⟩
set_option maxHeartbeats 4000000 in
set_option maxRecDepth 100000 in
theorem zh_bytesIn {l : Launch} {D : zk_D} {base : Nat} {Hb H : Heap} (w : Int32) : zh_Met l base (zg_K D base Hb) yX8_bytesIn (Jvm.Cond.code yX8_bytesIn prog_10_method_2_code 3 (some .int) :: zg_tb) { frames := 1, cells := 0, slots := 0, locals := 20 } [.int w] H (fun ov H' => ov = some (.int (nI (zf_c w 4))) ∧ H' = H) := by
  refine Met.ofW (cc := prog_10_method_2_code) (maxL := 3) (ret := (some .int)) (by decide +kernel) rfl ?_
  intro p e s m args below meth c s₁ B hml hv
  obtain ⟨rfl, hH, hK⟩ := hv
  subst hH
  have hx := B.exec
  have hb := B.bytes
  have hr := B.returns
  have hlocks := B.notSynchronized
  have hts := atoms_spec (ws := (Jvm.Cond.code yX8_bytesIn prog_10_method_2_code 3 (some .int) :: zg_tb)) B.pre
  have hown : s.vm.findClass RX8 = some m.cls := findClass_of_methodNamed B.named
  have S : CallFix p m c prog_10_method_2_code 3 s _ (Jvm.Cond.code yX8_bytesIn prog_10_method_2_code 3 (some .int) :: zg_tb) RX8 := ⟨hx, hb, hml, hown, hts⟩
  have hl := lv_entry ([.int w]) (n := 3) (Nat.le_of_ble_eq_true rfl)
  rw [lg_entry_eq]
  generalize (lg_sl ([.int w]) ++ List.replicate (3 - (lg_sl ([.int w])).length) Slot.unset).toArray = ls at hl ⊢
  have hl : lv_has ls 3 [(0, .int w)] := hl
  have loop : ∀ (j n : Nat) (ls : Array Slot), j ≤ 4 → n + zf_c w j = zf_c w 4 → lv_has ls 3 [(2, .int (zf_s j)), (1, .int (nI n)), (0, .int w)] → W p l e (headSpec (Jvm.Cond.code yX8_bytesIn prog_10_method_2_code 3 (some .int) :: zg_tb) { frames := 1, cells := 0, slots := 0, locals := 20 }).room s m (([Value.int w] : List Value).toArray) below meth c s.heap [] 0 0 (MQ below (fun _ _ oo tt => ∃ ov, oo = .returned ov ∧ ((fun ov H' => ov = some (.int (nI (zf_c w 4))) ∧ H' = s.heap) ov tt.heap)) (([Value.int w] : List Value).toArray) s 0 0 (fun q => base ≤ q)) (F0 m 5 ls []) := by
    intro j
    induction j with
    | zero =>
      intro n ls hj hn hl
      refine lv_iload_n hx hb (by decide +kernel : decode prog_10_method_2_code 5 = .ok (.iload_n 2, 1)) rfl (lv_at hl 0 rfl) ?_
      refine lv_if_lt (tgt := 33) hx hb (by decide +kernel : decode prog_10_method_2_code 6 = .ok (.ifCond .lt 27, 3)) (by decide) (fun c_1 => ?_) (fun c_1 => ?_)
      · refine lv_iload_n hx hb (by decide +kernel : decode prog_10_method_2_code 33 = .ok (.iload_n 1, 1)) rfl (lv_at hl 1 rfl) ?_
        have e0 : n = zf_c w 4 := hn
        exact W.iret hx hb hr (fun t ht _ => ⟨_, rfl, by rw [e0], ht⟩) (fun q hq => absurd hq List.not_mem_nil) (by decide +kernel : decode prog_10_method_2_code 34 = .ok (.ireturn, 1))
      · exact absurd (by decide : zf_s 0 < 0) c_1
    | succ j ih =>
      intro n ls hj hn hl
      rw [zf_c_s] at hn
      refine lv_iload_n hx hb (by decide +kernel : decode prog_10_method_2_code 5 = .ok (.iload_n 2, 1)) rfl (lv_at hl 0 rfl) ?_
      refine lv_if_lt (tgt := 33) hx hb (by decide +kernel : decode prog_10_method_2_code 6 = .ok (.ifCond .lt 27, 3)) (by decide) (fun c_1 => ?_) (fun c_1 => ?_)
      · exact absurd c_1 (zf_s0 (by omega))
      · refine lv_iload_n hx hb (by decide +kernel : decode prog_10_method_2_code 9 = .ok (.iload_n 1, 1)) rfl (lv_at hl 1 rfl) ?_
        refine lv_iload_n hx hb (by decide +kernel : decode prog_10_method_2_code 10 = .ok (.iload_n 0, 1)) rfl (lv_at hl 2 rfl) ?_
        refine lv_iload_n hx hb (by decide +kernel : decode prog_10_method_2_code 11 = .ok (.iload_n 2, 1)) rfl (lv_at hl 0 rfl) ?_
        refine lv_iushr (v := (zf_ushr w (zf_s (j + 1)))) hx hb (by decide +kernel : decode prog_10_method_2_code 12 = .ok (.iushr, 1)) rfl ?_
        refine lv_sipush (v := 255) hx hb (by decide +kernel : decode prog_10_method_2_code 13 = .ok (.sipush 255, 3)) (by decide) ?_
        refine lv_iand hx hb (by decide +kernel : decode prog_10_method_2_code 16 = .ok (.iand, 1)) ?_
        refine lv_if_eq (tgt := 24) hx hb (by decide +kernel : decode prog_10_method_2_code 17 = .ok (.ifCond .eq 7, 3)) (by decide) (fun c_2 => ?_) (fun c_2 => ?_)
        · refine lv_iconst (v := 0) hx hb (by decide +kernel : decode prog_10_method_2_code 24 = .ok (.iconst 0, 1)) (by decide) ?_
          refine lv_iadd hx hb (by decide +kernel : decode prog_10_method_2_code 25 = .ok (.iadd, 1)) ?_
          refine lv_istore_n (lv' := [(1, .int ((nI n) + 0)), (2, .int (zf_s (j + 1))), (0, .int w)]) hx hb (by decide +kernel : decode prog_10_method_2_code 26 = .ok (.istore_n 1, 1)) rfl hl (by decide) rfl (fun ls hl => ?_)
          refine lv_iinc (v := ((zf_s (j + 1)) + (-8))) (lv' := [(2, .int ((zf_s (j + 1)) + (-8))), (1, .int ((nI n) + 0)), (0, .int w)]) hx hb (by decide +kernel : decode prog_10_method_2_code 27 = .ok (.iinc 2 (-8), 3)) hl (k := 1) rfl rfl (by decide) rfl (fun ls hl => ?_)
          refine lv_goto (tgt := 5) hx hb (by decide +kernel : decode prog_10_method_2_code 30 = .ok (.goto (-25), 3)) (by decide) ?_
          rw [zf_ss (show j < 4 by omega)] at hl
          have ek : nI n + 0 = nI n := Int32.add_zero _
          have et : zf_t w (zf_s (j + 1)) = 0 := zf_t0 c_2
          rw [ek] at hl
          rw [et] at hn
          exact ih n ls (by omega) (by omega) (lv_sub hl [0, 1, 2] rfl)
        · refine lv_iconst (v := 1) hx hb (by decide +kernel : decode prog_10_method_2_code 20 = .ok (.iconst 1, 1)) (by decide) ?_
          refine lv_goto (tgt := 25) hx hb (by decide +kernel : decode prog_10_method_2_code 21 = .ok (.goto 4, 3)) (by decide) ?_
          refine lv_iadd hx hb (by decide +kernel : decode prog_10_method_2_code 25 = .ok (.iadd, 1)) ?_
          refine lv_istore_n (lv' := [(1, .int ((nI n) + 1)), (2, .int (zf_s (j + 1))), (0, .int w)]) hx hb (by decide +kernel : decode prog_10_method_2_code 26 = .ok (.istore_n 1, 1)) rfl hl (by decide) rfl (fun ls hl => ?_)
          refine lv_iinc (v := ((zf_s (j + 1)) + (-8))) (lv' := [(2, .int ((zf_s (j + 1)) + (-8))), (1, .int ((nI n) + 1)), (0, .int w)]) hx hb (by decide +kernel : decode prog_10_method_2_code 27 = .ok (.iinc 2 (-8), 3)) hl (k := 1) rfl rfl (by decide) rfl (fun ls hl => ?_)
          refine lv_goto (tgt := 5) hx hb (by decide +kernel : decode prog_10_method_2_code 30 = .ok (.goto (-25), 3)) (by decide) ?_
          rw [zf_ss (show j < 4 by omega)] at hl
          have ek : nI n + 1 = nI (n + 1) := nI_1 n
          have et : zf_t w (zf_s (j + 1)) = 1 := zf_t1 c_2
          rw [ek] at hl
          rw [et] at hn
          exact ih (n + 1) ls (by omega) (by omega) (lv_sub hl [0, 1, 2] rfl)
  refine lv_iconst (v := 0) hx hb (by decide +kernel : decode prog_10_method_2_code 0 = .ok (.iconst 0, 1)) (by decide) ?_
  refine lv_istore_n (lv' := [(1, .int 0), (0, .int w)]) hx hb (by decide +kernel : decode prog_10_method_2_code 1 = .ok (.istore_n 1, 1)) rfl hl (by decide) rfl (fun ls hl => ?_)
  refine lv_bipush (v := 24) hx hb (by decide +kernel : decode prog_10_method_2_code 2 = .ok (.bipush 24, 2)) (by decide) ?_
  refine lv_istore_n (lv' := [(2, .int 24), (1, .int 0), (0, .int w)]) hx hb (by decide +kernel : decode prog_10_method_2_code 4 = .ok (.istore_n 2, 1)) rfl hl (by decide) rfl (fun ls hl => ?_)
  exact loop 4 0 ls (Nat.le_refl 4) (Nat.zero_add _) (lv_sub hl [0, 1, 2] rfl)
set_option maxHeartbeats 4000000 in
set_option maxRecDepth 100000 in
theorem zh_put {l : Launch} {D : zk_D} {base : Nat} {Hb H : Heap} (t q : Nat) (w : Int32) (n : Nat) (hn : n + 4 ≤ 160) (ht : base ≤ t) (hq : base ≤ q) (hT : zt_Tp D 8 0 1 3 160 H t q (nI n)) (hne : D.2.1 8 1 ≠ D.2.1 8 0) : zh_Met l base (zg_K D base Hb) yX8_put (Jvm.Cond.code yX8_put prog_10_method_3_code 4 none :: zg_tb) { frames := 1, cells := 0, slots := 0, locals := 20 } [.ref t, .int w] H (fun ov H' => ov = none ∧ zt_Tp D 8 0 1 3 160 H' t q (nI (n + zf_c w 4)) ∧ H'.size = H.size ∧ ∀ x : Nat, x ≠ t → x ≠ q → H'[x]? = H[x]?) := by
  refine Met.ofW (cc := prog_10_method_3_code) (maxL := 4) (ret := none) (by decide +kernel) rfl ?_
  intro p e s m args below meth c s₁ B hml hv
  obtain ⟨rfl, hH, hK⟩ := hv
  subst hH
  have hx := B.exec
  have hb := B.bytes
  have hr := B.returns
  have hlocks := B.notSynchronized
  have hts := atoms_spec (ws := (Jvm.Cond.code yX8_put prog_10_method_3_code 4 none :: zg_tb)) B.pre
  have hown : s.vm.findClass RX8 = some m.cls := findClass_of_methodNamed B.named
  have S : CallFix p m c prog_10_method_3_code 4 s _ (Jvm.Cond.code yX8_put prog_10_method_3_code 4 none :: zg_tb) RX8 := ⟨hx, hb, hml, hown, hts⟩
  have hl := lv_entry ([.ref t, .int w]) (n := 4) (Nat.le_of_ble_eq_true rfl)
  rw [lg_entry_eq]
  generalize (lg_sl ([.ref t, .int w]) ++ List.replicate (4 - (lg_sl ([.ref t, .int w])).length) Slot.unset).toArray = ls at hl ⊢
  have hl : lv_has ls 4 [(0, .ref t), (1, .int w)] := hl
  have loop : ∀ (j n1 : Nat) (H1 : Heap) (locs : List Loc) (ls : Array Slot), j ≤ 4 → n1 + j ≤ 160 → n1 + zf_c w j = n + zf_c w 4 → zt_Tp D 8 0 1 3 160 H1 t q (nI n1) → H1.size = s.heap.size → (∀ x : Nat, x ≠ t → x ≠ q → H1[x]? = s.heap[x]?) → (∀ z ∈ locs, base ≤ z.base) → lv_has ls 4 [(2, .int (zf_s j)), (0, .ref t), (1, .int w)] → W p l e (headSpec (Jvm.Cond.code yX8_put prog_10_method_3_code 4 none :: zg_tb) { frames := 1, cells := 0, slots := 0, locals := 20 }).room s m (([Value.ref t, Value.int w] : List Value).toArray) below meth c H1 locs 0 0 (MQ below (fun _ _ oo tt => ∃ ov, oo = .returned ov ∧ ((fun ov H' => ov = none ∧ zt_Tp D 8 0 1 3 160 H' t q (nI (n + zf_c w 4)) ∧ H'.size = s.heap.size ∧ ∀ x : Nat, x ≠ t → x ≠ q → H'[x]? = s.heap[x]?) ov tt.heap)) (([Value.ref t, Value.int w] : List Value).toArray) s 0 0 (fun q => base ≤ q)) (F0 m 3 ls []) := by
    intro j
    induction j with
    | zero =>
      intro n1 H1 locs ls hj h160 hc hT1 hz hsame hlc hl
      refine lv_iload_n hx hb (by decide +kernel : decode prog_10_method_3_code 3 = .ok (.iload_n 2, 1)) rfl (lv_at hl 0 rfl) ?_
      refine lv_if_lt (tgt := 56) hx hb (by decide +kernel : decode prog_10_method_3_code 4 = .ok (.ifCond .lt 52, 3)) (by decide) (fun c_1 => ?_) (fun c_1 => ?_)
      · have e0 : n1 = n + zf_c w 4 := hc
        exact W.vret hx hb hr (fun t1 ht1 _ => ⟨_, rfl, rfl, by rw [ht1, ← e0]; exact hT1, by rw [ht1]; exact hz, by rw [ht1]; exact hsame⟩) hlc (by decide +kernel : decode prog_10_method_3_code 56 = .ok (.return_, 1))
      · exact absurd (by decide : zf_s 0 < 0) c_1
    | succ j ih =>
      intro n1 H1 locs ls hj h160 hc hT1 hz hsame hlc hl
      rw [zf_c_s] at hc
      refine lv_iload_n hx hb (by decide +kernel : decode prog_10_method_3_code 3 = .ok (.iload_n 2, 1)) rfl (lv_at hl 0 rfl) ?_
      refine lv_if_lt (tgt := 56) hx hb (by decide +kernel : decode prog_10_method_3_code 4 = .ok (.ifCond .lt 52, 3)) (by decide) (fun c_1 => ?_) (fun c_1 => ?_)
      · exact absurd c_1 (zf_s0 (by omega))
      · refine lv_iload_n hx hb (by decide +kernel : decode prog_10_method_3_code 7 = .ok (.iload_n 1, 1)) rfl (lv_at hl 2 rfl) ?_
        refine lv_iload_n hx hb (by decide +kernel : decode prog_10_method_3_code 8 = .ok (.iload_n 2, 1)) rfl (lv_at hl 0 rfl) ?_
        refine lv_iushr (v := (zf_ushr w (zf_s (j + 1)))) hx hb (by decide +kernel : decode prog_10_method_3_code 9 = .ok (.iushr, 1)) rfl ?_
        refine lv_sipush (v := 255) hx hb (by decide +kernel : decode prog_10_method_3_code 10 = .ok (.sipush 255, 3)) (by decide) ?_
        refine lv_iand hx hb (by decide +kernel : decode prog_10_method_3_code 13 = .ok (.iand, 1)) ?_
        refine lv_istore_n (lv' := [(3, .int ((zf_ushr w (zf_s (j + 1))) &&& 255)), (2, .int (zf_s (j + 1))), (0, .ref t), (1, .int w)]) hx hb (by decide +kernel : decode prog_10_method_3_code 14 = .ok (.istore_n 3, 1)) rfl hl (by decide) rfl (fun ls hl => ?_)
        refine lv_iload_n hx hb (by decide +kernel : decode prog_10_method_3_code 15 = .ok (.iload_n 3, 1)) rfl (lv_at hl 0 rfl) ?_
        refine lv_if_eq (tgt := 50) hx hb (by decide +kernel : decode prog_10_method_3_code 16 = .ok (.ifCond .eq 34, 3)) (by decide) (fun c_2 => ?_) (fun c_2 => ?_)
        · refine lv_iinc (v := ((zf_s (j + 1)) + (-8))) (lv' := [(2, .int ((zf_s (j + 1)) + (-8))), (3, .int ((zf_ushr w (zf_s (j + 1))) &&& 255)), (0, .ref t), (1, .int w)]) hx hb (by decide +kernel : decode prog_10_method_3_code 50 = .ok (.iinc 2 (-8), 3)) hl (k := 1) rfl rfl (by decide) rfl (fun ls hl => ?_)
          refine lv_goto (tgt := 3) hx hb (by decide +kernel : decode prog_10_method_3_code 53 = .ok (.goto (-50), 3)) (by decide) ?_
          rw [zf_ss (show j < 4 by omega)] at hl
          have et : zf_t w (zf_s (j + 1)) = 0 := zf_t0 c_2
          rw [et] at hc
          exact ih n1 H1 locs ls (by omega) (by omega) (by omega) hT1 hz hsame hlc (lv_sub hl [0, 2, 3] rfl)
        · refine lv_aload_n hx hb (by decide +kernel : decode prog_10_method_3_code 19 = .ok (.aload_n 0, 1)) rfl (lv_at hl 2 rfl) ?_
          obtain ⟨co, cq, e1, e2, e3, e4, e5, e6, e7, e8, e9, e10⟩ := id hT1
          refine (zg_gok' S (hK.2.1 8 _ rfl) (fun w h => List.mem_cons_of_mem _ (zc8 w h)) rfl zt8_1 (List.mem_cons_of_mem _ zw1_79) : zk_gok _ _ _ _ _ _ _ _ _ _ _ D _ _ 8 1) e1 e2 (zk_vk_of e3) e5 (by decide +kernel : decode prog_10_method_3_code 20 = .ok (.getfield 15, 3)) ?_
          refine lv_sipush (v := 160) hx hb (by decide +kernel : decode prog_10_method_3_code 23 = .ok (.sipush 160, 3)) (by decide) ?_
          refine lv_icmp_ge (tgt := 50) hx hb (by decide +kernel : decode prog_10_method_3_code 26 = .ok (.if_icmp .ge 24, 3)) (by decide) (fun c_3 => ?_) (fun c_3 => ?_)
          · exact absurd c_3 (fun hh => by rw [show (160 : Int32) = nI 160 from rfl] at hh; have := (zt_le (by omega) (by omega)).mp hh; omega)
          refine lv_aload_n hx hb (by decide +kernel : decode prog_10_method_3_code 29 = .ok (.aload_n 0, 1)) rfl (lv_at hl 2 rfl) ?_
          refine (zg_gok' S (hK.2.1 8 _ rfl) (fun w h => List.mem_cons_of_mem _ (zc8 w h)) rfl zt8_0 (List.mem_cons_of_mem _ zw1_77) : zk_gok _ _ _ _ _ _ _ _ _ _ _ D _ _ 8 0) e1 e2 (zk_vk_of e3) e4 (by decide +kernel : decode prog_10_method_3_code 30 = .ok (.getfield 11, 3)) ?_
          refine lv_aload_n hx hb (by decide +kernel : decode prog_10_method_3_code 33 = .ok (.aload_n 0, 1)) rfl (lv_at hl 2 rfl) ?_
          refine (zg_gok' S (hK.2.1 8 _ rfl) (fun w h => List.mem_cons_of_mem _ (zc8 w h)) rfl zt8_1 (List.mem_cons_of_mem _ zw1_79) : zk_gok _ _ _ _ _ _ _ _ _ _ _ D _ _ 8 1) e1 e2 (zk_vk_of e3) e5 (by decide +kernel : decode prog_10_method_3_code 34 = .ok (.getfield 15, 3)) ?_
          refine lv_iload_n hx hb (by decide +kernel : decode prog_10_method_3_code 37 = .ok (.iload_n 3, 1)) rfl (lv_at hl 0 rfl) ?_
          refine lv_i2c (v := (((zf_ushr w (zf_s (j + 1))) &&& 255).toUInt32 % 65536).toInt32) hx hb (by decide +kernel : decode prog_10_method_3_code 38 = .ok (.i2c, 1)) rfl ?_
          refine W.cast hx hb e6 (zk_isa (hK.2.2.1 3 .char rfl) e7 (zk_vk_of e8)) (by rw [e8]; exact fun h => by cases h) (zt_ix (show n1 < 160 by omega) (by omega) e9) rfl rfl (by decide +kernel : decode prog_10_method_3_code 39 = .ok (.castore, 1)) (fun H2 q1 q2 q3 => ?_)
          have hT2 := zt_Tp_arr hT1 e6 q1 q3
          obtain ⟨co2, cq2, d1, d2, d3, d4, d5, d6, d7, d8, d9, d10⟩ := id hT2
          refine W.eq (g2 := F0 m 40 ls []) rfl ?_
          refine lv_aload_n hx hb (by decide +kernel : decode prog_10_method_3_code 40 = .ok (.aload_n 0, 1)) rfl (lv_at hl 2 rfl) ?_
          refine lv_dup hx hb (by decide +kernel : decode prog_10_method_3_code 41 = .ok (.dup, 1)) rfl ?_
          refine (zg_gok' S (hK.2.1 8 _ rfl) (fun w h => List.mem_cons_of_mem _ (zc8 w h)) rfl zt8_1 (List.mem_cons_of_mem _ zw1_79) : zk_gok _ _ _ _ _ _ _ _ _ _ _ D _ _ 8 1) d1 d2 (zk_vk_of d3) d5 (by decide +kernel : decode prog_10_method_3_code 42 = .ok (.getfield 15, 3)) ?_
          refine lv_iconst (v := 1) hx hb (by decide +kernel : decode prog_10_method_3_code 45 = .ok (.iconst 1, 1)) (by decide) ?_
          refine lv_iadd hx hb (by decide +kernel : decode prog_10_method_3_code 46 = .ok (.iadd, 1)) ?_
          rw [nI_1 n1]
          refine ((zg_gp S (hK.2.1 8 _ rfl) (fun w h => List.mem_cons_of_mem _ (zc8 w h)) rfl zt8_1 (List.mem_cons_of_mem _ zw1_79) rfl).2 : zk_pok _ _ _ _ _ _ _ _ _ _ _ D _ _ 8 1 0) d1 d2 d3 d5 ⟨_, rfl⟩ (by decide +kernel : decode prog_10_method_3_code 47 = .ok (.putfield 15, 3)) (fun H3 r1 r2 r3 => ?_)
          have hT3 := zt_Tp_put hT2 hne d1 r1 r3
          generalize hlo : (locs ++ [(⟨q, _⟩ : Loc)]) ++ [(⟨t, _⟩ : Loc)] = lo3
          have hlc3 : ∀ z ∈ lo3, base ≤ z.base := by rw [← hlo]; exact zk_locs (zk_locs hlc hq) ht
          refine lv_iinc (v := ((zf_s (j + 1)) + (-8))) (lv' := [(2, .int ((zf_s (j + 1)) + (-8))), (3, .int ((zf_ushr w (zf_s (j + 1))) &&& 255)), (0, .ref t), (1, .int w)]) hx hb (by decide +kernel : decode prog_10_method_3_code 50 = .ok (.iinc 2 (-8), 3)) hl (k := 1) rfl rfl (by decide) rfl (fun ls hl => ?_)
          refine lv_goto (tgt := 3) hx hb (by decide +kernel : decode prog_10_method_3_code 53 = .ok (.goto (-50), 3)) (by decide) ?_
          rw [zf_ss (show j < 4 by omega)] at hl
          have et : zf_t w (zf_s (j + 1)) = 1 := zf_t1 c_2
          rw [et] at hc
          exact ih (n1 + 1) H3 lo3 ls (by omega) (by omega) (by omega) hT3 (by rw [r2, q2]; exact hz) (fun x h1 h2 => by rw [r3 x h1, q3 x h2]; exact hsame x h1 h2) hlc3 (lv_sub hl [0, 2, 3] rfl)
  have hlc : ∀ q ∈ ([] : List Loc), base ≤ q.base := fun q hq => absurd hq List.not_mem_nil
  refine lv_bipush (v := 24) hx hb (by decide +kernel : decode prog_10_method_3_code 0 = .ok (.bipush 24, 2)) (by decide) ?_
  refine lv_istore_n (lv' := [(2, .int 24), (0, .ref t), (1, .int w)]) hx hb (by decide +kernel : decode prog_10_method_3_code 2 = .ok (.istore_n 2, 1)) rfl hl (by decide) rfl (fun ls hl => ?_)
  exact loop 4 n s.heap [] ls (Nat.le_refl 4) hn rfl hT rfl (fun _ _ _ => rfl) hlc (lv_sub hl [0, 1, 2] rfl)
set_option maxHeartbeats 4000000 in
set_option maxRecDepth 100000 in
theorem zh_feed {l : Launch} {D : zk_D} {base : Nat} {Hb H : Heap} (o t q : Nat) (a1 a2 a3 a4 a5 : Int32) (hO : (∃ cx : Cell, H[o]? = some cx ∧ cx.cls = D.1 11 ∧ zk_vk cx ∧ cx.slots[D.2.1 11 1]? = some (.ref t))) (hot : o ≠ t) (hoq : o ≠ q) (ht : base ≤ t) (hq : base ≤ q) (hT : zt_Tp D 8 0 1 3 160 H t q (nI 0)) (hne : D.2.1 8 1 ≠ D.2.1 8 0) : zh_Met l base (zg_K D base Hb) yX11_feed (Jvm.Cond.code yX11_feed prog_1_method_6_code 7 (some .int) :: zg_tb) { frames := 3, cells := 0, slots := 0, locals := 100 } [.ref o, .int a1, .int a2, .int a3, .int a4, .int a5] H (fun ov H' => ov = some (.int (nI (zf_c a1 4 + zf_c a2 4 + zf_c a3 4 + zf_c a4 4 + zf_c a5 4))) ∧ H'.size = H.size ∧ ∀ x : Nat, x ≠ t → x ≠ q → H'[x]? = H[x]?) := by
  refine Met.ofW (cc := prog_1_method_6_code) (maxL := 7) (ret := (some .int)) (by decide +kernel) rfl ?_
  intro p e s m args below meth c s₁ B hml hv
  obtain ⟨rfl, hH, hK⟩ := hv
  subst hH
  have hx := B.exec
  have hb := B.bytes
  have hr := B.returns
  have hlocks := B.notSynchronized
  have hts := atoms_spec (ws := (Jvm.Cond.code yX11_feed prog_1_method_6_code 7 (some .int) :: zg_tb)) B.pre
  have hown : s.vm.findClass RX11 = some m.cls := findClass_of_methodNamed B.named
  have S : CallFix p m c prog_1_method_6_code 7 s _ (Jvm.Cond.code yX11_feed prog_1_method_6_code 7 (some .int) :: zg_tb) RX11 := ⟨hx, hb, hml, hown, hts⟩
  have hl := lv_entry ([.ref o, .int a1, .int a2, .int a3, .int a4, .int a5]) (n := 7) (Nat.le_of_ble_eq_true rfl)
  rw [lg_entry_eq]
  generalize (lg_sl ([.ref o, .int a1, .int a2, .int a3, .int a4, .int a5]) ++ List.replicate (7 - (lg_sl ([.ref o, .int a1, .int a2, .int a3, .int a4, .int a5])).length) Slot.unset).toArray = ls at hl ⊢
  have hl : lv_has ls 7 [(0, .ref o), (1, .int a1), (2, .int a2), (3, .int a3), (4, .int a4), (5, .int a5)] := hl
  have hlc : ∀ q ∈ ([] : List Loc), base ≤ q.base := fun q hq => absurd hq List.not_mem_nil
  have b1 := zf_c_le a1 4
  have b2 := zf_c_le a2 4
  have b3 := zf_c_le a3 4
  have b4 := zf_c_le a4 4
  have b5 := zf_c_le a5 4
  refine lv_iload_n hx hb (by decide +kernel : decode prog_1_method_6_code 0 = .ok (.iload_n 1, 1)) rfl (lv_at hl 1 rfl) ?_
  refine zh_callS (fun w h => List.mem_cons_of_mem _ h) zg_tb_all S hK zg_Km ⟨rfl, rfl⟩ (zh_bytesIn (D := D) (Hb := Hb) a1) zw2_145 zy_yX8_bytesIn_S rfl hl.1 rfl ⟨rfl, rfl⟩ (Nat.le_of_ble_eq_true rfl) (Nat.le_of_ble_eq_true rfl) (by decide +kernel : decode prog_1_method_6_code 1 = .ok (.invokestatic 116, 3)) hlc (fun ov H' locs hh hlc => ?_)
  obtain ⟨rfl, rfl⟩ := hh
  refine lv_iload_n hx hb (by decide +kernel : decode prog_1_method_6_code 4 = .ok (.iload_n 2, 1)) rfl (lv_at hl 2 rfl) ?_
  refine zh_callS (fun w h => List.mem_cons_of_mem _ h) zg_tb_all S hK zg_Km ⟨rfl, rfl⟩ (zh_bytesIn (D := D) (Hb := Hb) a2) zw2_145 zy_yX8_bytesIn_S rfl hl.1 rfl ⟨rfl, rfl⟩ (Nat.le_of_ble_eq_true rfl) (Nat.le_of_ble_eq_true rfl) (by decide +kernel : decode prog_1_method_6_code 5 = .ok (.invokestatic 116, 3)) hlc (fun ov H' locs hh hlc => ?_)
  obtain ⟨rfl, rfl⟩ := hh
  refine lv_iadd hx hb (by decide +kernel : decode prog_1_method_6_code 8 = .ok (.iadd, 1)) ?_
  refine lv_iload_n hx hb (by decide +kernel : decode prog_1_method_6_code 9 = .ok (.iload_n 3, 1)) rfl (lv_at hl 3 rfl) ?_
  refine zh_callS (fun w h => List.mem_cons_of_mem _ h) zg_tb_all S hK zg_Km ⟨rfl, rfl⟩ (zh_bytesIn (D := D) (Hb := Hb) a3) zw2_145 zy_yX8_bytesIn_S rfl hl.1 rfl ⟨rfl, rfl⟩ (Nat.le_of_ble_eq_true rfl) (Nat.le_of_ble_eq_true rfl) (by decide +kernel : decode prog_1_method_6_code 10 = .ok (.invokestatic 116, 3)) hlc (fun ov H' locs hh hlc => ?_)
  obtain ⟨rfl, rfl⟩ := hh
  refine lv_iadd hx hb (by decide +kernel : decode prog_1_method_6_code 13 = .ok (.iadd, 1)) ?_
  refine lv_iload hx hb (by decide +kernel : decode prog_1_method_6_code 14 = .ok (.iload 4, 2)) (lv_at hl 4 rfl) ?_
  refine zh_callS (fun w h => List.mem_cons_of_mem _ h) zg_tb_all S hK zg_Km ⟨rfl, rfl⟩ (zh_bytesIn (D := D) (Hb := Hb) a4) zw2_145 zy_yX8_bytesIn_S rfl hl.1 rfl ⟨rfl, rfl⟩ (Nat.le_of_ble_eq_true rfl) (Nat.le_of_ble_eq_true rfl) (by decide +kernel : decode prog_1_method_6_code 16 = .ok (.invokestatic 116, 3)) hlc (fun ov H' locs hh hlc => ?_)
  obtain ⟨rfl, rfl⟩ := hh
  refine lv_iadd hx hb (by decide +kernel : decode prog_1_method_6_code 19 = .ok (.iadd, 1)) ?_
  refine lv_iload hx hb (by decide +kernel : decode prog_1_method_6_code 20 = .ok (.iload 5, 2)) (lv_at hl 5 rfl) ?_
  refine zh_callS (fun w h => List.mem_cons_of_mem _ h) zg_tb_all S hK zg_Km ⟨rfl, rfl⟩ (zh_bytesIn (D := D) (Hb := Hb) a5) zw2_145 zy_yX8_bytesIn_S rfl hl.1 rfl ⟨rfl, rfl⟩ (Nat.le_of_ble_eq_true rfl) (Nat.le_of_ble_eq_true rfl) (by decide +kernel : decode prog_1_method_6_code 22 = .ok (.invokestatic 116, 3)) hlc (fun ov H' locs hh hlc => ?_)
  obtain ⟨rfl, rfl⟩ := hh
  refine lv_iadd hx hb (by decide +kernel : decode prog_1_method_6_code 25 = .ok (.iadd, 1)) ?_
  refine lv_istore (lv' := [(6, .int (((((nI (zf_c a1 4)) + (nI (zf_c a2 4))) + (nI (zf_c a3 4))) + (nI (zf_c a4 4))) + (nI (zf_c a5 4)))), (0, .ref o), (1, .int a1), (2, .int a2), (3, .int a3), (4, .int a4), (5, .int a5)]) hx hb (by decide +kernel : decode prog_1_method_6_code 26 = .ok (.istore 6, 2)) hl (by decide) rfl (fun ls hl => ?_)
  refine lv_aload_n hx hb (by decide +kernel : decode prog_1_method_6_code 28 = .ok (.aload_n 0, 1)) rfl (lv_at hl 1 rfl) ?_
  obtain ⟨cx, x1, x2, x3, x4⟩ := id hO
  refine (zg_gok' S (hK.2.1 11 _ rfl) (fun w h => List.mem_cons_of_mem _ (zc11 w h)) rfl zt11_1 (List.mem_cons_of_mem _ zw2_54) : zk_gok _ _ _ _ _ _ _ _ _ _ _ D _ _ 11 1) x1 x2 x3 x4 (by decide +kernel : decode prog_1_method_6_code 29 = .ok (.getfield 19, 3)) ?_
  obtain ⟨co, cq, e1, e2, e3, e4, e5, e6, e7, e8, e9, e10⟩ := id hT
  refine (zg_gok' S (hK.2.1 8 _ rfl) (fun w h => List.mem_cons_of_mem _ (zc8 w h)) rfl zt8_1 (List.mem_cons_of_mem _ zw1_81) : zk_gok _ _ _ _ _ _ _ _ _ _ _ D _ _ 8 1) e1 e2 (zk_vk_of e3) e5 (by decide +kernel : decode prog_1_method_6_code 32 = .ok (.getfield 120, 3)) ?_
  refine lv_iload hx hb (by decide +kernel : decode prog_1_method_6_code 35 = .ok (.iload 6, 2)) (lv_at hl 0 rfl) ?_
  refine lv_iadd hx hb (by decide +kernel : decode prog_1_method_6_code 37 = .ok (.iadd, 1)) ?_
  refine lv_sipush (v := 160) hx hb (by decide +kernel : decode prog_1_method_6_code 38 = .ok (.sipush 160, 3)) (by decide) ?_
  have hle : ((nI 0) + (((((nI (zf_c a1 4)) + (nI (zf_c a2 4))) + (nI (zf_c a3 4))) + (nI (zf_c a4 4))) + (nI (zf_c a5 4)))) ≤ (160 : Int32) := by
    rw [show (160 : Int32) = nI 160 from rfl]
    simp only [nI_add]
    exact (zt_le (by omega) (by omega)).mpr (by omega)
  refine lv_icmp_le (tgt := 46) hx hb (by decide +kernel : decode prog_1_method_6_code 41 = .ok (.if_icmp .le 5, 3)) (by decide) (fun c_1 => ?_) (fun c_1 => absurd hle c_1)
  refine lv_aload_n hx hb (by decide +kernel : decode prog_1_method_6_code 46 = .ok (.aload_n 0, 1)) rfl (lv_at hl 1 rfl) ?_
  obtain ⟨cx, x1, x2, x3, x4⟩ := id hO
  refine (zg_gok' S (hK.2.1 11 _ rfl) (fun w h => List.mem_cons_of_mem _ (zc11 w h)) rfl zt11_1 (List.mem_cons_of_mem _ zw2_54) : zk_gok _ _ _ _ _ _ _ _ _ _ _ D _ _ 11 1) x1 x2 x3 x4 (by decide +kernel : decode prog_1_method_6_code 47 = .ok (.getfield 19, 3)) ?_
  refine lv_iload_n hx hb (by decide +kernel : decode prog_1_method_6_code 50 = .ok (.iload_n 1, 1)) rfl (lv_at hl 2 rfl) ?_
  obtain ⟨co, cq, e1, e2, e3, e4, e5, e6, e7, e8, e9, e10⟩ := id hT
  refine zh_callV (fun w h => List.mem_cons_of_mem _ h) zg_tb_all S hK zg_Km ⟨rfl, rfl⟩ (zh_put (D := D) (Hb := Hb) t q a1 (0) (by omega) ht hq hT hne) zw2_148 zy_yX8_put_V ⟨co, e1, zk_vk_of e3, by rw [e2]; exact (hK.2.1 8 _ rfl).2.1⟩ rfl hl.1 rfl ⟨rfl, rfl⟩ (Nat.le_of_ble_eq_true rfl) (Nat.le_of_ble_eq_true rfl) (by decide +kernel : decode prog_1_method_6_code 51 = .ok (.invokevirtual 123, 3)) hlc (fun ov H' locs hh hlc => ?_)
  obtain ⟨rfl, hT1, hz1, hs1⟩ := hh
  obtain ⟨H1, rfl⟩ : ∃ z, z = H' := ⟨_, rfl⟩
  have hO1 : ∃ cx : Cell, H1[o]? = some cx ∧ cx.cls = D.1 11 ∧ zk_vk cx ∧ cx.slots[D.2.1 11 1]? = some (.ref t) := by rw [hs1 o hot hoq]; exact hO
  refine lv_aload_n hx hb (by decide +kernel : decode prog_1_method_6_code 54 = .ok (.aload_n 0, 1)) rfl (lv_at hl 1 rfl) ?_
  obtain ⟨cx, x1, x2, x3, x4⟩ := id hO1
  refine (zg_gok' S (hK.2.1 11 _ rfl) (fun w h => List.mem_cons_of_mem _ (zc11 w h)) rfl zt11_1 (List.mem_cons_of_mem _ zw2_54) : zk_gok _ _ _ _ _ _ _ _ _ _ _ D _ _ 11 1) x1 x2 x3 x4 (by decide +kernel : decode prog_1_method_6_code 55 = .ok (.getfield 19, 3)) ?_
  refine lv_iload_n hx hb (by decide +kernel : decode prog_1_method_6_code 58 = .ok (.iload_n 2, 1)) rfl (lv_at hl 3 rfl) ?_
  obtain ⟨co, cq, e1, e2, e3, e4, e5, e6, e7, e8, e9, e10⟩ := id hT1
  refine zh_callV (fun w h => List.mem_cons_of_mem _ h) zg_tb_all S hK zg_Km ⟨rfl, rfl⟩ (zh_put (D := D) (Hb := Hb) t q a2 (0 + zf_c a1 4) (by omega) ht hq hT1 hne) zw2_148 zy_yX8_put_V ⟨co, e1, zk_vk_of e3, by rw [e2]; exact (hK.2.1 8 _ rfl).2.1⟩ rfl hl.1 rfl ⟨rfl, rfl⟩ (Nat.le_of_ble_eq_true rfl) (Nat.le_of_ble_eq_true rfl) (by decide +kernel : decode prog_1_method_6_code 59 = .ok (.invokevirtual 123, 3)) hlc (fun ov H' locs hh hlc => ?_)
  obtain ⟨rfl, hT2, hz2, hs2⟩ := hh
  obtain ⟨H2, rfl⟩ : ∃ z, z = H' := ⟨_, rfl⟩
  have hO2 : ∃ cx : Cell, H2[o]? = some cx ∧ cx.cls = D.1 11 ∧ zk_vk cx ∧ cx.slots[D.2.1 11 1]? = some (.ref t) := by rw [hs2 o hot hoq]; exact hO1
  refine lv_aload_n hx hb (by decide +kernel : decode prog_1_method_6_code 62 = .ok (.aload_n 0, 1)) rfl (lv_at hl 1 rfl) ?_
  obtain ⟨cx, x1, x2, x3, x4⟩ := id hO2
  refine (zg_gok' S (hK.2.1 11 _ rfl) (fun w h => List.mem_cons_of_mem _ (zc11 w h)) rfl zt11_1 (List.mem_cons_of_mem _ zw2_54) : zk_gok _ _ _ _ _ _ _ _ _ _ _ D _ _ 11 1) x1 x2 x3 x4 (by decide +kernel : decode prog_1_method_6_code 63 = .ok (.getfield 19, 3)) ?_
  refine lv_iload_n hx hb (by decide +kernel : decode prog_1_method_6_code 66 = .ok (.iload_n 3, 1)) rfl (lv_at hl 4 rfl) ?_
  obtain ⟨co, cq, e1, e2, e3, e4, e5, e6, e7, e8, e9, e10⟩ := id hT2
  refine zh_callV (fun w h => List.mem_cons_of_mem _ h) zg_tb_all S hK zg_Km ⟨rfl, rfl⟩ (zh_put (D := D) (Hb := Hb) t q a3 (0 + zf_c a1 4 + zf_c a2 4) (by omega) ht hq hT2 hne) zw2_148 zy_yX8_put_V ⟨co, e1, zk_vk_of e3, by rw [e2]; exact (hK.2.1 8 _ rfl).2.1⟩ rfl hl.1 rfl ⟨rfl, rfl⟩ (Nat.le_of_ble_eq_true rfl) (Nat.le_of_ble_eq_true rfl) (by decide +kernel : decode prog_1_method_6_code 67 = .ok (.invokevirtual 123, 3)) hlc (fun ov H' locs hh hlc => ?_)
  obtain ⟨rfl, hT3, hz3, hs3⟩ := hh
  obtain ⟨H3, rfl⟩ : ∃ z, z = H' := ⟨_, rfl⟩
  have hO3 : ∃ cx : Cell, H3[o]? = some cx ∧ cx.cls = D.1 11 ∧ zk_vk cx ∧ cx.slots[D.2.1 11 1]? = some (.ref t) := by rw [hs3 o hot hoq]; exact hO2
  refine lv_aload_n hx hb (by decide +kernel : decode prog_1_method_6_code 70 = .ok (.aload_n 0, 1)) rfl (lv_at hl 1 rfl) ?_
  obtain ⟨cx, x1, x2, x3, x4⟩ := id hO3
  refine (zg_gok' S (hK.2.1 11 _ rfl) (fun w h => List.mem_cons_of_mem _ (zc11 w h)) rfl zt11_1 (List.mem_cons_of_mem _ zw2_54) : zk_gok _ _ _ _ _ _ _ _ _ _ _ D _ _ 11 1) x1 x2 x3 x4 (by decide +kernel : decode prog_1_method_6_code 71 = .ok (.getfield 19, 3)) ?_
  refine lv_iload hx hb (by decide +kernel : decode prog_1_method_6_code 74 = .ok (.iload 4, 2)) (lv_at hl 5 rfl) ?_
  obtain ⟨co, cq, e1, e2, e3, e4, e5, e6, e7, e8, e9, e10⟩ := id hT3
  refine zh_callV (fun w h => List.mem_cons_of_mem _ h) zg_tb_all S hK zg_Km ⟨rfl, rfl⟩ (zh_put (D := D) (Hb := Hb) t q a4 (0 + zf_c a1 4 + zf_c a2 4 + zf_c a3 4) (by omega) ht hq hT3 hne) zw2_148 zy_yX8_put_V ⟨co, e1, zk_vk_of e3, by rw [e2]; exact (hK.2.1 8 _ rfl).2.1⟩ rfl hl.1 rfl ⟨rfl, rfl⟩ (Nat.le_of_ble_eq_true rfl) (Nat.le_of_ble_eq_true rfl) (by decide +kernel : decode prog_1_method_6_code 76 = .ok (.invokevirtual 123, 3)) hlc (fun ov H' locs hh hlc => ?_)
  obtain ⟨rfl, hT4, hz4, hs4⟩ := hh
  obtain ⟨H4, rfl⟩ : ∃ z, z = H' := ⟨_, rfl⟩
  have hO4 : ∃ cx : Cell, H4[o]? = some cx ∧ cx.cls = D.1 11 ∧ zk_vk cx ∧ cx.slots[D.2.1 11 1]? = some (.ref t) := by rw [hs4 o hot hoq]; exact hO3
  refine lv_aload_n hx hb (by decide +kernel : decode prog_1_method_6_code 79 = .ok (.aload_n 0, 1)) rfl (lv_at hl 1 rfl) ?_
  obtain ⟨cx, x1, x2, x3, x4⟩ := id hO4
  refine (zg_gok' S (hK.2.1 11 _ rfl) (fun w h => List.mem_cons_of_mem _ (zc11 w h)) rfl zt11_1 (List.mem_cons_of_mem _ zw2_54) : zk_gok _ _ _ _ _ _ _ _ _ _ _ D _ _ 11 1) x1 x2 x3 x4 (by decide +kernel : decode prog_1_method_6_code 80 = .ok (.getfield 19, 3)) ?_
  refine lv_iload hx hb (by decide +kernel : decode prog_1_method_6_code 83 = .ok (.iload 5, 2)) (lv_at hl 6 rfl) ?_
  obtain ⟨co, cq, e1, e2, e3, e4, e5, e6, e7, e8, e9, e10⟩ := id hT4
  refine zh_callV (fun w h => List.mem_cons_of_mem _ h) zg_tb_all S hK zg_Km ⟨rfl, rfl⟩ (zh_put (D := D) (Hb := Hb) t q a5 (0 + zf_c a1 4 + zf_c a2 4 + zf_c a3 4 + zf_c a4 4) (by omega) ht hq hT4 hne) zw2_148 zy_yX8_put_V ⟨co, e1, zk_vk_of e3, by rw [e2]; exact (hK.2.1 8 _ rfl).2.1⟩ rfl hl.1 rfl ⟨rfl, rfl⟩ (Nat.le_of_ble_eq_true rfl) (Nat.le_of_ble_eq_true rfl) (by decide +kernel : decode prog_1_method_6_code 85 = .ok (.invokevirtual 123, 3)) hlc (fun ov H' locs hh hlc => ?_)
  obtain ⟨rfl, hT5, hz5, hs5⟩ := hh
  obtain ⟨H5, rfl⟩ : ∃ z, z = H' := ⟨_, rfl⟩
  have hO5 : ∃ cx : Cell, H5[o]? = some cx ∧ cx.cls = D.1 11 ∧ zk_vk cx ∧ cx.slots[D.2.1 11 1]? = some (.ref t) := by rw [hs5 o hot hoq]; exact hO4
  refine lv_aload_n hx hb (by decide +kernel : decode prog_1_method_6_code 88 = .ok (.aload_n 0, 1)) rfl (lv_at hl 1 rfl) ?_
  obtain ⟨cx, x1, x2, x3, x4⟩ := id hO5
  refine (zg_gok' S (hK.2.1 11 _ rfl) (fun w h => List.mem_cons_of_mem _ (zc11 w h)) rfl zt11_1 (List.mem_cons_of_mem _ zw2_54) : zk_gok _ _ _ _ _ _ _ _ _ _ _ D _ _ 11 1) x1 x2 x3 x4 (by decide +kernel : decode prog_1_method_6_code 89 = .ok (.getfield 19, 3)) ?_
  obtain ⟨co, cq, e1, e2, e3, e4, e5, e6, e7, e8, e9, e10⟩ := id hT5
  refine (zg_gok' S (hK.2.1 8 _ rfl) (fun w h => List.mem_cons_of_mem _ (zc8 w h)) rfl zt8_1 (List.mem_cons_of_mem _ zw1_81) : zk_gok _ _ _ _ _ _ _ _ _ _ _ D _ _ 8 1) e1 e2 (zk_vk_of e3) e5 (by decide +kernel : decode prog_1_method_6_code 92 = .ok (.getfield 120, 3)) ?_
  rw [show 0 + zf_c a1 4 + zf_c a2 4 + zf_c a3 4 + zf_c a4 4 + zf_c a5 4 = zf_c a1 4 + zf_c a2 4 + zf_c a3 4 + zf_c a4 4 + zf_c a5 4 by omega]
  exact W.iret hx hb hr (fun t1 ht1 _ => ⟨_, rfl, rfl, by rw [ht1, hz5, hz4, hz3, hz2, hz1], fun x h1 h2 => by rw [ht1, hs5 x h1 h2, hs4 x h1 h2, hs3 x h1 h2, hs2 x h1 h2, hs1 x h1 h2]⟩) hlc (by decide +kernel : decode prog_1_method_6_code 95 = .ok (.ireturn, 1))
set_option maxHeartbeats 4000000 in
set_option maxRecDepth 100000 in
theorem zh_byteOf {l : Launch} {D : zk_D} {base : Nat} {Hb H : Heap} (a1 a2 a3 a4 a5 a6 : Int32) : zh_Met l base (zg_K D base Hb) yX12_byteOf (Jvm.Cond.code yX12_byteOf prog_14_method_11_code 7 (some .int) :: zg_tb) { frames := 1, cells := 0, slots := 0, locals := 20 } [.int a1, .int a2, .int a3, .int a4, .int a5, .int a6] H (fun ov H' => ov = some (.int (zf_bo a1 a2 a3 a4 a5 a6)) ∧ H' = H) := by
  refine Met.ofW (cc := prog_14_method_11_code) (maxL := 7) (ret := (some .int)) (by decide +kernel) rfl ?_
  intro p e s m args below meth c s₁ B hml hv
  obtain ⟨rfl, hH, hK⟩ := hv
  subst hH
  have hx := B.exec
  have hb := B.bytes
  have hr := B.returns
  have hlocks := B.notSynchronized
  have hts := atoms_spec (ws := (Jvm.Cond.code yX12_byteOf prog_14_method_11_code 7 (some .int) :: zg_tb)) B.pre
  have hown : s.vm.findClass RX12 = some m.cls := findClass_of_methodNamed B.named
  have S : CallFix p m c prog_14_method_11_code 7 s _ (Jvm.Cond.code yX12_byteOf prog_14_method_11_code 7 (some .int) :: zg_tb) RX12 := ⟨hx, hb, hml, hown, hts⟩
  have hl := lv_entry ([.int a1, .int a2, .int a3, .int a4, .int a5, .int a6]) (n := 7) (Nat.le_of_ble_eq_true rfl)
  rw [lg_entry_eq]
  generalize (lg_sl ([.int a1, .int a2, .int a3, .int a4, .int a5, .int a6]) ++ List.replicate (7 - (lg_sl ([.int a1, .int a2, .int a3, .int a4, .int a5, .int a6])).length) Slot.unset).toArray = ls at hl ⊢
  have hl : lv_has ls 7 [(0, .int a1), (1, .int a2), (2, .int a3), (3, .int a4), (4, .int a5), (5, .int a6)] := hl
  refine lv_iload hx hb (by decide +kernel : decode prog_14_method_11_code 0 = .ok (.iload 5, 2)) (lv_at hl 5 rfl) ?_
  refine lv_iconst (v := 4) hx hb (by decide +kernel : decode prog_14_method_11_code 2 = .ok (.iconst 4, 1)) (by decide) ?_
  refine lv_icmp_ge (tgt := 10) hx hb (by decide +kernel : decode prog_14_method_11_code 3 = .ok (.if_icmp .ge 7, 3)) (by decide) (fun c_1 => ?_) (fun c_1 => ?_)
  · refine lv_iload hx hb (by decide +kernel : decode prog_14_method_11_code 10 = .ok (.iload 5, 2)) (lv_at hl 5 rfl) ?_
    refine lv_bipush (v := 8) hx hb (by decide +kernel : decode prog_14_method_11_code 12 = .ok (.bipush 8, 2)) (by decide) ?_
    refine lv_icmp_ge (tgt := 21) hx hb (by decide +kernel : decode prog_14_method_11_code 14 = .ok (.if_icmp .ge 7, 3)) (by decide) (fun c_2 => ?_) (fun c_2 => ?_)
    · refine lv_iload hx hb (by decide +kernel : decode prog_14_method_11_code 21 = .ok (.iload 5, 2)) (lv_at hl 5 rfl) ?_
      refine lv_bipush (v := 12) hx hb (by decide +kernel : decode prog_14_method_11_code 23 = .ok (.bipush 12, 2)) (by decide) ?_
      refine lv_icmp_ge (tgt := 32) hx hb (by decide +kernel : decode prog_14_method_11_code 25 = .ok (.if_icmp .ge 7, 3)) (by decide) (fun c_3 => ?_) (fun c_3 => ?_)
      · refine lv_iload hx hb (by decide +kernel : decode prog_14_method_11_code 32 = .ok (.iload 5, 2)) (lv_at hl 5 rfl) ?_
        refine lv_bipush (v := 16) hx hb (by decide +kernel : decode prog_14_method_11_code 34 = .ok (.bipush 16, 2)) (by decide) ?_
        refine lv_icmp_ge (tgt := 43) hx hb (by decide +kernel : decode prog_14_method_11_code 36 = .ok (.if_icmp .ge 7, 3)) (by decide) (fun c_4 => ?_) (fun c_4 => ?_)
        · refine lv_iload hx hb (by decide +kernel : decode prog_14_method_11_code 43 = .ok (.iload 4, 2)) (lv_at hl 4 rfl) ?_
          refine lv_istore (lv' := [(6, .int a5), (0, .int a1), (1, .int a2), (2, .int a3), (3, .int a4), (4, .int a5), (5, .int a6)]) hx hb (by decide +kernel : decode prog_14_method_11_code 45 = .ok (.istore 6, 2)) hl (by decide) rfl (fun ls hl => ?_)
          refine lv_iload hx hb (by decide +kernel : decode prog_14_method_11_code 47 = .ok (.iload 6, 2)) (lv_at hl 0 rfl) ?_
          refine lv_bipush (v := 24) hx hb (by decide +kernel : decode prog_14_method_11_code 49 = .ok (.bipush 24, 2)) (by decide) ?_
          refine lv_bipush (v := 8) hx hb (by decide +kernel : decode prog_14_method_11_code 51 = .ok (.bipush 8, 2)) (by decide) ?_
          refine lv_iload hx hb (by decide +kernel : decode prog_14_method_11_code 53 = .ok (.iload 5, 2)) (lv_at hl 6 rfl) ?_
          refine lv_iconst (v := 4) hx hb (by decide +kernel : decode prog_14_method_11_code 55 = .ok (.iconst 4, 1)) (by decide) ?_
          refine lv_irem hx hb (by decide +kernel : decode prog_14_method_11_code 56 = .ok (.irem, 1)) (by decide) ?_
          refine lv_imul hx hb (by decide +kernel : decode prog_14_method_11_code 57 = .ok (.imul, 1)) ?_
          refine lv_isub hx hb (by decide +kernel : decode prog_14_method_11_code 58 = .ok (.isub, 1)) ?_
          refine lv_ishr hx hb (by decide +kernel : decode prog_14_method_11_code 59 = .ok (.ishr, 1)) ?_
          refine lv_sipush (v := 255) hx hb (by decide +kernel : decode prog_14_method_11_code 60 = .ok (.sipush 255, 3)) (by decide) ?_
          refine lv_iand hx hb (by decide +kernel : decode prog_14_method_11_code 63 = .ok (.iand, 1)) ?_
          have e : zf_bo a1 a2 a3 a4 a5 a6 = ((a5 >>> ((24 - (8 * (a6 - a6 / 4 * 4))) &&& 31)) &&& 255) := by
            unfold zf_bo
            simp only [*, ↓reduceIte]
          rw [e]
          exact W.iret hx hb hr (fun t ht _ => ⟨_, rfl, rfl, ht⟩) (fun q hq => absurd hq List.not_mem_nil) (by decide +kernel : decode prog_14_method_11_code 64 = .ok (.ireturn, 1))
        · refine lv_iload_n hx hb (by decide +kernel : decode prog_14_method_11_code 39 = .ok (.iload_n 3, 1)) rfl (lv_at hl 3 rfl) ?_
          refine lv_goto (tgt := 45) hx hb (by decide +kernel : decode prog_14_method_11_code 40 = .ok (.goto 5, 3)) (by decide) ?_
          refine lv_istore (lv' := [(6, .int a4), (0, .int a1), (1, .int a2), (2, .int a3), (3, .int a4), (4, .int a5), (5, .int a6)]) hx hb (by decide +kernel : decode prog_14_method_11_code 45 = .ok (.istore 6, 2)) hl (by decide) rfl (fun ls hl => ?_)
          refine lv_iload hx hb (by decide +kernel : decode prog_14_method_11_code 47 = .ok (.iload 6, 2)) (lv_at hl 0 rfl) ?_
          refine lv_bipush (v := 24) hx hb (by decide +kernel : decode prog_14_method_11_code 49 = .ok (.bipush 24, 2)) (by decide) ?_
          refine lv_bipush (v := 8) hx hb (by decide +kernel : decode prog_14_method_11_code 51 = .ok (.bipush 8, 2)) (by decide) ?_
          refine lv_iload hx hb (by decide +kernel : decode prog_14_method_11_code 53 = .ok (.iload 5, 2)) (lv_at hl 6 rfl) ?_
          refine lv_iconst (v := 4) hx hb (by decide +kernel : decode prog_14_method_11_code 55 = .ok (.iconst 4, 1)) (by decide) ?_
          refine lv_irem hx hb (by decide +kernel : decode prog_14_method_11_code 56 = .ok (.irem, 1)) (by decide) ?_
          refine lv_imul hx hb (by decide +kernel : decode prog_14_method_11_code 57 = .ok (.imul, 1)) ?_
          refine lv_isub hx hb (by decide +kernel : decode prog_14_method_11_code 58 = .ok (.isub, 1)) ?_
          refine lv_ishr hx hb (by decide +kernel : decode prog_14_method_11_code 59 = .ok (.ishr, 1)) ?_
          refine lv_sipush (v := 255) hx hb (by decide +kernel : decode prog_14_method_11_code 60 = .ok (.sipush 255, 3)) (by decide) ?_
          refine lv_iand hx hb (by decide +kernel : decode prog_14_method_11_code 63 = .ok (.iand, 1)) ?_
          have e : zf_bo a1 a2 a3 a4 a5 a6 = ((a4 >>> ((24 - (8 * (a6 - a6 / 4 * 4))) &&& 31)) &&& 255) := by
            unfold zf_bo
            simp only [*, ↓reduceIte]
          rw [e]
          exact W.iret hx hb hr (fun t ht _ => ⟨_, rfl, rfl, ht⟩) (fun q hq => absurd hq List.not_mem_nil) (by decide +kernel : decode prog_14_method_11_code 64 = .ok (.ireturn, 1))
      · refine lv_iload_n hx hb (by decide +kernel : decode prog_14_method_11_code 28 = .ok (.iload_n 2, 1)) rfl (lv_at hl 2 rfl) ?_
        refine lv_goto (tgt := 45) hx hb (by decide +kernel : decode prog_14_method_11_code 29 = .ok (.goto 16, 3)) (by decide) ?_
        refine lv_istore (lv' := [(6, .int a3), (0, .int a1), (1, .int a2), (2, .int a3), (3, .int a4), (4, .int a5), (5, .int a6)]) hx hb (by decide +kernel : decode prog_14_method_11_code 45 = .ok (.istore 6, 2)) hl (by decide) rfl (fun ls hl => ?_)
        refine lv_iload hx hb (by decide +kernel : decode prog_14_method_11_code 47 = .ok (.iload 6, 2)) (lv_at hl 0 rfl) ?_
        refine lv_bipush (v := 24) hx hb (by decide +kernel : decode prog_14_method_11_code 49 = .ok (.bipush 24, 2)) (by decide) ?_
        refine lv_bipush (v := 8) hx hb (by decide +kernel : decode prog_14_method_11_code 51 = .ok (.bipush 8, 2)) (by decide) ?_
        refine lv_iload hx hb (by decide +kernel : decode prog_14_method_11_code 53 = .ok (.iload 5, 2)) (lv_at hl 6 rfl) ?_
        refine lv_iconst (v := 4) hx hb (by decide +kernel : decode prog_14_method_11_code 55 = .ok (.iconst 4, 1)) (by decide) ?_
        refine lv_irem hx hb (by decide +kernel : decode prog_14_method_11_code 56 = .ok (.irem, 1)) (by decide) ?_
        refine lv_imul hx hb (by decide +kernel : decode prog_14_method_11_code 57 = .ok (.imul, 1)) ?_
        refine lv_isub hx hb (by decide +kernel : decode prog_14_method_11_code 58 = .ok (.isub, 1)) ?_
        refine lv_ishr hx hb (by decide +kernel : decode prog_14_method_11_code 59 = .ok (.ishr, 1)) ?_
        refine lv_sipush (v := 255) hx hb (by decide +kernel : decode prog_14_method_11_code 60 = .ok (.sipush 255, 3)) (by decide) ?_
        refine lv_iand hx hb (by decide +kernel : decode prog_14_method_11_code 63 = .ok (.iand, 1)) ?_
        have e : zf_bo a1 a2 a3 a4 a5 a6 = ((a3 >>> ((24 - (8 * (a6 - a6 / 4 * 4))) &&& 31)) &&& 255) := by
          unfold zf_bo
          simp only [*, ↓reduceIte]
        rw [e]
        exact W.iret hx hb hr (fun t ht _ => ⟨_, rfl, rfl, ht⟩) (fun q hq => absurd hq List.not_mem_nil) (by decide +kernel : decode prog_14_method_11_code 64 = .ok (.ireturn, 1))
    · refine lv_iload_n hx hb (by decide +kernel : decode prog_14_method_11_code 17 = .ok (.iload_n 1, 1)) rfl (lv_at hl 1 rfl) ?_
      refine lv_goto (tgt := 45) hx hb (by decide +kernel : decode prog_14_method_11_code 18 = .ok (.goto 27, 3)) (by decide) ?_
      refine lv_istore (lv' := [(6, .int a2), (0, .int a1), (1, .int a2), (2, .int a3), (3, .int a4), (4, .int a5), (5, .int a6)]) hx hb (by decide +kernel : decode prog_14_method_11_code 45 = .ok (.istore 6, 2)) hl (by decide) rfl (fun ls hl => ?_)
      refine lv_iload hx hb (by decide +kernel : decode prog_14_method_11_code 47 = .ok (.iload 6, 2)) (lv_at hl 0 rfl) ?_
      refine lv_bipush (v := 24) hx hb (by decide +kernel : decode prog_14_method_11_code 49 = .ok (.bipush 24, 2)) (by decide) ?_
      refine lv_bipush (v := 8) hx hb (by decide +kernel : decode prog_14_method_11_code 51 = .ok (.bipush 8, 2)) (by decide) ?_
      refine lv_iload hx hb (by decide +kernel : decode prog_14_method_11_code 53 = .ok (.iload 5, 2)) (lv_at hl 6 rfl) ?_
      refine lv_iconst (v := 4) hx hb (by decide +kernel : decode prog_14_method_11_code 55 = .ok (.iconst 4, 1)) (by decide) ?_
      refine lv_irem hx hb (by decide +kernel : decode prog_14_method_11_code 56 = .ok (.irem, 1)) (by decide) ?_
      refine lv_imul hx hb (by decide +kernel : decode prog_14_method_11_code 57 = .ok (.imul, 1)) ?_
      refine lv_isub hx hb (by decide +kernel : decode prog_14_method_11_code 58 = .ok (.isub, 1)) ?_
      refine lv_ishr hx hb (by decide +kernel : decode prog_14_method_11_code 59 = .ok (.ishr, 1)) ?_
      refine lv_sipush (v := 255) hx hb (by decide +kernel : decode prog_14_method_11_code 60 = .ok (.sipush 255, 3)) (by decide) ?_
      refine lv_iand hx hb (by decide +kernel : decode prog_14_method_11_code 63 = .ok (.iand, 1)) ?_
      have e : zf_bo a1 a2 a3 a4 a5 a6 = ((a2 >>> ((24 - (8 * (a6 - a6 / 4 * 4))) &&& 31)) &&& 255) := by
        unfold zf_bo
        simp only [*, ↓reduceIte]
      rw [e]
      exact W.iret hx hb hr (fun t ht _ => ⟨_, rfl, rfl, ht⟩) (fun q hq => absurd hq List.not_mem_nil) (by decide +kernel : decode prog_14_method_11_code 64 = .ok (.ireturn, 1))
  · refine lv_iload_n hx hb (by decide +kernel : decode prog_14_method_11_code 6 = .ok (.iload_n 0, 1)) rfl (lv_at hl 0 rfl) ?_
    refine lv_goto (tgt := 45) hx hb (by decide +kernel : decode prog_14_method_11_code 7 = .ok (.goto 38, 3)) (by decide) ?_
    refine lv_istore (lv' := [(6, .int a1), (0, .int a1), (1, .int a2), (2, .int a3), (3, .int a4), (4, .int a5), (5, .int a6)]) hx hb (by decide +kernel : decode prog_14_method_11_code 45 = .ok (.istore 6, 2)) hl (by decide) rfl (fun ls hl => ?_)
    refine lv_iload hx hb (by decide +kernel : decode prog_14_method_11_code 47 = .ok (.iload 6, 2)) (lv_at hl 0 rfl) ?_
    refine lv_bipush (v := 24) hx hb (by decide +kernel : decode prog_14_method_11_code 49 = .ok (.bipush 24, 2)) (by decide) ?_
    refine lv_bipush (v := 8) hx hb (by decide +kernel : decode prog_14_method_11_code 51 = .ok (.bipush 8, 2)) (by decide) ?_
    refine lv_iload hx hb (by decide +kernel : decode prog_14_method_11_code 53 = .ok (.iload 5, 2)) (lv_at hl 6 rfl) ?_
    refine lv_iconst (v := 4) hx hb (by decide +kernel : decode prog_14_method_11_code 55 = .ok (.iconst 4, 1)) (by decide) ?_
    refine lv_irem hx hb (by decide +kernel : decode prog_14_method_11_code 56 = .ok (.irem, 1)) (by decide) ?_
    refine lv_imul hx hb (by decide +kernel : decode prog_14_method_11_code 57 = .ok (.imul, 1)) ?_
    refine lv_isub hx hb (by decide +kernel : decode prog_14_method_11_code 58 = .ok (.isub, 1)) ?_
    refine lv_ishr hx hb (by decide +kernel : decode prog_14_method_11_code 59 = .ok (.ishr, 1)) ?_
    refine lv_sipush (v := 255) hx hb (by decide +kernel : decode prog_14_method_11_code 60 = .ok (.sipush 255, 3)) (by decide) ?_
    refine lv_iand hx hb (by decide +kernel : decode prog_14_method_11_code 63 = .ok (.iand, 1)) ?_
    have e : zf_bo a1 a2 a3 a4 a5 a6 = ((a1 >>> ((24 - (8 * (a6 - a6 / 4 * 4))) &&& 31)) &&& 255) := by
      unfold zf_bo
      simp only [*, ↓reduceIte]
    rw [e]
    exact W.iret hx hb hr (fun t ht _ => ⟨_, rfl, rfl, ht⟩) (fun q hq => absurd hq List.not_mem_nil) (by decide +kernel : decode prog_14_method_11_code 64 = .ok (.ireturn, 1))
set_option maxHeartbeats 4000000 in
set_option maxRecDepth 100000 in
theorem zh_feedM {l : Launch} {D : zk_D} {base : Nat} {Hb H : Heap} (o q : Nat) (a1 a2 a3 a4 a5 : Int32) (ho : base ≤ o) (hq : base ≤ q) (hT : zt_Tp D 12 8 9 0 160 H o q (nI 0)) (hne : D.2.1 12 9 ≠ D.2.1 12 8) : zh_Met l base (zg_K D base Hb) yX12_feed (Jvm.Cond.code yX12_feed prog_14_method_12_code 9 (some .int) :: zg_tb) { frames := 3, cells := 0, slots := 0, locals := 100 } [.ref o, .int a1, .int a2, .int a3, .int a4, .int a5] H (fun ov H' => ov = some (.int (nI (zf_m a1 a2 a3 a4 a5 0 20))) ∧ H'.size = H.size ∧ ∀ x : Nat, x ≠ o → x ≠ q → H'[x]? = H[x]?) := by
  refine Met.ofW (cc := prog_14_method_12_code) (maxL := 9) (ret := (some .int)) (by decide +kernel) rfl ?_
  intro p e s m args below meth c s₁ B hml hv
  obtain ⟨rfl, hH, hK⟩ := hv
  subst hH
  have hx := B.exec
  have hb := B.bytes
  have hr := B.returns
  have hlocks := B.notSynchronized
  have hts := atoms_spec (ws := (Jvm.Cond.code yX12_feed prog_14_method_12_code 9 (some .int) :: zg_tb)) B.pre
  have hown : s.vm.findClass RX12 = some m.cls := findClass_of_methodNamed B.named
  have S : CallFix p m c prog_14_method_12_code 9 s _ (Jvm.Cond.code yX12_feed prog_14_method_12_code 9 (some .int) :: zg_tb) RX12 := ⟨hx, hb, hml, hown, hts⟩
  have hl := lv_entry ([.ref o, .int a1, .int a2, .int a3, .int a4, .int a5]) (n := 9) (Nat.le_of_ble_eq_true rfl)
  rw [lg_entry_eq]
  generalize (lg_sl ([.ref o, .int a1, .int a2, .int a3, .int a4, .int a5]) ++ List.replicate (9 - (lg_sl ([.ref o, .int a1, .int a2, .int a3, .int a4, .int a5])).length) Slot.unset).toArray = ls at hl ⊢
  have hl : lv_has ls 9 [(0, .ref o), (1, .int a1), (2, .int a2), (3, .int a3), (4, .int a4), (5, .int a5)] := hl
  have loop2 : ∀ (j k n : Nat) (H1 : Heap) (locs : List Loc) (ls : Array Slot), k + j = 20 → n + j ≤ 160 → n + zf_m a1 a2 a3 a4 a5 k j = zf_m a1 a2 a3 a4 a5 0 20 → zt_Tp D 12 8 9 0 160 H1 o q (nI n) → H1.size = s.heap.size → (∀ x : Nat, x ≠ o → x ≠ q → H1[x]? = s.heap[x]?) → (∀ z ∈ locs, base ≤ z.base) → lv_has ls 9 [(7, .int (nI k)), (0, .ref o), (1, .int a1), (2, .int a2), (3, .int a3), (4, .int a4), (5, .int a5)] → W p l e (headSpec (Jvm.Cond.code yX12_feed prog_14_method_12_code 9 (some .int) :: zg_tb) { frames := 3, cells := 0, slots := 0, locals := 100 }).room s m (([Value.ref o, Value.int a1, Value.int a2, Value.int a3, Value.int a4, Value.int a5] : List Value).toArray) below meth c H1 locs 0 0 (MQ below (fun _ _ oo tt => ∃ ov, oo = .returned ov ∧ ((fun ov H' => ov = some (.int (nI (zf_m a1 a2 a3 a4 a5 0 20))) ∧ H'.size = s.heap.size ∧ ∀ x : Nat, x ≠ o → x ≠ q → H'[x]? = s.heap[x]?) ov tt.heap)) (([Value.ref o, Value.int a1, Value.int a2, Value.int a3, Value.int a4, Value.int a5] : List Value).toArray) s 0 0 (fun q => base ≤ q)) (F0 m 62 ls []) := by
    intro j
    induction j with
    | zero =>
      intro k n H1 locs ls hk h160 hc hT1 hz hsame hlc hl
      have hk : k = 20 := by omega
      subst hk
      refine lv_iload hx hb (by decide +kernel : decode prog_14_method_12_code 62 = .ok (.iload 7, 2)) (lv_at hl 0 rfl) ?_
      refine lv_bipush (v := 20) hx hb (by decide +kernel : decode prog_14_method_12_code 64 = .ok (.bipush 20, 2)) (by decide) ?_
      refine lv_icmp_ge (tgt := 115) hx hb (by decide +kernel : decode prog_14_method_12_code 66 = .ok (.if_icmp .ge 49, 3)) (by decide) (fun c_1 => ?_) (fun c_1 => ?_)
      · refine lv_aload_n hx hb (by decide +kernel : decode prog_14_method_12_code 115 = .ok (.aload_n 0, 1)) rfl (lv_at hl 1 rfl) ?_
        obtain ⟨co, cq, e1, e2, e3, e4, e5, e6, e7, e8, e9, e10⟩ := id hT1
        refine (zg_gok' S (hK.2.1 12 _ rfl) (fun w h => List.mem_cons_of_mem _ (zc12 w h)) rfl zt12_9 (List.mem_cons_of_mem _ zw5_168) : zk_gok _ _ _ _ _ _ _ _ _ _ _ D _ _ 12 9) e1 e2 (zk_vk_of e3) e5 (by decide +kernel : decode prog_14_method_12_code 116 = .ok (.getfield 181, 3)) ?_
        have e0 : n = zf_m a1 a2 a3 a4 a5 0 20 := hc
        exact W.iret hx hb hr (fun t1 ht1 _ => ⟨_, rfl, by rw [e0], by rw [ht1]; exact hz, by rw [ht1]; exact hsame⟩) hlc (by decide +kernel : decode prog_14_method_12_code 119 = .ok (.ireturn, 1))
      · exact absurd (by decide : (20 : Int32) ≤ nI 20) c_1
    | succ j ih =>
      intro k n H1 locs ls hk h160 hc hT1 hz hsame hlc hl
      rw [zf_m_s] at hc
      refine lv_iload hx hb (by decide +kernel : decode prog_14_method_12_code 62 = .ok (.iload 7, 2)) (lv_at hl 0 rfl) ?_
      refine lv_bipush (v := 20) hx hb (by decide +kernel : decode prog_14_method_12_code 64 = .ok (.bipush 20, 2)) (by decide) ?_
      refine lv_icmp_ge (tgt := 115) hx hb (by decide +kernel : decode prog_14_method_12_code 66 = .ok (.if_icmp .ge 49, 3)) (by decide) (fun c_1 => ?_) (fun c_1 => ?_)
      · exact absurd c_1 (fun hh => by rw [show (20 : Int32) = nI 20 from rfl] at hh; have := (zt_le (by omega) (by omega)).mp hh; omega)
      · refine lv_iload_n hx hb (by decide +kernel : decode prog_14_method_12_code 69 = .ok (.iload_n 1, 1)) rfl (lv_at hl 2 rfl) ?_
        refine lv_iload_n hx hb (by decide +kernel : decode prog_14_method_12_code 70 = .ok (.iload_n 2, 1)) rfl (lv_at hl 3 rfl) ?_
        refine lv_iload_n hx hb (by decide +kernel : decode prog_14_method_12_code 71 = .ok (.iload_n 3, 1)) rfl (lv_at hl 4 rfl) ?_
        refine lv_iload hx hb (by decide +kernel : decode prog_14_method_12_code 72 = .ok (.iload 4, 2)) (lv_at hl 5 rfl) ?_
        refine lv_iload hx hb (by decide +kernel : decode prog_14_method_12_code 74 = .ok (.iload 5, 2)) (lv_at hl 6 rfl) ?_
        refine lv_iload hx hb (by decide +kernel : decode prog_14_method_12_code 76 = .ok (.iload 7, 2)) (lv_at hl 0 rfl) ?_
        refine zh_callS (fun w h => List.mem_cons_of_mem _ h) zg_tb_all S hK zg_Km ⟨rfl, rfl⟩ (zh_byteOf (D := D) (Hb := Hb) a1 a2 a3 a4 a5 (nI k)) zw6_168 zy_yX12_byteOf_S rfl hl.1 rfl ⟨rfl, rfl⟩ (Nat.le_of_ble_eq_true rfl) (Nat.le_of_ble_eq_true rfl) (by decide +kernel : decode prog_14_method_12_code 78 = .ok (.invokestatic 177, 3)) hlc (fun ov H' locs hh hlc => ?_)
        obtain ⟨rfl, hHe⟩ := hh
        rw [hHe]
        refine lv_istore (lv' := [(8, .int (zf_bo a1 a2 a3 a4 a5 (nI k))), (7, .int (nI k)), (0, .ref o), (1, .int a1), (2, .int a2), (3, .int a3), (4, .int a4), (5, .int a5)]) hx hb (by decide +kernel : decode prog_14_method_12_code 81 = .ok (.istore 8, 2)) hl (by decide) rfl (fun ls hl => ?_)
        refine lv_iload hx hb (by decide +kernel : decode prog_14_method_12_code 83 = .ok (.iload 8, 2)) (lv_at hl 0 rfl) ?_
        refine lv_if_eq (tgt := 109) hx hb (by decide +kernel : decode prog_14_method_12_code 85 = .ok (.ifCond .eq 24, 3)) (by decide) (fun c_2 => ?_) (fun c_2 => ?_)
        · refine lv_iinc (v := ((nI k) + 1)) (lv' := [(7, .int ((nI k) + 1)), (8, .int (zf_bo a1 a2 a3 a4 a5 (nI k))), (0, .ref o), (1, .int a1), (2, .int a2), (3, .int a3), (4, .int a4), (5, .int a5)]) hx hb (by decide +kernel : decode prog_14_method_12_code 109 = .ok (.iinc 7 1, 3)) hl (k := 1) rfl rfl (by decide) rfl (fun ls hl => ?_)
          refine lv_goto (tgt := 62) hx hb (by decide +kernel : decode prog_14_method_12_code 112 = .ok (.goto (-50), 3)) (by decide) ?_
          rw [nI_1 k] at hl
          have et : zf_u a1 a2 a3 a4 a5 k = 0 := zf_u0 c_2
          rw [et] at hc
          exact ih (k + 1) n H1 locs ls (by omega) (by omega) (by omega) hT1 hz hsame hlc (lv_sub hl [0, 2, 3, 4, 5, 6, 7] rfl)
        · refine lv_aload_n hx hb (by decide +kernel : decode prog_14_method_12_code 88 = .ok (.aload_n 0, 1)) rfl (lv_at hl 2 rfl) ?_
          obtain ⟨co, cq, e1, e2, e3, e4, e5, e6, e7, e8, e9, e10⟩ := id hT1
          refine (zg_gok' S (hK.2.1 12 _ rfl) (fun w h => List.mem_cons_of_mem _ (zc12 w h)) rfl zt12_8 (List.mem_cons_of_mem _ zw5_167) : zk_gok _ _ _ _ _ _ _ _ _ _ _ D _ _ 12 8) e1 e2 (zk_vk_of e3) e4 (by decide +kernel : decode prog_14_method_12_code 89 = .ok (.getfield 26, 3)) ?_
          refine lv_aload_n hx hb (by decide +kernel : decode prog_14_method_12_code 92 = .ok (.aload_n 0, 1)) rfl (lv_at hl 2 rfl) ?_
          refine (zg_gok' S (hK.2.1 12 _ rfl) (fun w h => List.mem_cons_of_mem _ (zc12 w h)) rfl zt12_9 (List.mem_cons_of_mem _ zw5_168) : zk_gok _ _ _ _ _ _ _ _ _ _ _ D _ _ 12 9) e1 e2 (zk_vk_of e3) e5 (by decide +kernel : decode prog_14_method_12_code 93 = .ok (.getfield 181, 3)) ?_
          refine lv_iload hx hb (by decide +kernel : decode prog_14_method_12_code 96 = .ok (.iload 8, 2)) (lv_at hl 0 rfl) ?_
          refine W.iast hx hb e6 (zk_isa (hK.2.2.1 0 .int rfl) e7 (zk_vk_of e8)) (by rw [e8]; exact fun h => by cases h) (zt_ix (show n < 160 by omega) (by omega) e9) rfl rfl (by decide +kernel : decode prog_14_method_12_code 98 = .ok (.iastore, 1)) (fun H2 q1 q2 q3 => ?_)
          have hT2 := zt_Tp_arr hT1 e6 q1 q3
          obtain ⟨co2, cq2, d1, d2, d3, d4, d5, d6, d7, d8, d9, d10⟩ := id hT2
          refine W.eq (g2 := F0 m 99 ls []) rfl ?_
          refine lv_aload_n hx hb (by decide +kernel : decode prog_14_method_12_code 99 = .ok (.aload_n 0, 1)) rfl (lv_at hl 2 rfl) ?_
          refine lv_dup hx hb (by decide +kernel : decode prog_14_method_12_code 100 = .ok (.dup, 1)) rfl ?_
          refine (zg_gok' S (hK.2.1 12 _ rfl) (fun w h => List.mem_cons_of_mem _ (zc12 w h)) rfl zt12_9 (List.mem_cons_of_mem _ zw5_168) : zk_gok _ _ _ _ _ _ _ _ _ _ _ D _ _ 12 9) d1 d2 (zk_vk_of d3) d5 (by decide +kernel : decode prog_14_method_12_code 101 = .ok (.getfield 181, 3)) ?_
          refine lv_iconst (v := 1) hx hb (by decide +kernel : decode prog_14_method_12_code 104 = .ok (.iconst 1, 1)) (by decide) ?_
          refine lv_iadd hx hb (by decide +kernel : decode prog_14_method_12_code 105 = .ok (.iadd, 1)) ?_
          rw [nI_1 n]
          refine ((zg_gp S (hK.2.1 12 _ rfl) (fun w h => List.mem_cons_of_mem _ (zc12 w h)) rfl zt12_9 (List.mem_cons_of_mem _ zw5_168) rfl).2 : zk_pok _ _ _ _ _ _ _ _ _ _ _ D _ _ 12 9 0) d1 d2 d3 d5 ⟨_, rfl⟩ (by decide +kernel : decode prog_14_method_12_code 106 = .ok (.putfield 181, 3)) (fun H3 r1 r2 r3 => ?_)
          have hT3 := zt_Tp_put hT2 hne d1 r1 r3
          generalize hlo : (locs ++ [(⟨q, _⟩ : Loc)]) ++ [(⟨o, _⟩ : Loc)] = lo3
          have hlc3 : ∀ z ∈ lo3, base ≤ z.base := by rw [← hlo]; exact zk_locs (zk_locs hlc hq) ho
          refine lv_iinc (v := ((nI k) + 1)) (lv' := [(7, .int ((nI k) + 1)), (8, .int (zf_bo a1 a2 a3 a4 a5 (nI k))), (0, .ref o), (1, .int a1), (2, .int a2), (3, .int a3), (4, .int a4), (5, .int a5)]) hx hb (by decide +kernel : decode prog_14_method_12_code 109 = .ok (.iinc 7 1, 3)) hl (k := 1) rfl rfl (by decide) rfl (fun ls hl => ?_)
          refine lv_goto (tgt := 62) hx hb (by decide +kernel : decode prog_14_method_12_code 112 = .ok (.goto (-50), 3)) (by decide) ?_
          rw [nI_1 k] at hl
          have et : zf_u a1 a2 a3 a4 a5 k = 1 := zf_u1 c_2
          rw [et] at hc
          exact ih (k + 1) (n + 1) H3 lo3 ls (by omega) (by omega) (by omega) hT3 (by rw [r2, q2]; exact hz) (fun x h1 h2 => by rw [r3 x h1, q3 x h2]; exact hsame x h1 h2) hlc3 (lv_sub hl [0, 2, 3, 4, 5, 6, 7] rfl)
  have loop1 : ∀ (j k n : Nat) (locs : List Loc) (ls : Array Slot), k + j = 20 → n ≤ k → (∀ z ∈ locs, base ≤ z.base) → lv_has ls 9 [(7, .int (nI k)), (6, .int (nI n)), (0, .ref o), (1, .int a1), (2, .int a2), (3, .int a3), (4, .int a4), (5, .int a5)] → W p l e (headSpec (Jvm.Cond.code yX12_feed prog_14_method_12_code 9 (some .int) :: zg_tb) { frames := 3, cells := 0, slots := 0, locals := 100 }).room s m (([Value.ref o, Value.int a1, Value.int a2, Value.int a3, Value.int a4, Value.int a5] : List Value).toArray) below meth c s.heap locs 0 0 (MQ below (fun _ _ oo tt => ∃ ov, oo = .returned ov ∧ ((fun ov H' => ov = some (.int (nI (zf_m a1 a2 a3 a4 a5 0 20))) ∧ H'.size = s.heap.size ∧ ∀ x : Nat, x ≠ o → x ≠ q → H'[x]? = s.heap[x]?) ov tt.heap)) (([Value.ref o, Value.int a1, Value.int a2, Value.int a3, Value.int a4, Value.int a5] : List Value).toArray) s 0 0 (fun q => base ≤ q)) (F0 m 6 ls []) := by
    intro j
    induction j with
    | zero =>
      intro k n locs ls hk hnk hlc hl
      have hk : k = 20 := by omega
      subst hk
      refine lv_iload hx hb (by decide +kernel : decode prog_14_method_12_code 6 = .ok (.iload 7, 2)) (lv_at hl 0 rfl) ?_
      refine lv_bipush (v := 20) hx hb (by decide +kernel : decode prog_14_method_12_code 8 = .ok (.bipush 20, 2)) (by decide) ?_
      refine lv_icmp_ge (tgt := 44) hx hb (by decide +kernel : decode prog_14_method_12_code 10 = .ok (.if_icmp .ge 34, 3)) (by decide) (fun c_1 => ?_) (fun c_1 => ?_)
      · refine lv_aload_n hx hb (by decide +kernel : decode prog_14_method_12_code 44 = .ok (.aload_n 0, 1)) rfl (lv_at hl 2 rfl) ?_
        obtain ⟨co, cq, e1, e2, e3, e4, e5, e6, e7, e8, e9, e10⟩ := id hT
        refine (zg_gok' S (hK.2.1 12 _ rfl) (fun w h => List.mem_cons_of_mem _ (zc12 w h)) rfl zt12_9 (List.mem_cons_of_mem _ zw5_168) : zk_gok _ _ _ _ _ _ _ _ _ _ _ D _ _ 12 9) e1 e2 (zk_vk_of e3) e5 (by decide +kernel : decode prog_14_method_12_code 45 = .ok (.getfield 181, 3)) ?_
        refine lv_iload hx hb (by decide +kernel : decode prog_14_method_12_code 48 = .ok (.iload 6, 2)) (lv_at hl 1 rfl) ?_
        refine lv_iadd hx hb (by decide +kernel : decode prog_14_method_12_code 50 = .ok (.iadd, 1)) ?_
        refine lv_sipush (v := 160) hx hb (by decide +kernel : decode prog_14_method_12_code 51 = .ok (.sipush 160, 3)) (by decide) ?_
        have hle : ((nI 0) + (nI n)) ≤ (160 : Int32) := by
          rw [show (160 : Int32) = nI 160 from rfl]
          simp only [nI_add]
          exact (zt_le (by omega) (by omega)).mpr (by omega)
        refine lv_icmp_le (tgt := 59) hx hb (by decide +kernel : decode prog_14_method_12_code 54 = .ok (.if_icmp .le 5, 3)) (by decide) (fun c_2 => ?_) (fun c_2 => absurd hle c_2)
        refine lv_iconst (v := 0) hx hb (by decide +kernel : decode prog_14_method_12_code 59 = .ok (.iconst 0, 1)) (by decide) ?_
        refine lv_istore (lv' := [(7, .int 0), (6, .int (nI n)), (0, .ref o), (1, .int a1), (2, .int a2), (3, .int a3), (4, .int a4), (5, .int a5)]) hx hb (by decide +kernel : decode prog_14_method_12_code 60 = .ok (.istore 7, 2)) hl (by decide) rfl (fun ls hl => ?_)
        exact loop2 20 0 0 s.heap locs ls rfl (by omega) (Nat.zero_add _) hT rfl (fun _ _ _ => rfl) hlc (lv_sub hl [0, 2, 3, 4, 5, 6, 7] rfl)
      · exact absurd (by decide : (20 : Int32) ≤ nI 20) c_1
    | succ j ih =>
      intro k n locs ls hk hnk hlc hl
      refine lv_iload hx hb (by decide +kernel : decode prog_14_method_12_code 6 = .ok (.iload 7, 2)) (lv_at hl 0 rfl) ?_
      refine lv_bipush (v := 20) hx hb (by decide +kernel : decode prog_14_method_12_code 8 = .ok (.bipush 20, 2)) (by decide) ?_
      refine lv_icmp_ge (tgt := 44) hx hb (by decide +kernel : decode prog_14_method_12_code 10 = .ok (.if_icmp .ge 34, 3)) (by decide) (fun c_1 => ?_) (fun c_1 => ?_)
      · exact absurd c_1 (fun hh => by rw [show (20 : Int32) = nI 20 from rfl] at hh; have := (zt_le (by omega) (by omega)).mp hh; omega)
      · refine lv_iload hx hb (by decide +kernel : decode prog_14_method_12_code 13 = .ok (.iload 6, 2)) (lv_at hl 1 rfl) ?_
        refine lv_iload_n hx hb (by decide +kernel : decode prog_14_method_12_code 15 = .ok (.iload_n 1, 1)) rfl (lv_at hl 3 rfl) ?_
        refine lv_iload_n hx hb (by decide +kernel : decode prog_14_method_12_code 16 = .ok (.iload_n 2, 1)) rfl (lv_at hl 4 rfl) ?_
        refine lv_iload_n hx hb (by decide +kernel : decode prog_14_method_12_code 17 = .ok (.iload_n 3, 1)) rfl (lv_at hl 5 rfl) ?_
        refine lv_iload hx hb (by decide +kernel : decode prog_14_method_12_code 18 = .ok (.iload 4, 2)) (lv_at hl 6 rfl) ?_
        refine lv_iload hx hb (by decide +kernel : decode prog_14_method_12_code 20 = .ok (.iload 5, 2)) (lv_at hl 7 rfl) ?_
        refine lv_iload hx hb (by decide +kernel : decode prog_14_method_12_code 22 = .ok (.iload 7, 2)) (lv_at hl 0 rfl) ?_
        refine zh_callS (fun w h => List.mem_cons_of_mem _ h) zg_tb_all S hK zg_Km ⟨rfl, rfl⟩ (zh_byteOf (D := D) (Hb := Hb) a1 a2 a3 a4 a5 (nI k)) zw6_168 zy_yX12_byteOf_S rfl hl.1 rfl ⟨rfl, rfl⟩ (Nat.le_of_ble_eq_true rfl) (Nat.le_of_ble_eq_true rfl) (by decide +kernel : decode prog_14_method_12_code 24 = .ok (.invokestatic 177, 3)) hlc (fun ov H' locs hh hlc => ?_)
        obtain ⟨rfl, hHe⟩ := hh
        rw [hHe]
        refine lv_if_eq (tgt := 34) hx hb (by decide +kernel : decode prog_14_method_12_code 27 = .ok (.ifCond .eq 7, 3)) (by decide) (fun c_2 => ?_) (fun c_2 => ?_)
        · refine lv_iconst (v := 0) hx hb (by decide +kernel : decode prog_14_method_12_code 34 = .ok (.iconst 0, 1)) (by decide) ?_
          refine lv_iadd hx hb (by decide +kernel : decode prog_14_method_12_code 35 = .ok (.iadd, 1)) ?_
          refine lv_istore (lv' := [(6, .int ((nI n) + 0)), (7, .int (nI k)), (0, .ref o), (1, .int a1), (2, .int a2), (3, .int a3), (4, .int a4), (5, .int a5)]) hx hb (by decide +kernel : decode prog_14_method_12_code 36 = .ok (.istore 6, 2)) hl (by decide) rfl (fun ls hl => ?_)
          refine lv_iinc (v := ((nI k) + 1)) (lv' := [(7, .int ((nI k) + 1)), (6, .int ((nI n) + 0)), (0, .ref o), (1, .int a1), (2, .int a2), (3, .int a3), (4, .int a4), (5, .int a5)]) hx hb (by decide +kernel : decode prog_14_method_12_code 38 = .ok (.iinc 7 1, 3)) hl (k := 1) rfl rfl (by decide) rfl (fun ls hl => ?_)
          refine lv_goto (tgt := 6) hx hb (by decide +kernel : decode prog_14_method_12_code 41 = .ok (.goto (-35), 3)) (by decide) ?_
          rw [nI_1 k, Int32.add_zero] at hl
          exact ih (k + 1) n locs ls (by omega) (by omega) hlc (lv_sub hl [0, 1, 2, 3, 4, 5, 6, 7] rfl)
        · refine lv_iconst (v := 1) hx hb (by decide +kernel : decode prog_14_method_12_code 30 = .ok (.iconst 1, 1)) (by decide) ?_
          refine lv_goto (tgt := 35) hx hb (by decide +kernel : decode prog_14_method_12_code 31 = .ok (.goto 4, 3)) (by decide) ?_
          refine lv_iadd hx hb (by decide +kernel : decode prog_14_method_12_code 35 = .ok (.iadd, 1)) ?_
          refine lv_istore (lv' := [(6, .int ((nI n) + 1)), (7, .int (nI k)), (0, .ref o), (1, .int a1), (2, .int a2), (3, .int a3), (4, .int a4), (5, .int a5)]) hx hb (by decide +kernel : decode prog_14_method_12_code 36 = .ok (.istore 6, 2)) hl (by decide) rfl (fun ls hl => ?_)
          refine lv_iinc (v := ((nI k) + 1)) (lv' := [(7, .int ((nI k) + 1)), (6, .int ((nI n) + 1)), (0, .ref o), (1, .int a1), (2, .int a2), (3, .int a3), (4, .int a4), (5, .int a5)]) hx hb (by decide +kernel : decode prog_14_method_12_code 38 = .ok (.iinc 7 1, 3)) hl (k := 1) rfl rfl (by decide) rfl (fun ls hl => ?_)
          refine lv_goto (tgt := 6) hx hb (by decide +kernel : decode prog_14_method_12_code 41 = .ok (.goto (-35), 3)) (by decide) ?_
          rw [nI_1 k, nI_1 n] at hl
          exact ih (k + 1) (n + 1) locs ls (by omega) (by omega) hlc (lv_sub hl [0, 1, 2, 3, 4, 5, 6, 7] rfl)
  have hlc : ∀ q ∈ ([] : List Loc), base ≤ q.base := fun q hq => absurd hq List.not_mem_nil
  refine lv_iconst (v := 0) hx hb (by decide +kernel : decode prog_14_method_12_code 0 = .ok (.iconst 0, 1)) (by decide) ?_
  refine lv_istore (lv' := [(6, .int 0), (0, .ref o), (1, .int a1), (2, .int a2), (3, .int a3), (4, .int a4), (5, .int a5)]) hx hb (by decide +kernel : decode prog_14_method_12_code 1 = .ok (.istore 6, 2)) hl (by decide) rfl (fun ls hl => ?_)
  refine lv_iconst (v := 0) hx hb (by decide +kernel : decode prog_14_method_12_code 3 = .ok (.iconst 0, 1)) (by decide) ?_
  refine lv_istore (lv' := [(7, .int 0), (6, .int 0), (0, .ref o), (1, .int a1), (2, .int a2), (3, .int a3), (4, .int a4), (5, .int a5)]) hx hb (by decide +kernel : decode prog_14_method_12_code 4 = .ok (.istore 7, 2)) hl (by decide) rfl (fun ls hl => ?_)
  exact loop1 20 0 0 [] ls rfl (Nat.le_refl 0) hlc (lv_sub hl [0, 1, 2, 3, 4, 5, 6, 7] rfl)
