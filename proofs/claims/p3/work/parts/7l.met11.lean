/-! CONTRACTS MET: found by wip/an (python). -/
noncomputable section
set_option maxRecDepth 100000 in
def qP429 : zk_P := ([], [], [], [], [], [], [])
set_option maxRecDepth 100000 in
def qX429 : zk_Hd := (0, zk_x0 qC429, [(0, none, none)], 0, 0)
set_option maxRecDepth 100000 in
theorem qk429 : zk_chk qK qP429 prog_14_method_50_code 6 qC429 (some .int) [] [qX429] 5 1 = true := by decide +kernel
set_option maxRecDepth 100000 in
theorem qh93_429 : zk_chf qK qP429 prog_14_method_50_code 6 qC429 (some .int) [] [] (93, zq_woY qX429.2.1, [], 0, 0) 5 1 = true := by decide +kernel
set_option maxRecDepth 100000 in
theorem qh113_429 : zk_chf qK qP429 prog_14_method_50_code 6 qC429 (some .int) [] [] (113, zq_woY qX429.2.1, [], 0, 0) 5 1 = true := by decide +kernel
set_option maxRecDepth 100000 in
theorem qe428 : (qC428.2.1.all fun t => match t.2.2.1 with | [k] => Nat.beq (zk_lk t.2.2.2.1 k).1 0 | _ => false) = true := by decide +kernel
set_option maxRecDepth 100000 in
theorem zq_ends1 {D : zk_D} {base : Nat} {Hb : Heap} {C : zk_C} {v : Nat → Value} {G : Nat → Nat} {H H' : Heap} {o : Option Value} (hC : (C.2.1.all fun t => match t.2.2.1 with | [k] => Nat.beq (zk_lk t.2.2.2.1 k).1 0 | _ => false) = true) (hE : C.2.2.1 = []) (h : zk_Qc qK D base Hb C v G H o H') : ∃ (r : Int32) (G' : Nat → Nat), o = some (.int r) ∧ zk_hp qK D base Hb G' H' ∧ zk_ev qK D [] G H G' H' := by
  obtain ⟨G', v', t, ht, ho, -, -, -, -, hp', ev', hF'⟩ := h
  have := List.all_eq_true.mp hC t ht
  rw [hE] at ev'
  split at this
  · rename_i k hk
    rw [hk] at ho
    obtain ⟨r, er, -, -⟩ := zk_gi (zk_F_ty hF' k) (Nat.eq_of_beq_eq_true this)
    exact ⟨r, G', by rw [ho, ← er]; rfl, hp', ev'⟩
  · cases this
set_option maxHeartbeats 4000000 in
set_option maxRecDepth 100000 in
theorem zh_work {l : Launch} {D : zk_D} {base : Nat} {Hb H : Heap} {B B' : Int} {G : Nat → Nat} {a bc bp bl pos tot : Nat} {cc0 : Cell} {rd : Int32} (hBB : (B = 1000 ∧ B' = 4000) ∨ (B = 4000 ∧ B' = 0)) (h1 : tot ≤ cc0.slots.size) (h2 : cc0.slots.size ≤ 90000) (h3 : ∀ j : Nat, j < cc0.slots.size → ∃ q : Int32, cc0.slots[j]? = some (.int q)) (hpos : pos ≤ tot) (hrd : rd.toInt = (pos : Int)) (hrun : zq_run B (zq_seg cc0 pos (tot - pos)) = 0) (hwk : zq_wk D base Hb a bc bp bl cc0 G H rd) : zh_Met l base (zg_K D base Hb) yX12_work (Jvm.Cond.code yX12_work prog_14_method_49_code 3 (some .int) :: zg_tb) ({ frames := 4, cells := 0, slots := 0, locals := 86 } : Room) [.ref a] H (fun ov H' => ∃ (w rd1 : Int32) (pos1 : Nat) (G1 : Nat → Nat), ov = some (.int w) ∧ zq_wk D base Hb a bc bp bl cc0 G1 H' rd1 ∧ zk_ev qK D zq_wE G H G1 H' ∧ rd1.toInt = (pos1 : Int) ∧ pos < pos1 ∧ pos1 ≤ tot ∧ zq_run B' (zq_seg cc0 pos1 (tot - pos1)) = 0) := by
  refine Met.ofW (cc := prog_14_method_49_code) (maxL := 3) (ret := (some .int)) (by decide +kernel) rfl ?_
  intro p e s m args below meth c s₁ Bd hml hv
  obtain ⟨rfl, hH, hK⟩ := hv
  subst hH
  have hx := Bd.exec
  have hb := Bd.bytes
  have hr := Bd.returns
  have hlocks := Bd.notSynchronized
  have S : CallFix p m c prog_14_method_49_code 3 s _ (Jvm.Cond.code yX12_work prog_14_method_49_code 3 (some .int) :: zg_tb) RX12 := ⟨hx, hb, hml, findClass_of_methodNamed Bd.named, atoms_spec (ws := (Jvm.Cond.code yX12_work prog_14_method_49_code 3 (some .int) :: zg_tb)) Bd.pre⟩
  have hl := lv_entry ([.ref a]) (n := 3) (Nat.le_of_ble_eq_true rfl)
  rw [lg_entry_eq]
  generalize (lg_sl ([.ref a]) ++ List.replicate (3 - (lg_sl ([.ref a])).length) Slot.unset).toArray = ls at hl ⊢
  have hl : lv_has ls 3 [(0, .ref a)] := hl
  refine lv_iconst (v := nI 0) hx hb (by decide +kernel : decode prog_14_method_49_code 0 = .ok (.iconst 0, 1)) rfl ?_
  refine lv_istore_n (lv' := [(1, .int (nI 0)), (0, .ref a)]) hx hb (by decide +kernel : decode prog_14_method_49_code 1 = .ok (.istore_n 1, 1)) rfl hl (by decide) rfl (fun ls hl => ?_)
  have hw := zg_wd hK
  refine zq_wk_loop (pos0 := pos) (cells := 0) (slots := 0) hx hb hw.1 hw.2.1 (hw.2.2.1 0 _ hw.2.2.2.1) (zg_gp4 S (hK.2.1 12 _ rfl) (fun w h => (List.mem_cons_of_mem _ (zc12 w h))) rfl zt12_19 (List.mem_cons_of_mem _ zw5_178)).1 (zg_gp (ft := 0) S (hK.2.1 12 _ rfl) (fun w h => (List.mem_cons_of_mem _ (zc12 w h))) rfl zt12_29 (List.mem_cons_of_mem _ zw5_188) rfl).1 (zg_gp (ft := 0) S (hK.2.1 12 _ rfl) (fun w h => (List.mem_cons_of_mem _ (zc12 w h))) rfl zt12_29 (List.mem_cons_of_mem _ zw5_188) rfl).2 (zg_gp4 S (hK.2.1 12 _ rfl) (fun w h => (List.mem_cons_of_mem _ (zc12 w h))) rfl zt12_28 (List.mem_cons_of_mem _ zw5_187)).1 (zg_gp4 S (hK.2.1 12 _ rfl) (fun w h => (List.mem_cons_of_mem _ (zc12 w h))) rfl zt12_27 (List.mem_cons_of_mem _ zw5_186)).1 hBB h1 h2 h3 (fun {G2 H2 locs2 ls2 x y z rest} hp2 hl2 hcat hsz kk => ?_) (fun G1 H1 locs1 ls1 w rd1 pos1 b1 b2 b3 b4 b5 b6 b7 => ?_) (tot - pos) (tot - pos) 0 pos G s.heap [] ls rd (Nat.le_refl _) (Nat.add_sub_cancel' hpos) (Nat.le_refl _) (Nat.zero_le _) hrd (by rw [show B + ((0 : Nat) : Int) = B from Int.add_zero B]; exact hrun) hwk zk_ev_rf (fun q hq => absurd hq List.not_mem_nil) hl
  · obtain ⟨ins, hd, hcok⟩ := zg_callS (KT := qK) (D := D) (base := base) (Hb := Hb) (e := e) (below := below) (meth := meth) (Q := MQ below _ _ s 0 0 (fun q => base ≤ q)) (R := (headSpec (Jvm.Cond.code yX12_work prog_14_method_49_code 3 (some .int) :: zg_tb) ({ frames := 4, cells := 0, slots := 0, locals := 86 } : Room)).room) (fun w h => List.mem_cons_of_mem _ h) zg_tb_all S hK zg_Km qm428 zw7_196 zy_yX12_both_S (by decide +kernel) ⟨rfl, rfl⟩ (by decide +kernel : decode prog_14_method_49_code 167 = .ok (.invokestatic 331, 3))
    have hF : zk_F qK D G2 H2 (fun i => if i = 0 then .int x else if i = 1 then .int y else .int z) ((3, [], [0, 1, 2], [(0, zk_I), (1, zk_I), (2, zk_I)], [], [], [], [], [], none) : zk_S) := by
      refine ⟨fun q hq => ?_, fun q hq => absurd hq List.not_mem_nil, fun q hq => absurd hq List.not_mem_nil, fun q hq => absurd hq List.not_mem_nil, fun q hq => absurd hq List.not_mem_nil, fun q hq => absurd hq List.not_mem_nil, fun x hx => by cases hx⟩
      simp only [List.mem_cons, List.not_mem_nil, or_false] at hq
      rcases hq with rfl | rfl | rfl
      · exact ⟨by decide, zk_tv_I x⟩
      · exact ⟨by decide, zk_tv_I y⟩
      · exact ⟨by decide, zk_tv_I z⟩
    exact hcok hp2 hF hl2 (Nat.zero_le _) (Nat.zero_le _) hcat hsz hd (fun o H' locs' hq hl' => by
      obtain ⟨r, G', rfl, hp', ev'⟩ := zq_ends1 qe428 rfl hq
      exact kk r G' H' locs' hp' ev' hl')
  · exact W.iret hx hb hr (fun t ht _ => ⟨_, rfl, w, rd1, pos1, G1, rfl, by rw [ht]; exact b1, by rw [ht]; exact b2, b4, b5, b6, b7⟩) b3 (by decide +kernel : decode prog_14_method_49_code 190 = .ok (.ireturn, 1))
set_option maxRecDepth 100000 in
theorem qo429 {p : Program} {l : Launch} {e : Env} {s : State} {m : MethodId} {args : Array Value} {below : List Frame} {meth : Method} {c : Code} {s₁ : State} {Q : State → Prop} {D : zk_D} {base : Nat} {Hb : Heap} (B : BodyLoose p l yX12_worth (headSpec (Jvm.Cond.code yX12_worth prog_14_method_50_code 6 (some .int) :: zg_tb) qR429) prog_14_method_50_code 6 (some .int) e s m args below meth c s₁) (hml : c.maxLocals = 6) (hK : zg_K D base Hb s) : zk_ok p l e (headSpec (Jvm.Cond.code yX12_worth prog_14_method_50_code 6 (some .int) :: zg_tb) qR429).room s m args below meth c Q qK D base Hb 6 prog_14_method_50_code qP429 qC429.2.2.2.2 := by
  have nil : ∀ {α : Type} {f : α → Prop}, ∀ q ∈ ([] : List α), f q := fun q h => absurd h List.not_mem_nil
  exact ⟨nil, nil, nil, nil, fun h => absurd rfl h, nil, nil⟩
set_option maxHeartbeats 4000000 in
set_option maxRecDepth 100000 in
theorem qm429 {l : Launch} {D : zk_D} {base : Nat} {Hb : Heap} : zk_Met l qK D base Hb (zg_K D base Hb) yX12_worth (Jvm.Cond.code yX12_worth prog_14_method_50_code 6 (some .int) :: zg_tb) qR429 qC429 :=
  zk_met (ws' := zg_tb) (P := qP429) (AT := zg_AT) (by decide +kernel) rfl rfl rfl qk429 (fun s hK => zg_wd hK) (fun p e s m args below meth c s₁ Q B hml hK => qo429 B hml hK) (fun p e s m args below meth c s₁ v G0 H0 B hml hK ha hp0 hF0 q hq G H locs ls vs v' hp he hl hF hL => by
    have hq := List.mem_singleton.mp hq
    subst hq
    have S : CallFix p m c prog_14_method_50_code 6 s args (Jvm.Cond.code yX12_worth prog_14_method_50_code 6 (some .int) :: zg_tb) RX12 := ⟨B.exec, B.bytes, hml, findClass_of_methodNamed B.named, atoms_spec (ws := (Jvm.Cond.code yX12_worth prog_14_method_50_code 6 (some .int) :: zg_tb)) B.pre⟩
    exact zq_wo_x (x := qX429.2.1) B.exec B.bytes (zg_wd hK) (qo429 B hml hK) rfl rfl B.returns B.notSynchronized (fun t h => h) hK.1.2.2 (by decide +kernel) (zg_gp4 S (hK.2.1 12 _ rfl) (fun w h => (List.mem_cons_of_mem _ (zc12 w h))) rfl zt12_19 (List.mem_cons_of_mem _ zw5_178)).1 (zg_gp (ft := 0) S (hK.2.1 12 _ rfl) (fun w h => (List.mem_cons_of_mem _ (zc12 w h))) rfl zt12_29 (List.mem_cons_of_mem _ zw5_188) rfl).1 (zg_gp (ft := 0) S (hK.2.1 12 _ rfl) (fun w h => (List.mem_cons_of_mem _ (zc12 w h))) rfl zt12_29 (List.mem_cons_of_mem _ zw5_188) rfl).2 (zg_gp4 S (hK.2.1 12 _ rfl) (fun w h => (List.mem_cons_of_mem _ (zc12 w h))) rfl zt12_20 (List.mem_cons_of_mem _ zw5_179)).1 (zg_gp (ft := 0) S (hK.2.1 12 _ rfl) (fun w h => (List.mem_cons_of_mem _ (zc12 w h))) rfl zt12_30 (List.mem_cons_of_mem _ zw5_189) rfl).1 (zg_gp (ft := 0) S (hK.2.1 12 _ rfl) (fun w h => (List.mem_cons_of_mem _ (zc12 w h))) rfl zt12_30 (List.mem_cons_of_mem _ zw5_189) rfl).2 (fun a bc bp bl cc0 tot h1 h2 h3 => fun {B B' G2 H2 locs2 ls2 pc pos rd} hBB hpc hpos hrd hrun hwk hl2 hsz kk => by
      rcases hpc with rfl | rfl
      · refine zh_callV (b := a) (As := []) (rest := []) (fun w h => List.mem_cons_of_mem _ h) zg_tb_all S hK zg_Km ⟨rfl, rfl⟩ (zh_work (D := D) (Hb := Hb) hBB h1 h2 h3 hpos hrd hrun hwk) zw7_192 zy_yX12_work_V ?_ rfl hsz rfl ⟨rfl, rfl⟩ (Nat.zero_le _) (Nat.zero_le _) (by decide +kernel : decode prog_14_method_50_code 63 = .ok (.invokevirtual 338, 3)) hl2 (fun o H3 locs3 ho hl3 => ?_)
        · obtain ⟨cell, ⟨d1, d2, d3⟩, -⟩ := zq_wk_obj hwk
          exact ⟨cell, d1, d3, by rw [d2]; exact (hK.2.1 12 _ rfl).2.1⟩
        · obtain ⟨w, rd1, pos1, G1, rfl, b1, b2, b3, b4, b5, b6⟩ := ho
          exact kk w rd1 pos1 G1 H3 locs3 b1 b2 hl3 b3 b4 b5 b6
      · refine zh_callV (b := a) (As := []) (rest := []) (fun w h => List.mem_cons_of_mem _ h) zg_tb_all S hK zg_Km ⟨rfl, rfl⟩ (zh_work (D := D) (Hb := Hb) hBB h1 h2 h3 hpos hrd hrun hwk) zw7_192 zy_yX12_work_V ?_ rfl hsz rfl ⟨rfl, rfl⟩ (Nat.zero_le _) (Nat.zero_le _) (by decide +kernel : decode prog_14_method_50_code 77 = .ok (.invokevirtual 338, 3)) hl2 (fun o H3 locs3 ho hl3 => ?_)
        · obtain ⟨cell, ⟨d1, d2, d3⟩, -⟩ := zq_wk_obj hwk
          exact ⟨cell, d1, d3, by rw [d2]; exact (hK.2.1 12 _ rfl).2.1⟩
        · obtain ⟨w, rd1, pos1, G1, rfl, b1, b2, b3, b4, b5, b6⟩ := ho
          exact kk w rd1 pos1 G1 H3 locs3 b1 b2 hl3 b3 b4 b5 b6) rfl rfl (by decide +kernel) (by decide +kernel) (by decide +kernel) (by decide +kernel) (by decide +kernel) (by decide +kernel) (by decide +kernel) (by decide +kernel) qh93_429 qh113_429 hp he hl hF hL)
end
