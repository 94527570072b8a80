/-! THE LAW, 2: its start -/
noncomputable section
set_option maxRecDepth 100000 in
theorem lw_m1 {w : Jvm.Cond} {i : Nat} (h : tables_1_1[i]? = some w) : w ∈ lw_tbl := by
  have h := List.mem_of_getElem? h
  exact List.mem_append_right _ (List.mem_append_left _ h)
set_option maxRecDepth 100000 in
theorem lw_m2 {w : Jvm.Cond} {i : Nat} (h : tables_1_2[i]? = some w) : w ∈ lw_tbl := by
  have h := List.mem_of_getElem? h
  exact List.mem_append_right _ (List.mem_append_right _ (List.mem_append_left _ h))
set_option maxRecDepth 100000 in
theorem lw_m3 {w : Jvm.Cond} {i : Nat} (h : tables_1_3[i]? = some w) : w ∈ lw_tbl := by
  have h := List.mem_of_getElem? h
  exact List.mem_append_right _ (List.mem_append_right _ (List.mem_append_right _ (List.mem_append_left _ h)))
set_option maxRecDepth 100000 in
theorem lw_m4 {w : Jvm.Cond} {i : Nat} (h : tables_1_4[i]? = some w) : w ∈ lw_tbl := by
  have h := List.mem_of_getElem? h
  exact List.mem_append_right _ (List.mem_append_right _ (List.mem_append_right _ (List.mem_append_right _ (List.mem_append_left _ h))))
set_option maxRecDepth 100000 in
theorem lw_m5 {w : Jvm.Cond} {i : Nat} (h : tables_1_5[i]? = some w) : w ∈ lw_tbl := by
  have h := List.mem_of_getElem? h
  exact List.mem_append_right _ (List.mem_append_right _ (List.mem_append_right _ (List.mem_append_right _ (List.mem_append_right _ (List.mem_append_left _ h)))))
set_option maxRecDepth 100000 in
theorem lw_m6 {w : Jvm.Cond} {i : Nat} (h : tables_1_6[i]? = some w) : w ∈ lw_tbl := by
  have h := List.mem_of_getElem? h
  exact List.mem_append_right _ (List.mem_append_right _ (List.mem_append_right _ (List.mem_append_right _ (List.mem_append_right _ (List.mem_append_right _ (List.mem_append_left _ h))))))
set_option maxRecDepth 100000 in
theorem lw_m7 {w : Jvm.Cond} {i : Nat} (h : tables_1_7[i]? = some w) : w ∈ lw_tbl := by
  have h := List.mem_of_getElem? h
  exact List.mem_append_right _ (List.mem_append_right _ (List.mem_append_right _ (List.mem_append_right _ (List.mem_append_right _ (List.mem_append_right _ (List.mem_append_right _ (List.mem_append_left _ h)))))))
set_option maxRecDepth 100000 in
theorem lw_m8 {w : Jvm.Cond} {i : Nat} (h : tables_1_8[i]? = some w) : w ∈ lw_tbl := by
  have h := List.mem_of_getElem? h
  exact List.mem_append_right _ (List.mem_append_right _ (List.mem_append_right _ (List.mem_append_right _ (List.mem_append_right _ (List.mem_append_right _ (List.mem_append_right _ (List.mem_append_right _ (h))))))))
set_option maxRecDepth 100000 in
theorem lw_arr {s : State} {args : Array Value} {ty : FieldType} (h : (Jvm.Cond.arrayClass ty).before args s = true) : ∃ cA : ClassId, s.vm.findClass ("[" ++ ty.toString) = some cA ∧ ArrOfT s cA ty := by
  obtain ⟨cA, kA, comp, h1, h2, h3⟩ := Cond.arrayClass_spec h
  exact ⟨cA, h1, fun n z => ⟨fun k h => (by cases h), kA, h2, comp, h3⟩⟩
set_option maxRecDepth 100000 in
theorem lw_arrC {s : State} {args : Array Value} {C : String} (h : (Jvm.Cond.arrayOver (.object C)).before args s = true) : ∃ cA : ClassId, s.vm.findClass ("[" ++ (FieldType.object C).toString) = some cA ∧ ArrOfT s cA (.object C) := by
  obtain ⟨comp, cA, kA, h1, h2, h3, h4, h5⟩ := Cond.arrayOver_spec h
  exact ⟨cA, h5, fun n z => ⟨fun k h => (by cases h), kA, h3, comp, h4⟩⟩
set_option maxRecDepth 100000 in
theorem lw_arrA {s : State} {args : Array Value} {t : FieldType} (h : (Jvm.Cond.arrayOver (.array t)).before args s = true) : ∃ cA : ClassId, s.vm.findClass ("[" ++ (FieldType.array t).toString) = some cA ∧ ArrOfT s cA (.array t) := by
  obtain ⟨comp, cA, kA, h1, h2, h3, h4, h5⟩ := arrayOverA_spec h
  exact ⟨cA, h5, fun n z => ⟨fun k h => (by cases h), kA, h3, comp, h4⟩⟩
set_option maxRecDepth 100000 in
theorem lw_lenlt {args : Array Value} {s : State} {u : Term} {v : Value} {t : Nat} {ct : Cell} (hv : (Term.length u).eval args s none [] s = some v) (ht : u.eval args s none [] s = some (.ref t)) (harr : s.arrayAt? t = some ct) : ct.slots.size < 2 ^ 31 := by
  simp only [Term.eval, ht, harr, Option.bind_eq_bind, Option.bind_some] at hv
  by_cases hlt : ct.slots.size < 2147483648
  · exact hlt
  · simp [hlt] at hv
set_option maxRecDepth 100000 in
/-- a String constant whose bytes are said -/
theorem lw_str {args : Array Value} {s : State} {tm : Term} {N : Nat} {byt : Nat → Int32} (hN : N < 2 ^ 31) (hex : (Jvm.Cond.exactly tm "java/lang/String").before args s = true) (hco : (Jvm.Cond.eq (.field tm "java/lang/String" "coder" "B") (.int 0)).before args s = true)
    (har : (Jvm.Cond.arrayOf (.field tm "java/lang/String" "value" "[B") .byte).before args s = true) (hle : (Jvm.Cond.eq (.length (.field tm "java/lang/String" "value" "[B")) (.int (Int32.ofNat N))).before args s = true)
    (hel : ∀ j : Nat, j < N → (Jvm.Cond.eq (.elem (.field tm "java/lang/String" "value" "[B") (.int (Int32.ofNat j))) (.int (byt j))).before args s = true) :
    ∃ (a t : Nat) (ca ct : Cell), tm.eval args s none [] s = some (.ref a) ∧ s.heap[a]? = some ca ∧ zk_vk ca ∧ s.vm.findClass "java/lang/String" = some ca.cls ∧ s.heap[t]? = some ct ∧ s.isArrayOf ct .byte ∧ zk_vk ct ∧ ct.slots.size = N ∧ (∀ j : Nat, j < N → ct.slots[j]? = some (.int (byt j))) ∧
      (∃ (cf : ClassId) (k : Class) (i : Nat) (fd : Field), s.fieldFound? "java/lang/String" "value" "[B" = some (cf, k, i, fd) ∧ fd.isStatic = false ∧ ca.slots[fd.slot]? = some (.ref t)) ∧
      ∃ (cf : ClassId) (k : Class) (i : Nat) (fd : Field), s.fieldFound? "java/lang/String" "coder" "B" = some (cf, k, i, fd) ∧ fd.isStatic = false ∧ ca.slots[fd.slot]? = some (.int 0) := by
  obtain ⟨a, c, ca, kA, q1, q2, q3, q4, q5, q6, -⟩ := Cond.exactly_spec (args := args) (first := s) (o := none) (s := s) (idx := []) (t := tm) (cls := "java/lang/String") hex
  have hA : ∀ a : Nat, a < s.heap.size → ¬ (fun _ : Nat => False) a := fun _ _ h => h
  have hlen := va_eqt hle
  obtain ⟨t, ht, cell, t1, t2, t3, t4, t5, t6, -⟩ := va_Tof (f := fun j => .int (byt j)) (A := fun _ => False) hN har hlen (fun j hj => va_eqt (hel j hj)) hA
  obtain ⟨cf, k, i, fd, cx, r1, r2, r3, r4, r5, -⟩ := vk_OFof (A := fun _ => False) q1 ht hA
  obtain ⟨cf2, k2, i2, fd2, cx2, w1, w2, w3, w4, w5, -⟩ := vk_OFof (A := fun _ => False) q1 (va_eqt hco) hA
  rw [q3] at r3 w3; cases r3; cases w3
  obtain ⟨t', ct, e1, e2, -⟩ := Term.length_spec hlen
  rw [ht] at e1; cases e1
  have hsz : ct.slots.size < 2 ^ 31 := lw_lenlt hlen ht e2
  obtain ⟨g1, g2, g3, -⟩ := State.arrayAt?_spec e2
  rw [t1] at g1; cases g1
  have hNs : cell.slots.size = N := by
    have e := congrArg Int32.toInt t5
    rw [show (cell.slots.size.toInt32).toInt = ((cell.slots.size : Nat) : Int) from nI_toInt hsz, show (Int32.ofNat N).toInt = (N : Int) from nI_toInt hN] at e
    omega
  exact ⟨a, t, ca, cell, q1, q3, ⟨r4, q5⟩, by rw [q6]; exact q2, t1, t2, ⟨g2, g3⟩, hNs, t6, ⟨cf, k, i, fd, r1, r2, r5⟩, cf2, k2, i2, fd2, w1, w2, w5⟩
set_option maxRecDepth 100000 in
theorem lw_cls {s : State} {args : Array Value} (hts : ∀ w ∈ lw_tbl, w.before args s = true) : ∃ f : Nat → ClassId × (Nat → Nat), ∀ (ci : Nat) (q : vw_C), zg_cls[ci]? = some q → u_Kn s q.1 q.2.1 q.2.2 (f ci).1 (f ci).2 := by
  have h : ∀ ci : Nat, ∃ r : ClassId × (Nat → Nat), ∀ q : vw_C, zg_cls[ci]? = some q → u_Kn s q.1 q.2.1 q.2.2 r.1 r.2 := by
    intro ci
    match ci with
    | 0 => obtain ⟨cC, iS, h⟩ := u_known (C := RX0) (T := TX0) (N := 7) (n := 7) hts (fun w h => zg_tb_lw w (zc0 w h)) (hts _ (zg_tb_lw _ zw1_130)); exact ⟨(cC, iS), fun q hq => by cases hq; exact h⟩
    | 1 => obtain ⟨cC, iS, h⟩ := u_known (C := RX1) (T := TX1) (N := 17) (n := 17) hts (fun w h => zg_tb_lw w (zc1 w h)) (hts _ (zg_tb_lw _ zw3_208)); exact ⟨(cC, iS), fun q hq => by cases hq; exact h⟩
    | 2 => obtain ⟨cC, iS, h⟩ := u_known (C := RX2) (T := TX2) (N := 4) (n := 4) hts (fun w h => zg_tb_lw w (zc2 w h)) (hts _ (zg_tb_lw _ zw1_89)); exact ⟨(cC, iS), fun q hq => by cases hq; exact h⟩
    | 3 => obtain ⟨cC, iS, h⟩ := u_known (C := RX3) (T := TX3) (N := 5) (n := 5) hts (fun w h => zg_tb_lw w (zc3 w h)) (hts _ (zg_tb_lw _ zw2_3)); exact ⟨(cC, iS), fun q hq => by cases hq; exact h⟩
    | 4 => obtain ⟨cC, iS, h⟩ := u_known (C := RX4) (T := TX4) (N := 8) (n := 8) hts (fun w h => zg_tb_lw w (zc4 w h)) (hts _ (zg_tb_lw _ zw1_32)); exact ⟨(cC, iS), fun q hq => by cases hq; exact h⟩
    | 5 => obtain ⟨cC, iS, h⟩ := u_known (C := RX5) (T := TX5) (N := 10) (n := 10) hts (fun w h => zg_tb_lw w (zc5 w h)) (hts _ (zg_tb_lw _ zw1_172)); exact ⟨(cC, iS), fun q hq => by cases hq; exact h⟩
    | 6 => obtain ⟨cC, iS, h⟩ := u_known (C := RX6) (T := TX6) (N := 4) (n := 4) hts (fun w h => zg_tb_lw w (zc6 w h)) (hts _ (zg_tb_lw _ zw1_111)); exact ⟨(cC, iS), fun q hq => by cases hq; exact h⟩
    | 7 => obtain ⟨cC, iS, h⟩ := u_known (C := RX7) (T := TX7) (N := 6) (n := 6) hts (fun w h => zg_tb_lw w (zc7 w h)) (hts _ (zg_tb_lw _ zw2_27)); exact ⟨(cC, iS), fun q hq => by cases hq; exact h⟩
    | 8 => obtain ⟨cC, iS, h⟩ := u_known (C := RX8) (T := TX8) (N := 2) (n := 2) hts (fun w h => zg_tb_lw w (zc8 w h)) (hts _ (zg_tb_lw _ zw1_72)); exact ⟨(cC, iS), fun q hq => by cases hq; exact h⟩
    | 9 => obtain ⟨cC, iS, h⟩ := u_known (C := RX9) (T := TX9) (N := 6) (n := 6) hts (fun w h => zg_tb_lw w (zc9 w h)) (hts _ (zg_tb_lw _ zw4_106)); exact ⟨(cC, iS), fun q hq => by cases hq; exact h⟩
    | 10 => obtain ⟨cC, iS, h⟩ := u_known (C := RX10) (T := TX10) (N := 6) (n := 6) hts (fun w h => zg_tb_lw w (zc10 w h)) (hts _ (zg_tb_lw _ zw1_212)); exact ⟨(cC, iS), fun q hq => by cases hq; exact h⟩
    | 11 => obtain ⟨cC, iS, h⟩ := u_known (C := RX11) (T := TX11) (N := 17) (n := 17) hts (fun w h => zg_tb_lw w (zc11 w h)) (hts _ (zg_tb_lw _ zw1_24)); exact ⟨(cC, iS), fun q hq => by cases hq; exact h⟩
    | 12 => obtain ⟨cC, iS, h⟩ := u_known (C := RX12) (T := TX12) (N := 71) (n := 71) hts (fun w h => zg_tb_lw w (zc12 w h)) (hts _ (zg_tb_lw _ zw5_154)); exact ⟨(cC, iS), fun q hq => by cases hq; exact h⟩
    | k + 13 => exact ⟨(0, fun _ => 0), fun q hq => by cases hq⟩
  obtain ⟨f, hf⟩ := Classical.axiomOfChoice h
  exact ⟨f, hf⟩
set_option maxRecDepth 100000 in
def lw_N : Nat → Nat := fun ci => ([7, 17, 4, 5, 8, 10, 4, 6, 2, 6, 6, 17, 71, 2] : List Nat).getD ci 0
set_option maxRecDepth 100000 in
theorem lw_apart {s : State} {args : Array Value} {dC : Nat → ClassId} {dI : Nat → Nat → Nat} (hts : ∀ w ∈ lw_tbl, w.before args s = true) (hKc : va_K (dC, dI) zg_cls [] s) (hS : dI 13 0 ≠ dI 13 1) : ∀ ci x y, x < lw_N ci → y < lw_N ci → x ≠ y → dI ci x ≠ dI ci y := by
  intro ci x y hx hy hne
  match ci with
  | 0 => exact va_apart (own := RX0) (C := RX0) (T := TX0) (N := 7) (ci := 0) hts (fun w h => zg_tb_lw w (zc0 w h)) tyX0 tyX0_ok nmX0 hKc rfl x y hx hy hne
  | 1 => exact va_apart (own := RX1) (C := RX1) (T := TX1) (N := 17) (ci := 1) hts (fun w h => zg_tb_lw w (zc1 w h)) tyX1 tyX1_ok nmX1 hKc rfl x y hx hy hne
  | 2 => exact va_apart (own := RX2) (C := RX2) (T := TX2) (N := 4) (ci := 2) hts (fun w h => zg_tb_lw w (zc2 w h)) tyX2 tyX2_ok nmX2 hKc rfl x y hx hy hne
  | 3 => exact va_apart (own := RX3) (C := RX3) (T := TX3) (N := 5) (ci := 3) hts (fun w h => zg_tb_lw w (zc3 w h)) tyX3 tyX3_ok nmX3 hKc rfl x y hx hy hne
  | 4 => exact va_apart (own := RX4) (C := RX4) (T := TX4) (N := 8) (ci := 4) hts (fun w h => zg_tb_lw w (zc4 w h)) tyX4 tyX4_ok nmX4 hKc rfl x y hx hy hne
  | 5 => exact va_apart (own := RX5) (C := RX5) (T := TX5) (N := 10) (ci := 5) hts (fun w h => zg_tb_lw w (zc5 w h)) tyX5 tyX5_ok nmX5 hKc rfl x y hx hy hne
  | 6 => exact va_apart (own := RX6) (C := RX6) (T := TX6) (N := 4) (ci := 6) hts (fun w h => zg_tb_lw w (zc6 w h)) tyX6 tyX6_ok nmX6 hKc rfl x y hx hy hne
  | 7 => exact va_apart (own := RX7) (C := RX7) (T := TX7) (N := 6) (ci := 7) hts (fun w h => zg_tb_lw w (zc7 w h)) tyX7 tyX7_ok nmX7 hKc rfl x y hx hy hne
  | 8 => exact va_apart (own := RX8) (C := RX8) (T := TX8) (N := 2) (ci := 8) hts (fun w h => zg_tb_lw w (zc8 w h)) tyX8 tyX8_ok nmX8 hKc rfl x y hx hy hne
  | 9 => exact va_apart (own := RX9) (C := RX9) (T := TX9) (N := 6) (ci := 9) hts (fun w h => zg_tb_lw w (zc9 w h)) tyX9 tyX9_ok nmX9 hKc rfl x y hx hy hne
  | 10 => exact va_apart (own := RX10) (C := RX10) (T := TX10) (N := 6) (ci := 10) hts (fun w h => zg_tb_lw w (zc10 w h)) tyX10 tyX10_ok nmX10 hKc rfl x y hx hy hne
  | 11 => exact va_apart (own := RX11) (C := RX11) (T := TX11) (N := 17) (ci := 11) hts (fun w h => zg_tb_lw w (zc11 w h)) tyX11 tyX11_ok nmX11 hKc rfl x y hx hy hne
  | 12 => exact va_apart (own := RX12) (C := RX12) (T := TX12) (N := 71) (ci := 12) hts (fun w h => zg_tb_lw w (zc12 w h)) tyX12 tyX12_ok nmX12 hKc rfl x y hx hy hne
  | 13 =>
    have hx : x < 2 := hx
    have hy : y < 2 := hy
    rcases (show (x = 0 ∧ y = 1) ∨ (x = 1 ∧ y = 0) by omega) with ⟨rfl, rfl⟩ | ⟨rfl, rfl⟩
    · exact hS
    · exact hS.symm
  | k + 14 => exact absurd hx (Nat.not_lt_zero x)
set_option maxHeartbeats 4000000 in
set_option maxRecDepth 100000 in
/-- what is known at the law's entry: the tables, the classes, the cells of the script and of the Strings -/
theorem lw_start {p : Program} {s : State} {m : MethodId} {meth : Method} {c : Code} {b L : Nat} {xs : Nat → Int32} (hL : L ≤ 3072) (C0 : lw_At p s m meth c b L xs) : ∃ (D : zk_D) (G0 : Nat → Nat), zg_K D s.heap.size s.heap s ∧ G0 b = 1 ∧ zk_hp qK D s.heap.size s.heap G0 s.heap := by
  obtain ⟨hx, hb, hr, hml, hown, hts, hX, hbl, hlocks, hgv⟩ := C0
  have hs := flat_of_before _ hgv
  obtain ⟨f, hf⟩ := lw_cls hts
  obtain ⟨a0, an0, ao0⟩ := lw_arr (ty := .int) (hts _ (lw_m1 (i := 70) (by decide +kernel)))
  obtain ⟨a1, an1, ao1⟩ := lw_arr (ty := .long) (hts _ (lw_m1 (i := 109) (by decide +kernel)))
  obtain ⟨a2, an2, ao2⟩ := lw_arr (ty := .boolean) (hts _ (lw_m1 (i := 69) (by decide +kernel)))
  obtain ⟨a3, an3, ao3⟩ := lw_arr (ty := .char) (hts _ (lw_m1 (i := 87) (by decide +kernel)))
  obtain ⟨a4, an4, ao4⟩ := lw_arr (ty := .byte) (hts _ (lw_m1 (i := 170) (by decide +kernel)))
  obtain ⟨a10, an10, ao10⟩ := lw_arrA (t := .int) (hts _ (lw_m1 (i := 178) (by decide +kernel)))
  obtain ⟨a11, an11, ao11⟩ := lw_arrC (C := "UnaskedLetters$Word") (hts _ (lw_m1 (i := 218) (by decide +kernel)))
  obtain ⟨a12, an12, ao12⟩ := lw_arrC (C := "UnaskedLetters$Letter") (hts _ (lw_m2 (i := 1) (by decide +kernel)))
  obtain ⟨scr, x1, hof, x3, x4, x5⟩ := hX
  have x6 : scr.vm.isStatics = false := by
    cases hv : scr.vm with
    | statics k => exact absurd hv (hof.1 k)
    | _ => rfl
  have hxi : ∀ (j : Nat) (w : Value), scr.slots[j]? = some w → ∃ z : Int32, w = .int z := fun j w hw => by
    have hj : j < L := by rw [← x4]; exact (Array.getElem?_eq_some_iff.mp hw).1
    rw [x5 j hj] at hw; cases hw; exact ⟨_, rfl⟩
  obtain ⟨ad0, at0, ca0, ct0, s10, s20, s30, s40, s50, s60, s70, s80, s90, ⟨cf10, k10, i10, fd10, f10, f20, f30⟩, cf20, k20, i20, fd20, g10, g20, g30⟩ := lw_str (tm := (Jvm.Term.string "UnaskedLetters$Judge" 11)) (N := 12) (byt := fun j => ([119, 108, 115, 107, 110, 97, 117, 104, 114, 109, 121, 111] : List Int32).getD j 0) (by decide) (hs _ (by decide +kernel)) (hs _ (by decide +kernel)) (hs _ (by decide +kernel)) (hs _ (by decide +kernel)) (fun j hj => by
    rcases (show j = 0 ∨ j = 1 ∨ j = 2 ∨ j = 3 ∨ j = 4 ∨ j = 5 ∨ j = 6 ∨ j = 7 ∨ j = 8 ∨ j = 9 ∨ j = 10 ∨ j = 11 by omega) with rfl | rfl | rfl | rfl | rfl | rfl | rfl | rfl | rfl | rfl | rfl | rfl
    · exact hs _ (by decide +kernel)
    · exact hs _ (by decide +kernel)
    · exact hs _ (by decide +kernel)
    · exact hs _ (by decide +kernel)
    · exact hs _ (by decide +kernel)
    · exact hs _ (by decide +kernel)
    · exact hs _ (by decide +kernel)
    · exact hs _ (by decide +kernel)
    · exact hs _ (by decide +kernel)
    · exact hs _ (by decide +kernel)
    · exact hs _ (by decide +kernel)
    · exact hs _ (by decide +kernel))
  have hti0 : ∀ (j : Nat) (w : Value), ct0.slots[j]? = some w → ∃ z : Int32, w = .int z := fun j w hw => by
    have hj : j < 12 := by rw [← s80]; exact (Array.getElem?_eq_some_iff.mp hw).1
    rw [s90 j hj] at hw; cases hw; exact ⟨_, rfl⟩
  obtain ⟨ad1, at1, ca1, ct1, s11, s21, s31, s41, s51, s61, s71, s81, s91, ⟨cf11, k11, i11, fd11, f11, f21, f31⟩, cf21, k21, i21, fd21, g11, g21, g31⟩ := lw_str (tm := (Jvm.Term.string "UnaskedLetters$RuleReader" 52)) (N := 4) (byt := fun j => ([116, 98, 100, 120] : List Int32).getD j 0) (by decide) (hs _ (by decide +kernel)) (hs _ (by decide +kernel)) (hs _ (by decide +kernel)) (hs _ (by decide +kernel)) (fun j hj => by
    rcases (show j = 0 ∨ j = 1 ∨ j = 2 ∨ j = 3 by omega) with rfl | rfl | rfl | rfl
    · exact hs _ (by decide +kernel)
    · exact hs _ (by decide +kernel)
    · exact hs _ (by decide +kernel)
    · exact hs _ (by decide +kernel))
  rw [f10] at f11
  cases f11
  rw [g10] at g11
  cases g11
  have hc1 : ca1.cls = ca0.cls := Option.some.inj (s41.symm.trans s40)
  have hti1 : ∀ (j : Nat) (w : Value), ct1.slots[j]? = some w → ∃ z : Int32, w = .int z := fun j w hw => by
    have hj : j < 4 := by rw [← s81]; exact (Array.getElem?_eq_some_iff.mp hw).1
    rw [s91 j hj] at hw; cases hw; exact ⟨_, rfl⟩
  obtain ⟨ad2, at2, ca2, ct2, s12, s22, s32, s42, s52, s62, s72, s82, s92, ⟨cf12, k12, i12, fd12, f12, f22, f32⟩, cf22, k22, i22, fd22, g12, g22, g32⟩ := lw_str (tm := (Jvm.Term.string "UnaskedLetters$LetterReader" 53)) (N := 4) (byt := fun j => ([48, 49, 51, 53] : List Int32).getD j 0) (by decide) (hs _ (by decide +kernel)) (hs _ (by decide +kernel)) (hs _ (by decide +kernel)) (hs _ (by decide +kernel)) (fun j hj => by
    rcases (show j = 0 ∨ j = 1 ∨ j = 2 ∨ j = 3 by omega) with rfl | rfl | rfl | rfl
    · exact hs _ (by decide +kernel)
    · exact hs _ (by decide +kernel)
    · exact hs _ (by decide +kernel)
    · exact hs _ (by decide +kernel))
  rw [f10] at f12
  cases f12
  rw [g10] at g12
  cases g12
  have hc2 : ca2.cls = ca0.cls := Option.some.inj (s42.symm.trans s40)
  have hti2 : ∀ (j : Nat) (w : Value), ct2.slots[j]? = some w → ∃ z : Int32, w = .int z := fun j w hw => by
    have hj : j < 4 := by rw [← s82]; exact (Array.getElem?_eq_some_iff.mp hw).1
    rw [s92 j hj] at hw; cases hw; exact ⟨_, rfl⟩
  obtain ⟨ad3, at3, ca3, ct3, s13, s23, s33, s43, s53, s63, s73, s83, s93, ⟨cf13, k13, i13, fd13, f13, f23, f33⟩, cf23, k23, i23, fd23, g13, g23, g33⟩ := lw_str (tm := (Jvm.Term.string "UnaskedLetters$LetterReader" 60)) (N := 4) (byt := fun j => ([111, 108, 101, 115] : List Int32).getD j 0) (by decide) (hs _ (by decide +kernel)) (hs _ (by decide +kernel)) (hs _ (by decide +kernel)) (hs _ (by decide +kernel)) (fun j hj => by
    rcases (show j = 0 ∨ j = 1 ∨ j = 2 ∨ j = 3 by omega) with rfl | rfl | rfl | rfl
    · exact hs _ (by decide +kernel)
    · exact hs _ (by decide +kernel)
    · exact hs _ (by decide +kernel)
    · exact hs _ (by decide +kernel))
  rw [f10] at f13
  cases f13
  rw [g10] at g13
  cases g13
  have hc3 : ca3.cls = ca0.cls := Option.some.inj (s43.symm.trans s40)
  have hti3 : ∀ (j : Nat) (w : Value), ct3.slots[j]? = some w → ∃ z : Int32, w = .int z := fun j w hw => by
    have hj : j < 4 := by rw [← s83]; exact (Array.getElem?_eq_some_iff.mp hw).1
    rw [s93 j hj] at hw; cases hw; exact ⟨_, rfl⟩
  have n_ad0_b : ad0 ≠ b := fun e => by
    rw [e, x1] at s20; cases s20
    obtain ⟨z, hz⟩ := hxi _ _ f30; cases hz
  have n_at0_b : at0 ≠ b := fun e => by
    rw [e, x1] at s50; cases s50
    obtain ⟨-, k, hk, comp, hkind⟩ := hof
    obtain ⟨-, k', hk', comp', hkind'⟩ := s60
    rw [hk] at hk'; cases hk'
    rw [hkind] at hkind'; cases hkind'
  have n_ad1_b : ad1 ≠ b := fun e => by
    rw [e, x1] at s21; cases s21
    obtain ⟨z, hz⟩ := hxi _ _ f31; cases hz
  have n_at1_b : at1 ≠ b := fun e => by
    rw [e, x1] at s51; cases s51
    obtain ⟨-, k, hk, comp, hkind⟩ := hof
    obtain ⟨-, k', hk', comp', hkind'⟩ := s61
    rw [hk] at hk'; cases hk'
    rw [hkind] at hkind'; cases hkind'
  have n_ad2_b : ad2 ≠ b := fun e => by
    rw [e, x1] at s22; cases s22
    obtain ⟨z, hz⟩ := hxi _ _ f32; cases hz
  have n_at2_b : at2 ≠ b := fun e => by
    rw [e, x1] at s52; cases s52
    obtain ⟨-, k, hk, comp, hkind⟩ := hof
    obtain ⟨-, k', hk', comp', hkind'⟩ := s62
    rw [hk] at hk'; cases hk'
    rw [hkind] at hkind'; cases hkind'
  have n_ad3_b : ad3 ≠ b := fun e => by
    rw [e, x1] at s23; cases s23
    obtain ⟨z, hz⟩ := hxi _ _ f33; cases hz
  have n_at3_b : at3 ≠ b := fun e => by
    rw [e, x1] at s53; cases s53
    obtain ⟨-, k, hk, comp, hkind⟩ := hof
    obtain ⟨-, k', hk', comp', hkind'⟩ := s63
    rw [hk] at hk'; cases hk'
    rw [hkind] at hkind'; cases hkind'
  have n_at0_ad0 : at0 ≠ ad0 := fun e => by
    rw [e, s20] at s50; cases s50
    obtain ⟨z, hz⟩ := hti0 _ _ f30; cases hz
  have n_at0_ad1 : at0 ≠ ad1 := fun e => by
    rw [e, s21] at s50; cases s50
    obtain ⟨z, hz⟩ := hti0 _ _ f31; cases hz
  have n_at0_ad2 : at0 ≠ ad2 := fun e => by
    rw [e, s22] at s50; cases s50
    obtain ⟨z, hz⟩ := hti0 _ _ f32; cases hz
  have n_at0_ad3 : at0 ≠ ad3 := fun e => by
    rw [e, s23] at s50; cases s50
    obtain ⟨z, hz⟩ := hti0 _ _ f33; cases hz
  have n_at1_ad0 : at1 ≠ ad0 := fun e => by
    rw [e, s20] at s51; cases s51
    obtain ⟨z, hz⟩ := hti1 _ _ f30; cases hz
  have n_at1_ad1 : at1 ≠ ad1 := fun e => by
    rw [e, s21] at s51; cases s51
    obtain ⟨z, hz⟩ := hti1 _ _ f31; cases hz
  have n_at1_ad2 : at1 ≠ ad2 := fun e => by
    rw [e, s22] at s51; cases s51
    obtain ⟨z, hz⟩ := hti1 _ _ f32; cases hz
  have n_at1_ad3 : at1 ≠ ad3 := fun e => by
    rw [e, s23] at s51; cases s51
    obtain ⟨z, hz⟩ := hti1 _ _ f33; cases hz
  have n_at2_ad0 : at2 ≠ ad0 := fun e => by
    rw [e, s20] at s52; cases s52
    obtain ⟨z, hz⟩ := hti2 _ _ f30; cases hz
  have n_at2_ad1 : at2 ≠ ad1 := fun e => by
    rw [e, s21] at s52; cases s52
    obtain ⟨z, hz⟩ := hti2 _ _ f31; cases hz
  have n_at2_ad2 : at2 ≠ ad2 := fun e => by
    rw [e, s22] at s52; cases s52
    obtain ⟨z, hz⟩ := hti2 _ _ f32; cases hz
  have n_at2_ad3 : at2 ≠ ad3 := fun e => by
    rw [e, s23] at s52; cases s52
    obtain ⟨z, hz⟩ := hti2 _ _ f33; cases hz
  have n_at3_ad0 : at3 ≠ ad0 := fun e => by
    rw [e, s20] at s53; cases s53
    obtain ⟨z, hz⟩ := hti3 _ _ f30; cases hz
  have n_at3_ad1 : at3 ≠ ad1 := fun e => by
    rw [e, s21] at s53; cases s53
    obtain ⟨z, hz⟩ := hti3 _ _ f31; cases hz
  have n_at3_ad2 : at3 ≠ ad2 := fun e => by
    rw [e, s22] at s53; cases s53
    obtain ⟨z, hz⟩ := hti3 _ _ f32; cases hz
  have n_at3_ad3 : at3 ≠ ad3 := fun e => by
    rw [e, s23] at s53; cases s53
    obtain ⟨z, hz⟩ := hti3 _ _ f33; cases hz
  have n_at1_at0 : at1 ≠ at0 := fun e => by
    rw [e, s50] at s51; cases s51
    have h1 := s91 0 (by decide)
    rw [s90 0 (by decide)] at h1
    exact absurd h1 (by decide)
  have n_ad1_ad0 : ad1 ≠ ad0 := fun e => by
    rw [e, s20] at s21; cases s21
    rw [f30] at f31
    have h1 := Value.ref.inj (Option.some.inj f31)
    exact n_at1_at0 h1.symm
  have n_at2_at0 : at2 ≠ at0 := fun e => by
    rw [e, s50] at s52; cases s52
    have h1 := s92 0 (by decide)
    rw [s90 0 (by decide)] at h1
    exact absurd h1 (by decide)
  have n_ad2_ad0 : ad2 ≠ ad0 := fun e => by
    rw [e, s20] at s22; cases s22
    rw [f30] at f32
    have h1 := Value.ref.inj (Option.some.inj f32)
    exact n_at2_at0 h1.symm
  have n_at2_at1 : at2 ≠ at1 := fun e => by
    rw [e, s51] at s52; cases s52
    have h1 := s92 0 (by decide)
    rw [s91 0 (by decide)] at h1
    exact absurd h1 (by decide)
  have n_ad2_ad1 : ad2 ≠ ad1 := fun e => by
    rw [e, s21] at s22; cases s22
    rw [f31] at f32
    have h1 := Value.ref.inj (Option.some.inj f32)
    exact n_at2_at1 h1.symm
  have n_at3_at0 : at3 ≠ at0 := fun e => by
    rw [e, s50] at s53; cases s53
    have h1 := s93 0 (by decide)
    rw [s90 0 (by decide)] at h1
    exact absurd h1 (by decide)
  have n_ad3_ad0 : ad3 ≠ ad0 := fun e => by
    rw [e, s20] at s23; cases s23
    rw [f30] at f33
    have h1 := Value.ref.inj (Option.some.inj f33)
    exact n_at3_at0 h1.symm
  have n_at3_at1 : at3 ≠ at1 := fun e => by
    rw [e, s51] at s53; cases s53
    have h1 := s93 0 (by decide)
    rw [s91 0 (by decide)] at h1
    exact absurd h1 (by decide)
  have n_ad3_ad1 : ad3 ≠ ad1 := fun e => by
    rw [e, s21] at s23; cases s23
    rw [f31] at f33
    have h1 := Value.ref.inj (Option.some.inj f33)
    exact n_at3_at1 h1.symm
  have n_at3_at2 : at3 ≠ at2 := fun e => by
    rw [e, s52] at s53; cases s53
    have h1 := s93 0 (by decide)
    rw [s92 0 (by decide)] at h1
    exact absurd h1 (by decide)
  have n_ad3_ad2 : ad3 ≠ ad2 := fun e => by
    rw [e, s22] at s23; cases s23
    rw [f32] at f33
    have h1 := Value.ref.inj (Option.some.inj f33)
    exact n_at3_at2 h1.symm
  let dC : Nat → ClassId := fun ci => if ci = 13 then ca0.cls else (f ci).1
  let dI : Nat → Nat → Nat := fun ci => if ci = 13 then (fun j => if j = 0 then fd10.slot else fd20.slot) else (f ci).2
  let dA : Nat → ClassId := fun tag => ([a0, a1, a2, a3, a4, scr.cls, ct0.cls, ct2.cls, ct3.cls, ct1.cls, a10, a11, a12] : List ClassId).getD tag 0
  let d4 : Nat → Nat := fun k => if k = 1 then b else if k = 24 then ad0 else if k = 23 then at0 else if k = 121 then ad1 else if k = 120 then at1 else if k = 117 then ad2 else if k = 116 then at2 else if k = 119 then ad3 else at3
  let D : zk_D := (dC, dI, dA, d4, fun k j => ((s.heap[d4 k]?).bind (fun c => c.slots[j]?)).getD .null, zq_gh qK dI qn_M qn_saying qn_codes qn_textSize qn_SC qn_pickAt)
  let G0 : Nat → Nat := fun a => if a = b then 1 else if a = ad0 then 24 else if a = at0 then 23 else if a = ad1 then 121 else if a = at1 then 120 else if a = ad2 then 117 else if a = at2 then 116 else if a = ad3 then 119 else if a = at3 then 118 else 0
  have hcl : ∀ (ci : Nat) (q : vw_C), zg_cls[ci]? = some q → u_Kn s q.1 q.2.1 q.2.2 (dC ci) (dI ci) := fun ci q hq => by
    have hne : ¬ ci = 13 := fun e => by subst e; cases hq
    show u_Kn s _ _ _ (if ci = 13 then _ else _) (if ci = 13 then _ else _)
    rw [if_neg hne, if_neg hne]; exact hf ci q hq
  have hdS : dI 13 0 ≠ dI 13 1 := fun e => by
    have e : fd10.slot = fd20.slot := e
    rw [e, g30] at f30; cases f30
  have hdj : zk_dj qK D := zg_dj_ok (N := lw_N) (by decide +kernel) (lw_apart hts ⟨hcl, fun k q h => by cases h⟩ hdS)
  have hall : zq_all qK D qn_M qn_saying qn_codes qn_textSize qn_SC qn_pickAt := ⟨by unfold zq_gs1; decide +kernel, by unfold zq_gs1; decide +kernel, by unfold zq_gs2; decide +kernel, by unfold zq_gs3; decide +kernel, rfl⟩
  refine ⟨D, G0, ⟨⟨⟨rfl, ?_⟩, hdj, hall⟩, hcl, ?_, ?_, ?_, ?_, ?_, s40, ?_, ?_, ?_, ?_⟩, if_pos rfl, ?_⟩
  · exact List.forall_mem_cons.mpr ⟨va_Nw.of rfl (hts _ (lw_m3 (i := 93) (by decide +kernel))), List.forall_mem_cons.mpr ⟨va_Nw.of rfl (hts _ (lw_m4 (i := 87) (by decide +kernel))), fun _ h => absurd h List.not_mem_nil⟩⟩
  · intro tag ty hty
    match tag with
    | 0 => cases hty; exact ao0
    | 1 => cases hty; exact ao1
    | 2 => cases hty; exact ao2
    | 3 => cases hty; exact ao3
    | 4 => cases hty; exact ao4
    | 5 => cases hty; exact fun n z => ⟨fun k h => (by cases h), hof.2⟩
    | 6 => cases hty; exact fun n z => ⟨fun k h => (by cases h), s60.2⟩
    | 7 => cases hty; exact fun n z => ⟨fun k h => (by cases h), s62.2⟩
    | 8 => cases hty; exact fun n z => ⟨fun k h => (by cases h), s63.2⟩
    | 9 => cases hty; exact fun n z => ⟨fun k h => (by cases h), s61.2⟩
    | 10 => cases hty; exact ao10
    | 11 => cases hty; exact ao11
    | 12 => cases hty; exact ao12
    | k + 13 => cases hty
  · exact List.forall_mem_cons.mpr ⟨an0, List.forall_mem_cons.mpr ⟨an1, List.forall_mem_cons.mpr ⟨an2, List.forall_mem_cons.mpr ⟨an3, List.forall_mem_cons.mpr ⟨an4, List.forall_mem_cons.mpr ⟨an10, List.forall_mem_cons.mpr ⟨an11, List.forall_mem_cons.mpr ⟨an12, fun _ h => absurd h List.not_mem_nil⟩⟩⟩⟩⟩⟩⟩⟩
  · exact List.forall_mem_cons.mpr ⟨va_Nw.of rfl (hts _ (lw_m1 (i := 33) (by decide +kernel))), List.forall_mem_cons.mpr ⟨va_Nw.of rfl (hts _ (lw_m1 (i := 73) (by decide +kernel))), List.forall_mem_cons.mpr ⟨va_Nw.of rfl (hts _ (lw_m1 (i := 90) (by decide +kernel))), List.forall_mem_cons.mpr ⟨va_Nw.of rfl (hts _ (lw_m1 (i := 112) (by decide +kernel))), List.forall_mem_cons.mpr ⟨va_Nw.of rfl (hts _ (lw_m1 (i := 131) (by decide +kernel))), List.forall_mem_cons.mpr ⟨va_Nw.of rfl (hts _ (lw_m1 (i := 173) (by decide +kernel))), List.forall_mem_cons.mpr ⟨va_Nw.of rfl (hts _ (lw_m1 (i := 213) (by decide +kernel))), List.forall_mem_cons.mpr ⟨va_Nw.of rfl (hts _ (lw_m2 (i := 4) (by decide +kernel))), List.forall_mem_cons.mpr ⟨va_Nw.of rfl (hts _ (lw_m2 (i := 28) (by decide +kernel))), fun _ h => absurd h List.not_mem_nil⟩⟩⟩⟩⟩⟩⟩⟩⟩
  · exact List.forall_mem_cons.mpr ⟨va_AO.of (hts _ (lw_m1 (i := 218) (by decide +kernel))), List.forall_mem_cons.mpr ⟨va_AO.of (hts _ (lw_m2 (i := 1) (by decide +kernel))), fun _ h => absurd h List.not_mem_nil⟩⟩
  · exact List.forall_mem_cons.mpr ⟨(hts (Jvm.Cond.arrayOver (FieldType.array FieldType.int)) (lw_m1 (i := 178) (by decide +kernel))), fun _ h => absurd h List.not_mem_nil⟩
  · exact List.forall_mem_cons.mpr ⟨⟨cf10, k10, i10, fd10, f10, f20, rfl⟩, List.forall_mem_cons.mpr ⟨⟨cf20, k20, i20, fd20, g10, g20, rfl⟩, fun _ h => absurd h List.not_mem_nil⟩⟩
  · exact List.forall_mem_cons.mpr ⟨vk_R.of (hts _ (lw_m1 (i := 135) (by decide +kernel))) s10, List.forall_mem_cons.mpr ⟨vk_R.of (hts _ (lw_m2 (i := 187) (by decide +kernel))) s11, List.forall_mem_cons.mpr ⟨vk_R.of (hts _ (lw_m3 (i := 49) (by decide +kernel))) (show (Jvm.Term.string "UnaskedLetters$RuleReader" 88).eval _ s none [] s = some (.ref ad0) from (va_eqR (hs (Jvm.Cond.eq (Jvm.Term.string "UnaskedLetters$Judge" 11) (Jvm.Term.string "UnaskedLetters$RuleReader" 88)) (by decide +kernel)) s10)), List.forall_mem_cons.mpr ⟨vk_R.of (hts _ (lw_m4 (i := 57) (by decide +kernel))) s12, List.forall_mem_cons.mpr ⟨vk_R.of (hts _ (lw_m4 (i := 59) (by decide +kernel))) s13, fun _ h => absurd h List.not_mem_nil⟩⟩⟩⟩⟩
  · exact List.forall_mem_cons.mpr ⟨va_Zof (hts _ (lw_m1 (i := 145) (by decide +kernel))) (hts _ (lw_m1 (i := 7) (by decide +kernel))) (va_eqt (hs _ (by decide +kernel))) (fun a ha h => absurd ha (Nat.not_lt.mpr h)), fun _ h => absurd h List.not_mem_nil⟩
  · have hz : va_Zq "jdk/internal/util/Preconditions" "SIOOBE_FORMATTER" "Ljava/util/function/BiFunction;" (fun a => s.heap.size ≤ a) s s.heap := va_Zqof (hts _ (lw_m2 (i := 235) (by decide +kernel))) (hts _ (lw_m1 (i := 17) (by decide +kernel))) (hs _ (by decide +kernel)) (fun a ha h => absurd ha (Nat.not_lt.mpr h))
    rcases hz with hz | ⟨t, hz⟩
    · exact ⟨.null, Or.inl rfl, hz⟩
    · exact ⟨.ref t, Or.inr ⟨t, rfl⟩, hz⟩
  · have ros : ∀ k, (zk_kd qK k).2.2.2.2.2.2.2 = 1 → k ∈ [1, 24, 23, 121, 120, 117, 116, 119, 118] := by
      intro k hk
      have hall : ((List.range qK.length).all fun k => !(Nat.beq (zk_kd qK k).2.2.2.2.2.2.2 1) || decide (k ∈ [1, 24, 23, 121, 120, 117, 116, 119, 118])) = true := by decide +kernel
      by_cases hlt : k < qK.length
      · have := List.all_eq_true.mp hall k (List.mem_range.mpr hlt)
        rw [hk] at this
        simp only [Nat.beq_refl, Bool.not_true, Bool.false_or] at this
        exact of_decide_eq_true this
      · exfalso
        have e : zk_kd qK k = zk_K0 := by
          unfold zk_kd
          rw [List.getD_eq_getElem?_getD, List.getElem?_eq_none (Nat.le_of_not_lt hlt)]; rfl
        rw [e] at hk; exact absurd hk (by decide)
    have g_b : G0 b = 1 := by
      show (if b = b then 1 else if b = ad0 then 24 else if b = at0 then 23 else if b = ad1 then 121 else if b = at1 then 120 else if b = ad2 then 117 else if b = at2 then 116 else if b = ad3 then 119 else if b = at3 then 118 else 0) = 1
      rw [if_pos rfl]
    have g_ad0 : G0 ad0 = 24 := by
      show (if ad0 = b then 1 else if ad0 = ad0 then 24 else if ad0 = at0 then 23 else if ad0 = ad1 then 121 else if ad0 = at1 then 120 else if ad0 = ad2 then 117 else if ad0 = at2 then 116 else if ad0 = ad3 then 119 else if ad0 = at3 then 118 else 0) = 24
      rw [if_neg n_ad0_b, if_pos rfl]
    have g_at0 : G0 at0 = 23 := by
      show (if at0 = b then 1 else if at0 = ad0 then 24 else if at0 = at0 then 23 else if at0 = ad1 then 121 else if at0 = at1 then 120 else if at0 = ad2 then 117 else if at0 = at2 then 116 else if at0 = ad3 then 119 else if at0 = at3 then 118 else 0) = 23
      rw [if_neg n_at0_b, if_neg n_at0_ad0, if_pos rfl]
    have g_ad1 : G0 ad1 = 121 := by
      show (if ad1 = b then 1 else if ad1 = ad0 then 24 else if ad1 = at0 then 23 else if ad1 = ad1 then 121 else if ad1 = at1 then 120 else if ad1 = ad2 then 117 else if ad1 = at2 then 116 else if ad1 = ad3 then 119 else if ad1 = at3 then 118 else 0) = 121
      rw [if_neg n_ad1_b, if_neg n_ad1_ad0, if_neg n_at0_ad1.symm, if_pos rfl]
    have g_at1 : G0 at1 = 120 := by
      show (if at1 = b then 1 else if at1 = ad0 then 24 else if at1 = at0 then 23 else if at1 = ad1 then 121 else if at1 = at1 then 120 else if at1 = ad2 then 117 else if at1 = at2 then 116 else if at1 = ad3 then 119 else if at1 = at3 then 118 else 0) = 120
      rw [if_neg n_at1_b, if_neg n_at1_ad0, if_neg n_at1_at0, if_neg n_at1_ad1, if_pos rfl]
    have g_ad2 : G0 ad2 = 117 := by
      show (if ad2 = b then 1 else if ad2 = ad0 then 24 else if ad2 = at0 then 23 else if ad2 = ad1 then 121 else if ad2 = at1 then 120 else if ad2 = ad2 then 117 else if ad2 = at2 then 116 else if ad2 = ad3 then 119 else if ad2 = at3 then 118 else 0) = 117
      rw [if_neg n_ad2_b, if_neg n_ad2_ad0, if_neg n_at0_ad2.symm, if_neg n_ad2_ad1, if_neg n_at1_ad2.symm, if_pos rfl]
    have g_at2 : G0 at2 = 116 := by
      show (if at2 = b then 1 else if at2 = ad0 then 24 else if at2 = at0 then 23 else if at2 = ad1 then 121 else if at2 = at1 then 120 else if at2 = ad2 then 117 else if at2 = at2 then 116 else if at2 = ad3 then 119 else if at2 = at3 then 118 else 0) = 116
      rw [if_neg n_at2_b, if_neg n_at2_ad0, if_neg n_at2_at0, if_neg n_at2_ad1, if_neg n_at2_at1, if_neg n_at2_ad2, if_pos rfl]
    have g_ad3 : G0 ad3 = 119 := by
      show (if ad3 = b then 1 else if ad3 = ad0 then 24 else if ad3 = at0 then 23 else if ad3 = ad1 then 121 else if ad3 = at1 then 120 else if ad3 = ad2 then 117 else if ad3 = at2 then 116 else if ad3 = ad3 then 119 else if ad3 = at3 then 118 else 0) = 119
      rw [if_neg n_ad3_b, if_neg n_ad3_ad0, if_neg n_at0_ad3.symm, if_neg n_ad3_ad1, if_neg n_at1_ad3.symm, if_neg n_ad3_ad2, if_neg n_at2_ad3.symm, if_pos rfl]
    have g_at3 : G0 at3 = 118 := by
      show (if at3 = b then 1 else if at3 = ad0 then 24 else if at3 = at0 then 23 else if at3 = ad1 then 121 else if at3 = at1 then 120 else if at3 = ad2 then 117 else if at3 = at2 then 116 else if at3 = ad3 then 119 else if at3 = at3 then 118 else 0) = 118
      rw [if_neg n_at3_b, if_neg n_at3_ad0, if_neg n_at3_at0, if_neg n_at3_ad1, if_neg n_at3_at1, if_neg n_at3_ad2, if_neg n_at3_at2, if_neg n_at3_ad3, if_pos rfl]
    refine ⟨⟨Nat.le_refl _, fun k hk => ?_, fun k cell hk hc j w hw => ?_⟩, fun a ha => rfl, fun a ha => ?_⟩
    · have hm := ros k hk
      simp only [List.mem_cons, List.not_mem_nil, or_false] at hm
      rcases hm with rfl | rfl | rfl | rfl | rfl | rfl | rfl | rfl | rfl
      · exact g_b
      · exact g_ad0
      · exact g_at0
      · exact g_ad1
      · exact g_at1
      · exact g_ad2
      · exact g_at2
      · exact g_ad3
      · exact g_at3
    · show w = ((s.heap[d4 k]?).bind (fun c => c.slots[j]?)).getD .null
      have hc : s.heap[d4 k]? = some cell := hc
      rw [hc]; show w = (cell.slots[j]?).getD .null
      rw [hw]; rfl
    · have hcases : a = b ∨ a = ad0 ∨ a = at0 ∨ a = ad1 ∨ a = at1 ∨ a = ad2 ∨ a = at2 ∨ a = ad3 ∨ a = at3 := by
        by_cases h0 : a = b
        · exact Or.inl h0
        by_cases h1 : a = ad0
        · exact Or.inr (Or.inl h1)
        by_cases h2 : a = at0
        · exact Or.inr (Or.inr (Or.inl h2))
        by_cases h3 : a = ad1
        · exact Or.inr (Or.inr (Or.inr (Or.inl h3)))
        by_cases h4 : a = at1
        · exact Or.inr (Or.inr (Or.inr (Or.inr (Or.inl h4))))
        by_cases h5 : a = ad2
        · exact Or.inr (Or.inr (Or.inr (Or.inr (Or.inr (Or.inl h5)))))
        by_cases h6 : a = at2
        · exact Or.inr (Or.inr (Or.inr (Or.inr (Or.inr (Or.inr (Or.inl h6))))))
        by_cases h7 : a = ad3
        · exact Or.inr (Or.inr (Or.inr (Or.inr (Or.inr (Or.inr (Or.inr (Or.inl h7)))))))
        by_cases h8 : a = at3
        · exact Or.inr (Or.inr (Or.inr (Or.inr (Or.inr (Or.inr (Or.inr (Or.inr (h8))))))))
        exfalso; apply ha
        show (if a = b then 1 else if a = ad0 then 24 else if a = at0 then 23 else if a = ad1 then 121 else if a = at1 then 120 else if a = ad2 then 117 else if a = at2 then 116 else if a = ad3 then 119 else if a = at3 then 118 else 0) = 0
        rw [if_neg h0, if_neg h1, if_neg h2, if_neg h3, if_neg h4, if_neg h5, if_neg h6, if_neg h7, if_neg h8]
      rcases hcases with e | e | e | e | e | e | e | e | e
      · subst e
        rw [g_b]
        refine ⟨⟨fun h => absurd h (by decide), fun _ => ⟨rfl, hbl⟩⟩, scr, x1, ⟨⟨⟨x3, x6⟩, fun h => absurd h (by decide)⟩, fun h => absurd h (by decide), fun _ => ⟨rfl, ?_, ?_, fun t ht j w hw => ?_⟩⟩, fun q hq => by cases hq⟩
        · show (0 : Int) ≤ _; omega
        · show (scr.slots.size : Int) ≤ 3072; omega
        · obtain ⟨z, rfl⟩ := hxi j w hw
          cases ht
          exact ⟨zk_tv_I z, fun h => by cases h⟩
      · subst e
        rw [g_ad0]
        refine ⟨⟨fun h => absurd h (by decide), fun _ => ⟨rfl, (Array.getElem?_eq_some_iff.mp s20).1⟩⟩, ca0, s20, ⟨⟨s30, fun h => absurd h (by decide)⟩, fun _ => ⟨rfl, fun j t ht => ?_⟩, fun h => absurd rfl h⟩, fun q hq => by cases hq⟩
        match j with
        | 0 => cases ht; exact ⟨_, f30, Or.inl ⟨at0, rfl, by rw [g_at0]; rfl, by rw [g_at0]; decide⟩, fun _ h => absurd h (by decide)⟩
        | 1 => cases ht; exact ⟨_, g30, ⟨0, rfl, by decide, by decide⟩, fun h => by cases h⟩
        | j + 2 => cases ht
      · subst e
        rw [g_at0]
        refine ⟨⟨fun h => absurd h (by decide), fun _ => ⟨rfl, (Array.getElem?_eq_some_iff.mp s50).1⟩⟩, ct0, s50, ⟨⟨s70, fun h => absurd h (by decide)⟩, fun h => absurd h (by decide), fun _ => ⟨rfl, ?_, ?_, fun t ht j w hw => ?_⟩⟩, fun q hq => by cases hq⟩
        · show (12 : Int) ≤ (ct0.slots.size : Int); omega
        · show (ct0.slots.size : Int) ≤ 12; omega
        · cases ht
          have hj : j < 12 := by rw [← s80]; exact (Array.getElem?_eq_some_iff.mp hw).1
          rw [s90 j hj] at hw; cases hw
          refine ⟨⟨_, rfl, ?_⟩, fun h => by cases h⟩
          have hbb : ∀ j, j < 12 → (97 : Int) ≤ (([119, 108, 115, 107, 110, 97, 117, 104, 114, 109, 121, 111] : List Int32).getD j 0).toInt ∧ (([119, 108, 115, 107, 110, 97, 117, 104, 114, 109, 121, 111] : List Int32).getD j 0).toInt ≤ 121 := by decide
          exact hbb j hj
      · subst e
        rw [g_ad1]
        refine ⟨⟨fun h => absurd h (by decide), fun _ => ⟨rfl, (Array.getElem?_eq_some_iff.mp s21).1⟩⟩, ca1, s21, ⟨⟨s31, fun h => absurd h (by decide)⟩, fun _ => ⟨hc1, fun j t ht => ?_⟩, fun h => absurd rfl h⟩, fun q hq => by cases hq⟩
        match j with
        | 0 => cases ht; exact ⟨_, f31, Or.inl ⟨at1, rfl, by rw [g_at1]; rfl, by rw [g_at1]; decide⟩, fun _ h => absurd h (by decide)⟩
        | 1 => cases ht; exact ⟨_, g31, ⟨0, rfl, by decide, by decide⟩, fun h => by cases h⟩
        | j + 2 => cases ht
      · subst e
        rw [g_at1]
        refine ⟨⟨fun h => absurd h (by decide), fun _ => ⟨rfl, (Array.getElem?_eq_some_iff.mp s51).1⟩⟩, ct1, s51, ⟨⟨s71, fun h => absurd h (by decide)⟩, fun h => absurd h (by decide), fun _ => ⟨rfl, ?_, ?_, fun t ht j w hw => ?_⟩⟩, fun q hq => by cases hq⟩
        · show (4 : Int) ≤ (ct1.slots.size : Int); omega
        · show (ct1.slots.size : Int) ≤ 4; omega
        · cases ht
          have hj : j < 4 := by rw [← s81]; exact (Array.getElem?_eq_some_iff.mp hw).1
          rw [s91 j hj] at hw; cases hw
          refine ⟨⟨_, rfl, ?_⟩, fun h => by cases h⟩
          have hbb : ∀ j, j < 4 → (98 : Int) ≤ (([116, 98, 100, 120] : List Int32).getD j 0).toInt ∧ (([116, 98, 100, 120] : List Int32).getD j 0).toInt ≤ 120 := by decide
          exact hbb j hj
      · subst e
        rw [g_ad2]
        refine ⟨⟨fun h => absurd h (by decide), fun _ => ⟨rfl, (Array.getElem?_eq_some_iff.mp s22).1⟩⟩, ca2, s22, ⟨⟨s32, fun h => absurd h (by decide)⟩, fun _ => ⟨hc2, fun j t ht => ?_⟩, fun h => absurd rfl h⟩, fun q hq => by cases hq⟩
        match j with
        | 0 => cases ht; exact ⟨_, f32, Or.inl ⟨at2, rfl, by rw [g_at2]; rfl, by rw [g_at2]; decide⟩, fun _ h => absurd h (by decide)⟩
        | 1 => cases ht; exact ⟨_, g32, ⟨0, rfl, by decide, by decide⟩, fun h => by cases h⟩
        | j + 2 => cases ht
      · subst e
        rw [g_at2]
        refine ⟨⟨fun h => absurd h (by decide), fun _ => ⟨rfl, (Array.getElem?_eq_some_iff.mp s52).1⟩⟩, ct2, s52, ⟨⟨s72, fun h => absurd h (by decide)⟩, fun h => absurd h (by decide), fun _ => ⟨rfl, ?_, ?_, fun t ht j w hw => ?_⟩⟩, fun q hq => by cases hq⟩
        · show (4 : Int) ≤ (ct2.slots.size : Int); omega
        · show (ct2.slots.size : Int) ≤ 4; omega
        · cases ht
          have hj : j < 4 := by rw [← s82]; exact (Array.getElem?_eq_some_iff.mp hw).1
          rw [s92 j hj] at hw; cases hw
          refine ⟨⟨_, rfl, ?_⟩, fun h => by cases h⟩
          have hbb : ∀ j, j < 4 → (48 : Int) ≤ (([48, 49, 51, 53] : List Int32).getD j 0).toInt ∧ (([48, 49, 51, 53] : List Int32).getD j 0).toInt ≤ 53 := by decide
          exact hbb j hj
      · subst e
        rw [g_ad3]
        refine ⟨⟨fun h => absurd h (by decide), fun _ => ⟨rfl, (Array.getElem?_eq_some_iff.mp s23).1⟩⟩, ca3, s23, ⟨⟨s33, fun h => absurd h (by decide)⟩, fun _ => ⟨hc3, fun j t ht => ?_⟩, fun h => absurd rfl h⟩, fun q hq => by cases hq⟩
        match j with
        | 0 => cases ht; exact ⟨_, f33, Or.inl ⟨at3, rfl, by rw [g_at3]; rfl, by rw [g_at3]; decide⟩, fun _ h => absurd h (by decide)⟩
        | 1 => cases ht; exact ⟨_, g33, ⟨0, rfl, by decide, by decide⟩, fun h => by cases h⟩
        | j + 2 => cases ht
      · subst e
        rw [g_at3]
        refine ⟨⟨fun h => absurd h (by decide), fun _ => ⟨rfl, (Array.getElem?_eq_some_iff.mp s53).1⟩⟩, ct3, s53, ⟨⟨s73, fun h => absurd h (by decide)⟩, fun h => absurd h (by decide), fun _ => ⟨rfl, ?_, ?_, fun t ht j w hw => ?_⟩⟩, fun q hq => by cases hq⟩
        · show (4 : Int) ≤ (ct3.slots.size : Int); omega
        · show (ct3.slots.size : Int) ≤ 4; omega
        · cases ht
          have hj : j < 4 := by rw [← s83]; exact (Array.getElem?_eq_some_iff.mp hw).1
          rw [s93 j hj] at hw; cases hw
          refine ⟨⟨_, rfl, ?_⟩, fun h => by cases h⟩
          have hbb : ∀ j, j < 4 → (101 : Int) ≤ (([111, 108, 101, 115] : List Int32).getD j 0).toInt ∧ (([111, 108, 101, 115] : List Int32).getD j 0).toInt ≤ 115 := by decide
          exact hbb j hj
end
