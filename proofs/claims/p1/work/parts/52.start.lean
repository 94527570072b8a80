/-! THE LAW, 2: its start -/
set_option maxRecDepth 100000 in
theorem lw_m1 {w : Jvm.Cond} {i : Nat} (h : tables_1_1[i]? = some w) : w ∈ lw_tbl := by
  have h := List.mem_of_getElem? h
  exact List.mem_append_right _ (List.mem_append_left _ h)
set_option maxRecDepth 100000 in
theorem lw_m2 {w : Jvm.Cond} {i : Nat} (h : tables_1_2[i]? = some w) : w ∈ lw_tbl := by
  have h := List.mem_of_getElem? h
  exact List.mem_append_right _ (List.mem_append_right _ (List.mem_append_left _ h))
set_option maxRecDepth 100000 in
theorem lw_m3 {w : Jvm.Cond} {i : Nat} (h : tables_1_3[i]? = some w) : w ∈ lw_tbl := by
  have h := List.mem_of_getElem? h
  exact List.mem_append_right _ (List.mem_append_right _ (List.mem_append_right _ (List.mem_append_left _ h)))
set_option maxRecDepth 100000 in
theorem lw_m4 {w : Jvm.Cond} {i : Nat} (h : tables_1_4[i]? = some w) : w ∈ lw_tbl := by
  have h := List.mem_of_getElem? h
  exact List.mem_append_right _ (List.mem_append_right _ (List.mem_append_right _ (List.mem_append_right _ (List.mem_append_left _ h))))
set_option maxRecDepth 100000 in
theorem lw_m5 {w : Jvm.Cond} {i : Nat} (h : tables_1_5[i]? = some w) : w ∈ lw_tbl := by
  have h := List.mem_of_getElem? h
  exact List.mem_append_right _ (List.mem_append_right _ (List.mem_append_right _ (List.mem_append_right _ (List.mem_append_right _ (List.mem_append_left _ h)))))
set_option maxRecDepth 100000 in
theorem lw_m6 {w : Jvm.Cond} {i : Nat} (h : tables_1_6[i]? = some w) : w ∈ lw_tbl := by
  have h := List.mem_of_getElem? h
  exact List.mem_append_right _ (List.mem_append_right _ (List.mem_append_right _ (List.mem_append_right _ (List.mem_append_right _ (List.mem_append_right _ (List.mem_append_left _ h))))))
set_option maxRecDepth 100000 in
theorem lw_m7 {w : Jvm.Cond} {i : Nat} (h : tables_1_7[i]? = some w) : w ∈ lw_tbl := by
  have h := List.mem_of_getElem? h
  exact List.mem_append_right _ (List.mem_append_right _ (List.mem_append_right _ (List.mem_append_right _ (List.mem_append_right _ (List.mem_append_right _ (List.mem_append_right _ (List.mem_append_left _ h)))))))
set_option maxRecDepth 100000 in
theorem lw_m8 {w : Jvm.Cond} {i : Nat} (h : tables_1_8[i]? = some w) : w ∈ lw_tbl := by
  have h := List.mem_of_getElem? h
  exact List.mem_append_right _ (List.mem_append_right _ (List.mem_append_right _ (List.mem_append_right _ (List.mem_append_right _ (List.mem_append_right _ (List.mem_append_right _ (List.mem_append_right _ (h))))))))
set_option maxRecDepth 100000 in
theorem lw_arr {s : State} {args : Array Value} {ty : FieldType} (h : (Jvm.Cond.arrayClass ty).before args s = true) : ∃ cA : ClassId, s.vm.findClass ("[" ++ ty.toString) = some cA ∧ ArrOfT s cA ty := by
  obtain ⟨cA, kA, comp, h1, h2, h3⟩ := Cond.arrayClass_spec h
  exact ⟨cA, h1, fun n z => ⟨fun k h => (by cases h), kA, h2, comp, h3⟩⟩
set_option maxRecDepth 100000 in
theorem lw_arrC {s : State} {args : Array Value} {C : String} (h : (Jvm.Cond.arrayOver (.object C)).before args s = true) : ∃ cA : ClassId, s.vm.findClass ("[" ++ (FieldType.object C).toString) = some cA ∧ ArrOfT s cA (.object C) := by
  obtain ⟨comp, cA, kA, h1, h2, h3, h4, h5⟩ := Cond.arrayOver_spec h
  exact ⟨cA, h5, fun n z => ⟨fun k h => (by cases h), kA, h3, comp, h4⟩⟩
set_option maxRecDepth 100000 in
theorem lw_arrA {s : State} {args : Array Value} {t : FieldType} (h : (Jvm.Cond.arrayOver (.array t)).before args s = true) : ∃ cA : ClassId, s.vm.findClass ("[" ++ (FieldType.array t).toString) = some cA ∧ ArrOfT s cA (.array t) := by
  obtain ⟨comp, cA, kA, h1, h2, h3, h4, h5⟩ := arrayOverA_spec h
  exact ⟨cA, h5, fun n z => ⟨fun k h => (by cases h), kA, h3, comp, h4⟩⟩
set_option maxRecDepth 100000 in
theorem lw_lenlt {args : Array Value} {s : State} {u : Term} {v : Value} {t : Nat} {ct : Cell} (hv : (Term.length u).eval args s none [] s = some v) (ht : u.eval args s none [] s = some (.ref t)) (harr : s.arrayAt? t = some ct) : ct.slots.size < 2 ^ 31 := by
  simp only [Term.eval, ht, harr, Option.bind_eq_bind, Option.bind_some] at hv
  by_cases hlt : ct.slots.size < 2147483648
  · exact hlt
  · simp [hlt] at hv
set_option maxRecDepth 100000 in
/-- a String constant whose bytes are said -/
theorem lw_str {args : Array Value} {s : State} {tm : Term} {N : Nat} {byt : Nat → Int32} (hN : N < 2 ^ 31) (hex : (Jvm.Cond.exactly tm "java/lang/String").before args s = true) (hco : (Jvm.Cond.eq (.field tm "java/lang/String" "coder" "B") (.int 0)).before args s = true)
    (har : (Jvm.Cond.arrayOf (.field tm "java/lang/String" "value" "[B") .byte).before args s = true) (hle : (Jvm.Cond.eq (.length (.field tm "java/lang/String" "value" "[B")) (.int (Int32.ofNat N))).before args s = true)
    (hel : ∀ j : Nat, j < N → (Jvm.Cond.eq (.elem (.field tm "java/lang/String" "value" "[B") (.int (Int32.ofNat j))) (.int (byt j))).before args s = true) :
    ∃ (a t : Nat) (ca ct : Cell), tm.eval args s none [] s = some (.ref a) ∧ s.heap[a]? = some ca ∧ zk_vk ca ∧ s.vm.findClass "java/lang/String" = some ca.cls ∧ s.heap[t]? = some ct ∧ s.isArrayOf ct .byte ∧ zk_vk ct ∧ ct.slots.size = N ∧ (∀ j : Nat, j < N → ct.slots[j]? = some (.int (byt j))) ∧
      (∃ (cf : ClassId) (k : Class) (i : Nat) (fd : Field), s.fieldFound? "java/lang/String" "value" "[B" = some (cf, k, i, fd) ∧ fd.isStatic = false ∧ ca.slots[fd.slot]? = some (.ref t)) ∧
      ∃ (cf : ClassId) (k : Class) (i : Nat) (fd : Field), s.fieldFound? "java/lang/String" "coder" "B" = some (cf, k, i, fd) ∧ fd.isStatic = false ∧ ca.slots[fd.slot]? = some (.int 0) := by
  obtain ⟨a, c, ca, kA, q1, q2, q3, q4, q5, q6, -⟩ := Cond.exactly_spec (args := args) (first := s) (o := none) (s := s) (idx := []) (t := tm) (cls := "java/lang/String") hex
  have hA : ∀ a : Nat, a < s.heap.size → ¬ (fun _ : Nat => False) a := fun _ _ h => h
  have hlen := va_eqt hle
  obtain ⟨t, ht, cell, t1, t2, t3, t4, t5, t6, -⟩ := va_Tof (f := fun j => .int (byt j)) (A := fun _ => False) hN har hlen (fun j hj => va_eqt (hel j hj)) hA
  obtain ⟨cf, k, i, fd, cx, r1, r2, r3, r4, r5, -⟩ := vk_OFof (A := fun _ => False) q1 ht hA
  obtain ⟨cf2, k2, i2, fd2, cx2, w1, w2, w3, w4, w5, -⟩ := vk_OFof (A := fun _ => False) q1 (va_eqt hco) hA
  rw [q3] at r3 w3; cases r3; cases w3
  obtain ⟨t', ct, e1, e2, -⟩ := Term.length_spec hlen
  rw [ht] at e1; cases e1
  have hsz : ct.slots.size < 2 ^ 31 := lw_lenlt hlen ht e2
  obtain ⟨g1, g2, g3, -⟩ := State.arrayAt?_spec e2
  rw [t1] at g1; cases g1
  have hNs : cell.slots.size = N := by
    have e := congrArg Int32.toInt t5
    rw [show (cell.slots.size.toInt32).toInt = ((cell.slots.size : Nat) : Int) from nI_toInt hsz, show (Int32.ofNat N).toInt = (N : Int) from nI_toInt hN] at e
    omega
  exact ⟨a, t, ca, cell, q1, q3, ⟨r4, q5⟩, by rw [q6]; exact q2, t1, t2, ⟨g2, g3⟩, hNs, t6, ⟨cf, k, i, fd, r1, r2, r5⟩, cf2, k2, i2, fd2, w1, w2, w5⟩
set_option maxRecDepth 100000 in
theorem lw_cls {s : State} {args : Array Value} (hts : ∀ w ∈ lw_tbl, w.before args s = true) : ∃ f : Nat → ClassId × (Nat → Nat), ∀ (ci : Nat) (q : vw_C), zg_cls[ci]? = some q → u_Kn s q.1 q.2.1 q.2.2 (f ci).1 (f ci).2 := by
  have h : ∀ ci : Nat, ∃ r : ClassId × (Nat → Nat), ∀ q : vw_C, zg_cls[ci]? = some q → u_Kn s q.1 q.2.1 q.2.2 r.1 r.2 := by
    intro ci
    match ci with
    | 0 => obtain ⟨cC, iS, h⟩ := u_known (C := RX0) (T := TX0) (N := 7) (n := 7) hts (fun w h => zg_tb_lw w (zc0 w h)) (hts _ (zg_tb_lw _ zw1_130)); exact ⟨(cC, iS), fun q hq => by cases hq; exact h⟩
    | 1 => obtain ⟨cC, iS, h⟩ := u_known (C := RX1) (T := TX1) (N := 17) (n := 17) hts (fun w h => zg_tb_lw w (zc1 w h)) (hts _ (zg_tb_lw _ zw3_208)); exact ⟨(cC, iS), fun q hq => by cases hq; exact h⟩
    | 2 => obtain ⟨cC, iS, h⟩ := u_known (C := RX2) (T := TX2) (N := 4) (n := 4) hts (fun w h => zg_tb_lw w (zc2 w h)) (hts _ (zg_tb_lw _ zw1_89)); exact ⟨(cC, iS), fun q hq => by cases hq; exact h⟩
    | 3 => obtain ⟨cC, iS, h⟩ := u_known (C := RX3) (T := TX3) (N := 5) (n := 5) hts (fun w h => zg_tb_lw w (zc3 w h)) (hts _ (zg_tb_lw _ zw2_3)); exact ⟨(cC, iS), fun q hq => by cases hq; exact h⟩
    | 4 => obtain ⟨cC, iS, h⟩ := u_known (C := RX4) (T := TX4) (N := 8) (n := 8) hts (fun w h => zg_tb_lw w (zc4 w h)) (hts _ (zg_tb_lw _ zw1_32)); exact ⟨(cC, iS), fun q hq => by cases hq; exact h⟩
    | 5 => obtain ⟨cC, iS, h⟩ := u_known (C := RX5) (T := TX5) (N := 10) (n := 10) hts (fun w h => zg_tb_lw w (zc5 w h)) (hts _ (zg_tb_lw _ zw1_172)); exact ⟨(cC, iS), fun q hq => by cases hq; exact h⟩
    | 6 => obtain ⟨cC, iS, h⟩ := u_known (C := RX6) (T := TX6) (N := 4) (n := 4) hts (fun w h => zg_tb_lw w (zc6 w h)) (hts _ (zg_tb_lw _ zw1_111)); exact ⟨(cC, iS), fun q hq => by cases hq; exact h⟩
    | 7 => obtain ⟨cC, iS, h⟩ := u_known (C := RX7) (T := TX7) (N := 6) (n := 6) hts (fun w h => zg_tb_lw w (zc7 w h)) (hts _ (zg_tb_lw _ zw2_27)); exact ⟨(cC, iS), fun q hq => by cases hq; exact h⟩
    | 8 => obtain ⟨cC, iS, h⟩ := u_known (C := RX8) (T := TX8) (N := 2) (n := 2) hts (fun w h => zg_tb_lw w (zc8 w h)) (hts _ (zg_tb_lw _ zw1_72)); exact ⟨(cC, iS), fun q hq => by cases hq; exact h⟩
    | 9 => obtain ⟨cC, iS, h⟩ := u_known (C := RX9) (T := TX9) (N := 6) (n := 6) hts (fun w h => zg_tb_lw w (zc9 w h)) (hts _ (zg_tb_lw _ zw4_106)); exact ⟨(cC, iS), fun q hq => by cases hq; exact h⟩
    | 10 => obtain ⟨cC, iS, h⟩ := u_known (C := RX10) (T := TX10) (N := 6) (n := 6) hts (fun w h => zg_tb_lw w (zc10 w h)) (hts _ (zg_tb_lw _ zw1_212)); exact ⟨(cC, iS), fun q hq => by cases hq; exact h⟩
    | 11 => obtain ⟨cC, iS, h⟩ := u_known (C := RX11) (T := TX11) (N := 17) (n := 17) hts (fun w h => zg_tb_lw w (zc11 w h)) (hts _ (zg_tb_lw _ zw1_24)); exact ⟨(cC, iS), fun q hq => by cases hq; exact h⟩
    | 12 => obtain ⟨cC, iS, h⟩ := u_known (C := RX12) (T := TX12) (N := 71) (n := 71) hts (fun w h => zg_tb_lw w (zc12 w h)) (hts _ (zg_tb_lw _ zw5_154)); exact ⟨(cC, iS), fun q hq => by cases hq; exact h⟩
    | k + 13 => exact ⟨(0, fun _ => 0), fun q hq => by cases hq⟩
  obtain ⟨f, hf⟩ := Classical.axiomOfChoice h
  exact ⟨f, hf⟩
set_option maxRecDepth 100000 in
def lw_N : Nat → Nat := fun ci => ([7, 17, 4, 5, 8, 10, 4, 6, 2, 6, 6, 17, 71, 2] : List Nat).getD ci 0
set_option maxRecDepth 100000 in
theorem lw_apart {s : State} {args : Array Value} {dC : Nat → ClassId} {dI : Nat → Nat → Nat} (hts : ∀ w ∈ lw_tbl, w.before args s = true) (hKc : va_K (dC, dI) zg_cls [] s) (hS : dI 13 0 ≠ dI 13 1) : ∀ ci x y, x < lw_N ci → y < lw_N ci → x ≠ y → dI ci x ≠ dI ci y := by
  intro ci x y hx hy hne
  match ci with
  | 0 => exact va_apart (own := RX0) (C := RX0) (T := TX0) (N := 7) (ci := 0) hts (fun w h => zg_tb_lw w (zc0 w h)) tyX0 tyX0_ok nmX0 hKc rfl x y hx hy hne
  | 1 => exact va_apart (own := RX1) (C := RX1) (T := TX1) (N := 17) (ci := 1) hts (fun w h => zg_tb_lw w (zc1 w h)) tyX1 tyX1_ok nmX1 hKc rfl x y hx hy hne
  | 2 => exact va_apart (own := RX2) (C := RX2) (T := TX2) (N := 4) (ci := 2) hts (fun w h => zg_tb_lw w (zc2 w h)) tyX2 tyX2_ok nmX2 hKc rfl x y hx hy hne
  | 3 => exact va_apart (own := RX3) (C := RX3) (T := TX3) (N := 5) (ci := 3) hts (fun w h => zg_tb_lw w (zc3 w h)) tyX3 tyX3_ok nmX3 hKc rfl x y hx hy hne
  | 4 => exact va_apart (own := RX4) (C := RX4) (T := TX4) (N := 8) (ci := 4) hts (fun w h => zg_tb_lw w (zc4 w h)) tyX4 tyX4_ok nmX4 hKc rfl x y hx hy hne
  | 5 => exact va_apart (own := RX5) (C := RX5) (T := TX5) (N := 10) (ci := 5) hts (fun w h => zg_tb_lw w (zc5 w h)) tyX5 tyX5_ok nmX5 hKc rfl x y hx hy hne
  | 6 => exact va_apart (own := RX6) (C := RX6) (T := TX6) (N := 4) (ci := 6) hts (fun w h => zg_tb_lw w (zc6 w h)) tyX6 tyX6_ok nmX6 hKc rfl x y hx hy hne
  | 7 => exact va_apart (own := RX7) (C := RX7) (T := TX7) (N := 6) (ci := 7) hts (fun w h => zg_tb_lw w (zc7 w h)) tyX7 tyX7_ok nmX7 hKc rfl x y hx hy hne
  | 8 => exact va_apart (own := RX8) (C := RX8) (T := TX8) (N := 2) (ci := 8) hts (fun w h => zg_tb_lw w (zc8 w h)) tyX8 tyX8_ok nmX8 hKc rfl x y hx hy hne
  | 9 => exact va_apart (own := RX9) (C := RX9) (T := TX9) (N := 6) (ci := 9) hts (fun w h => zg_tb_lw w (zc9 w h)) tyX9 tyX9_ok nmX9 hKc rfl x y hx hy hne
  | 10 => exact va_apart (own := RX10) (C := RX10) (T := TX10) (N := 6) (ci := 10) hts (fun w h => zg_tb_lw w (zc10 w h)) tyX10 tyX10_ok nmX10 hKc rfl x y hx hy hne
  | 11 => exact va_apart (own := RX11) (C := RX11) (T := TX11) (N := 17) (ci := 11) hts (fun w h => zg_tb_lw w (zc11 w h)) tyX11 tyX11_ok nmX11 hKc rfl x y hx hy hne
  | 12 => exact va_apart (own := RX12) (C := RX12) (T := TX12) (N := 71) (ci := 12) hts (fun w h => zg_tb_lw w (zc12 w h)) tyX12 tyX12_ok nmX12 hKc rfl x y hx hy hne
  | 13 =>
    have hx : x < 2 := hx
    have hy : y < 2 := hy
    rcases (show (x = 0 ∧ y = 1) ∨ (x = 1 ∧ y = 0) by omega) with ⟨rfl, rfl⟩ | ⟨rfl, rfl⟩
    · exact hS
    · exact hS.symm
  | k + 14 => exact absurd hx (Nat.not_lt_zero x)
set_option maxRecDepth 100000 in
/-- what is known at the law's entry: the tables, the classes, the cells of the script and of the String -/
theorem lw_start {p : Program} {s : State} {m : MethodId} {meth : Method} {c : Code} {b L : Nat} {xs : Nat → Int32} (hL : L ≤ 6) (C0 : lw_At p s m meth c b L xs) : ∃ (D : zk_D) (G0 : Nat → Nat), zg_K D s.heap.size s.heap s ∧ G0 b = 1 ∧ zk_hp qK D s.heap.size s.heap G0 s.heap := by
  obtain ⟨hx, hb, hr, hml, hown, hts, hX, hbl, hlocks, hgv⟩ := C0
  have hs := flat_of_before _ hgv
  obtain ⟨f, hf⟩ := lw_cls hts
  obtain ⟨a0, an0, ao0⟩ := lw_arr (ty := .int) (hts _ (lw_m1 (i := 70) (by decide +kernel)))
  obtain ⟨a1, an1, ao1⟩ := lw_arr (ty := .long) (hts _ (lw_m1 (i := 109) (by decide +kernel)))
  obtain ⟨a2, an2, ao2⟩ := lw_arr (ty := .boolean) (hts _ (lw_m1 (i := 69) (by decide +kernel)))
  obtain ⟨a3, an3, ao3⟩ := lw_arr (ty := .char) (hts _ (lw_m1 (i := 87) (by decide +kernel)))
  obtain ⟨a4, an4, ao4⟩ := lw_arr (ty := .byte) (hts _ (lw_m1 (i := 170) (by decide +kernel)))
  obtain ⟨a10, an10, ao10⟩ := lw_arrA (t := .int) (hts _ (lw_m1 (i := 178) (by decide +kernel)))
  obtain ⟨a11, an11, ao11⟩ := lw_arrC (C := "UnaskedLetters$Word") (hts _ (lw_m1 (i := 218) (by decide +kernel)))
  obtain ⟨a12, an12, ao12⟩ := lw_arrC (C := "UnaskedLetters$Letter") (hts _ (lw_m2 (i := 1) (by decide +kernel)))
  obtain ⟨scr, x1, hof, x3, x4, x5⟩ := hX
  have x6 : scr.vm.isStatics = false := by
    cases hv : scr.vm with
    | statics k => exact absurd hv (hof.1 k)
    | _ => rfl
  obtain ⟨ad, at1, ca, ct, s1, s2, s3, s4, s5, s6, s7, s8, s9, ⟨cf1, k1, i1, fd1, f1, f2, f3⟩, cf2, k2, i2, fd2, g1, g2, g3⟩ := lw_str (tm := (Jvm.Term.string "UnaskedLetters$Judge" 11)) (N := 12) (byt := fun j => ([119, 108, 115, 107, 110, 97, 117, 104, 114, 109, 121, 111] : List Int32).getD j 0) (by decide) (hs _ (by decide +kernel)) (hs _ (by decide +kernel)) (hs _ (by decide +kernel)) (hs _ (by decide +kernel)) (fun j hj => by
    rcases (show j = 0 ∨ j = 1 ∨ j = 2 ∨ j = 3 ∨ j = 4 ∨ j = 5 ∨ j = 6 ∨ j = 7 ∨ j = 8 ∨ j = 9 ∨ j = 10 ∨ j = 11 by omega) with rfl | rfl | rfl | rfl | rfl | rfl | rfl | rfl | rfl | rfl | rfl | rfl
    · exact hs _ (by decide +kernel)
    · exact hs _ (by decide +kernel)
    · exact hs _ (by decide +kernel)
    · exact hs _ (by decide +kernel)
    · exact hs _ (by decide +kernel)
    · exact hs _ (by decide +kernel)
    · exact hs _ (by decide +kernel)
    · exact hs _ (by decide +kernel)
    · exact hs _ (by decide +kernel)
    · exact hs _ (by decide +kernel)
    · exact hs _ (by decide +kernel)
    · exact hs _ (by decide +kernel))
  have hxi : ∀ (j : Nat) (w : Value), scr.slots[j]? = some w → ∃ z : Int32, w = .int z := fun j w hw => by
    have hj : j < L := by rw [← x4]; exact (Array.getElem?_eq_some_iff.mp hw).1
    rw [x5 j hj] at hw; cases hw; exact ⟨_, rfl⟩
  have hti : ∀ (j : Nat) (w : Value), ct.slots[j]? = some w → ∃ z : Int32, w = .int z := fun j w hw => by
    have hj : j < 12 := by rw [← s8]; exact (Array.getElem?_eq_some_iff.mp hw).1
    rw [s9 j hj] at hw; cases hw; exact ⟨_, rfl⟩
  have n1 : ad ≠ b := fun e => by
    subst e; rw [x1] at s2; cases s2
    obtain ⟨z, hz⟩ := hxi _ _ f3; cases hz
  have n2 : at1 ≠ ad := fun e => by
    subst e; rw [s5] at s2; cases s2
    obtain ⟨z, hz⟩ := hti _ _ f3; cases hz
  have n3 : at1 ≠ b := fun e => by
    subst e; rw [x1] at s5; cases s5
    obtain ⟨-, k, hk, comp, hkind⟩ := hof
    obtain ⟨-, k', hk', comp', hkind'⟩ := s6
    rw [hk] at hk'; cases hk'
    rw [hkind] at hkind'; cases hkind'
  let dC : Nat → ClassId := fun ci => if ci = 13 then ca.cls else (f ci).1
  let dI : Nat → Nat → Nat := fun ci => if ci = 13 then (fun j => if j = 0 then fd1.slot else fd2.slot) else (f ci).2
  let dA : Nat → ClassId := fun tag => ([a0, a1, a2, a3, a4, scr.cls, ct.cls, a4, a4, a4, a10, a11, a12] : List ClassId).getD tag 0
  let d4 : Nat → Nat := fun k => if k = 1 then b else if k = 24 then ad else at1
  let D : zk_D := (dC, dI, dA, d4, fun k j => ((s.heap[d4 k]?).bind (fun c => c.slots[j]?)).getD .null)
  let G0 : Nat → Nat := fun a => if a = b then 1 else if a = ad then 24 else if a = at1 then 23 else 0
  have hcl : ∀ (ci : Nat) (q : vw_C), zg_cls[ci]? = some q → u_Kn s q.1 q.2.1 q.2.2 (dC ci) (dI ci) := fun ci q hq => by
    have hne : ¬ ci = 13 := fun e => by subst e; cases hq
    show u_Kn s _ _ _ (if ci = 13 then _ else _) (if ci = 13 then _ else _)
    rw [if_neg hne, if_neg hne]; exact hf ci q hq
  have hdS : dI 13 0 ≠ dI 13 1 := fun e => by
    have e : fd1.slot = fd2.slot := e
    rw [e, g3] at f3; cases f3
  have hdj : zk_dj qK D := zg_dj_ok (N := lw_N) (by decide +kernel) (lw_apart hts ⟨hcl, fun k q h => by cases h⟩ hdS)
  refine ⟨D, G0, ⟨⟨rfl, hdj⟩, hcl, ?_, ?_, ?_, ?_, ?_, s4, ?_, ?_, ?_⟩, if_pos rfl, ?_⟩
  · intro tag ty hty
    match tag with
    | 0 => cases hty; exact ao0
    | 1 => cases hty; exact ao1
    | 2 => cases hty; exact ao2
    | 3 => cases hty; exact ao3
    | 4 => cases hty; exact ao4
    | 5 => cases hty; exact fun n z => ⟨fun k h => (by cases h), hof.2⟩
    | 6 => cases hty; exact fun n z => ⟨fun k h => (by cases h), s6.2⟩
    | 7 => cases hty; exact ao4
    | 8 => cases hty; exact ao4
    | 9 => cases hty; exact ao4
    | 10 => cases hty; exact ao10
    | 11 => cases hty; exact ao11
    | 12 => cases hty; exact ao12
    | k + 13 => cases hty
  · exact List.forall_mem_cons.mpr ⟨an0, List.forall_mem_cons.mpr ⟨an1, List.forall_mem_cons.mpr ⟨an2, List.forall_mem_cons.mpr ⟨an3, List.forall_mem_cons.mpr ⟨an4, List.forall_mem_cons.mpr ⟨an10, List.forall_mem_cons.mpr ⟨an11, List.forall_mem_cons.mpr ⟨an12, fun _ h => absurd h List.not_mem_nil⟩⟩⟩⟩⟩⟩⟩⟩
  · exact List.forall_mem_cons.mpr ⟨va_Nw.of rfl (hts _ (lw_m1 (i := 33) (by decide +kernel))), List.forall_mem_cons.mpr ⟨va_Nw.of rfl (hts _ (lw_m1 (i := 73) (by decide +kernel))), List.forall_mem_cons.mpr ⟨va_Nw.of rfl (hts _ (lw_m1 (i := 90) (by decide +kernel))), List.forall_mem_cons.mpr ⟨va_Nw.of rfl (hts _ (lw_m1 (i := 112) (by decide +kernel))), List.forall_mem_cons.mpr ⟨va_Nw.of rfl (hts _ (lw_m1 (i := 131) (by decide +kernel))), List.forall_mem_cons.mpr ⟨va_Nw.of rfl (hts _ (lw_m1 (i := 173) (by decide +kernel))), List.forall_mem_cons.mpr ⟨va_Nw.of rfl (hts _ (lw_m1 (i := 213) (by decide +kernel))), List.forall_mem_cons.mpr ⟨va_Nw.of rfl (hts _ (lw_m2 (i := 4) (by decide +kernel))), List.forall_mem_cons.mpr ⟨va_Nw.of rfl (hts _ (lw_m2 (i := 28) (by decide +kernel))), fun _ h => absurd h List.not_mem_nil⟩⟩⟩⟩⟩⟩⟩⟩⟩
  · exact List.forall_mem_cons.mpr ⟨va_AO.of (hts _ (lw_m1 (i := 218) (by decide +kernel))), List.forall_mem_cons.mpr ⟨va_AO.of (hts _ (lw_m2 (i := 1) (by decide +kernel))), fun _ h => absurd h List.not_mem_nil⟩⟩
  · exact List.forall_mem_cons.mpr ⟨(hts (Jvm.Cond.arrayOver (FieldType.array FieldType.int)) (lw_m1 (i := 178) (by decide +kernel))), fun _ h => absurd h List.not_mem_nil⟩
  · exact List.forall_mem_cons.mpr ⟨⟨cf1, k1, i1, fd1, f1, f2, rfl⟩, List.forall_mem_cons.mpr ⟨⟨cf2, k2, i2, fd2, g1, g2, rfl⟩, fun _ h => absurd h List.not_mem_nil⟩⟩
  · exact List.forall_mem_cons.mpr ⟨vk_R.of (hts _ (lw_m1 (i := 135) (by decide +kernel))) s1, List.forall_mem_cons.mpr ⟨vk_R.of (hts _ (lw_m3 (i := 49) (by decide +kernel))) (show (Jvm.Term.string "UnaskedLetters$RuleReader" 88).eval _ s none [] s = some (.ref ad) from (va_eqR (hs (Jvm.Cond.eq (Jvm.Term.string "UnaskedLetters$Judge" 11) (Jvm.Term.string "UnaskedLetters$RuleReader" 88)) (by decide +kernel)) s1)), fun _ h => absurd h List.not_mem_nil⟩⟩
  · exact List.forall_mem_cons.mpr ⟨va_Zof (hts _ (lw_m1 (i := 145) (by decide +kernel))) (hts _ (lw_m1 (i := 7) (by decide +kernel))) (va_eqt (hs _ (by decide +kernel))) (fun a ha h => absurd ha (Nat.not_lt.mpr h)), fun _ h => absurd h List.not_mem_nil⟩
  · have ros : ∀ k, (zk_kd qK k).2.2.2.2.2.2.2 = 1 → k = 1 ∨ k = 24 ∨ k = 23 := by
      intro k hk
      have hall : ((List.range qK.length).all fun k => !(Nat.beq (zk_kd qK k).2.2.2.2.2.2.2 1) || (Nat.beq k 1 || Nat.beq k 24 || Nat.beq k 23)) = true := by decide +kernel
      by_cases hlt : k < qK.length
      · have := List.all_eq_true.mp hall k (List.mem_range.mpr hlt)
        rw [hk] at this
        simp only [Nat.beq_refl, Bool.not_true, Bool.false_or, Bool.or_eq_true] at this
        rcases this with (h | h) | h
        · exact Or.inl (Nat.eq_of_beq_eq_true h)
        · exact Or.inr (Or.inl (Nat.eq_of_beq_eq_true h))
        · exact Or.inr (Or.inr (Nat.eq_of_beq_eq_true h))
      · exfalso
        have e : zk_kd qK k = zk_K0 := by
          unfold zk_kd
          rw [List.getD_eq_getElem?_getD, List.getElem?_eq_none (Nat.le_of_not_lt hlt)]; rfl
        rw [e] at hk; exact absurd hk (by decide)
    have gb : G0 b = 1 := if_pos rfl
    have ga : G0 ad = 24 := by show (if ad = b then 1 else if ad = ad then 24 else _) = _; rw [if_neg n1, if_pos rfl]
    have gt : G0 at1 = 23 := by show (if at1 = b then 1 else if at1 = ad then 24 else if at1 = at1 then 23 else _) = _; rw [if_neg n3, if_neg n2, if_pos rfl]
    refine ⟨⟨Nat.le_refl _, fun k hk => ?_, fun k cell hk hc j w hw => ?_⟩, fun a ha => rfl, fun a ha => ?_⟩
    · rcases ros k hk with e | e | e <;> subst e
      · exact gb
      · exact ga
      · exact gt
    · show w = ((s.heap[d4 k]?).bind (fun c => c.slots[j]?)).getD .null
      have hc : s.heap[d4 k]? = some cell := hc
      rw [hc]; show w = (cell.slots[j]?).getD .null
      rw [hw]; rfl
    · have hcases : a = b ∨ a = ad ∨ a = at1 := by
        by_cases h1 : a = b
        · exact Or.inl h1
        · by_cases h2 : a = ad
          · exact Or.inr (Or.inl h2)
          · by_cases h3 : a = at1
            · exact Or.inr (Or.inr h3)
            · exfalso; apply ha
              show (if a = b then 1 else if a = ad then 24 else if a = at1 then 23 else 0) = 0
              rw [if_neg h1, if_neg h2, if_neg h3]
      rcases hcases with e | e | e
      · subst e
        rw [gb]
        refine ⟨⟨fun h => absurd h (by decide), fun _ => ⟨rfl, hbl⟩⟩, scr, x1, ⟨⟨⟨x3, x6⟩, fun h => absurd h (by decide)⟩, fun h => absurd h (by decide), fun _ => ⟨rfl, ?_, ?_, fun t ht j w hw => ?_⟩⟩, fun q hq => by cases hq⟩
        · show (0 : Int) ≤ _; omega
        · show (scr.slots.size : Int) ≤ 6; omega
        · obtain ⟨z, rfl⟩ := hxi j w hw
          cases ht
          exact ⟨zk_tv_I z, fun h => by cases h⟩
      · subst e
        rw [ga]
        refine ⟨⟨fun h => absurd h (by decide), fun _ => ⟨rfl, (Array.getElem?_eq_some_iff.mp s2).1⟩⟩, ca, s2, ⟨⟨s3, fun h => absurd h (by decide)⟩, fun _ => ⟨rfl, fun j t ht => ?_⟩, fun h => absurd rfl h⟩, fun q hq => by cases hq⟩
        match j with
        | 0 => cases ht; exact ⟨_, f3, Or.inl ⟨at1, rfl, by rw [gt]; rfl, by rw [gt]; decide⟩, fun _ h => absurd h (by decide)⟩
        | 1 => cases ht; exact ⟨_, g3, ⟨0, rfl, by decide, by decide⟩, fun h => by cases h⟩
        | j + 2 => cases ht
      · subst e
        rw [gt]
        refine ⟨⟨fun h => absurd h (by decide), fun _ => ⟨rfl, (Array.getElem?_eq_some_iff.mp s5).1⟩⟩, ct, s5, ⟨⟨s7, fun h => absurd h (by decide)⟩, fun h => absurd h (by decide), fun _ => ⟨rfl, ?_, ?_, fun t ht j w hw => ?_⟩⟩, fun q hq => by cases hq⟩
        · show (12 : Int) ≤ (ct.slots.size : Int); omega
        · show (ct.slots.size : Int) ≤ 12; omega
        · cases ht
          have hj : j < 12 := by rw [← s8]; exact (Array.getElem?_eq_some_iff.mp hw).1
          rw [s9 j hj] at hw; cases hw
          refine ⟨⟨_, rfl, ?_⟩, fun h => by cases h⟩
          have hbb : ∀ j, j < 12 → (97 : Int) ≤ (([119, 108, 115, 107, 110, 97, 117, 104, 114, 109, 121, 111] : List Int32).getD j 0).toInt ∧ (([119, 108, 115, 107, 110, 97, 117, 104, 114, 109, 121, 111] : List Int32).getD j 0).toInt ≤ 121 := by decide
          exact hbb j hj
