/-! ENGINE, 9: the checker's step, instructions that leave the heap alone -/
noncomputable section
def zk_cs (x : zk_S) (y : Nat) : Bool := Nat.beq (zk_lk x.2.2.2.1 y).1 0 || Nat.beq (zk_lk x.2.2.2.1 y).1 2
def zk_is (x : zk_S) (y k : Nat) : Bool := Nat.beq (zk_lk x.2.2.2.1 y).1 k
def zk_ld (x : zk_S) (i k pc' : Nat) : Option (Nat × zk_S) := match x.2.1.find? (fun q => Nat.beq q.1 i) with
  | some q => bif zk_is x q.2 k then some (pc', zk_st x (q.2 :: x.2.2.1)) else none
  | none => none
def zk_so1 (nL : Nat) (x : zk_S) (i k pc' : Nat) : Option (Nat × zk_S) := match x.2.2.1 with
  | y :: r => bif zk_is x y k && zk_cs x y && Nat.blt i nL then some (pc', zk_s1 x i y r) else none
  | _ => none
def zk_so2 (nL : Nat) (x : zk_S) (i pc' : Nat) : Option (Nat × zk_S) := match x.2.2.1 with
  | y :: r => bif zk_is x y 1 && Nat.blt (i + 1) nL then some (pc', zk_s2 x i y r) else none
  | _ => none
def zk_fa : List (Nat × Nat × Nat × Nat) → Nat → Nat → Option Nat
  | [], _, _ => none
  | q :: r, y, z => bif Nat.beq q.1 0 && Nat.beq q.2.1 y && Nat.beq q.2.2.1 z then some q.2.2.2 else zk_fa r y z
theorem zk_fa_ok : ∀ {l : List (Nat × Nat × Nat × Nat)} {y z r : Nat}, zk_fa l y z = some r → (0, y, z, r) ∈ l
  | [], _, _, _, h => by simp [zk_fa] at h
  | q :: l, y, z, r, h => by
    unfold zk_fa at h
    cases e : Nat.beq q.1 0 && Nat.beq q.2.1 y && Nat.beq q.2.2.1 z <;> rw [e] at h
    · exact List.mem_cons_of_mem _ (zk_fa_ok h)
    · obtain ⟨e, e3⟩ := Bool.and_eq_true_iff.mp e
      obtain ⟨e1, e2⟩ := Bool.and_eq_true_iff.mp e
      obtain ⟨q1, q2, q3, q4⟩ := q
      have e1' : q1 = 0 := Nat.eq_of_beq_eq_true e1
      have e2' : q2 = y := Nat.eq_of_beq_eq_true e2
      have e3' : q3 = z := Nat.eq_of_beq_eq_true e3
      have h : some q4 = some r := h
      cases h; rw [e1', e2', e3']
      exact List.mem_cons_self
/-- relations of a sum or a difference with a constant -/
def zk_cr (fit : Bool) (n y : Nat) (t : zk_T) (sg : Bool) : List (Nat × Nat × Int) := bif fit && zk_cst t then (bif sg then [(n, y, t.2.1), (y, n, -t.2.1)] else [(n, y, -t.2.1), (y, n, t.2.1)]) else []
def zk_tadd (a b : zk_T) : zk_T := zk_w32 (a.2.1 + b.2.1) (a.2.2 + b.2.2)
def zk_tsub (a b : zk_T) : zk_T := zk_w32 (a.2.1 - b.2.2) (a.2.2 - b.2.1)
def zk_tmul (a b : zk_T) : zk_T := bif zk_ile 0 a.2.1 && zk_ile 0 b.2.1 then zk_w32 (a.2.1 * b.2.1) (a.2.2 * b.2.2) else zk_I
def zk_tand (a b : zk_T) : zk_T := bif zk_ile 0 b.2.1 then (bif zk_ile 0 a.2.1 then (0, 0, zk_imin a.2.2 b.2.2) else (0, 0, b.2.2)) else bif zk_ile 0 a.2.1 then (0, 0, a.2.2) else zk_I
def zk_tneg (a : zk_T) : zk_T := zk_w32 (-a.2.2) (-a.2.1)
def zk_tchar (a : zk_T) : zk_T := bif zk_ile 0 a.2.1 && zk_ile a.2.2 65535 then (0, a.2.1, a.2.2) else (0, 0, 65535)
/-- of two constants -/
def zk_cf (g : Int32 → Int32 → Int32) (a b : zk_T) : zk_T := bif zk_ieq a.2.1 a.2.2 && zk_ieq b.2.1 b.2.2 then (0, (g (Int32.ofInt a.2.1) (Int32.ofInt b.2.1)).toInt, (g (Int32.ofInt a.2.1) (Int32.ofInt b.2.1)).toInt) else zk_I
def zk_shl (a b : Int32) : Int32 := a <<< (b &&& 31)
def zk_shr (a b : Int32) : Int32 := a >>> (b &&& 31)
def zk_bi (x : zk_S) (f : zk_T → zk_T → zk_T) (pc : Nat) : Option (Nat × zk_S) := match x.2.2.1 with
  | z :: y :: r => bif zk_is x y 0 && zk_is x z 0 then some (pc + 1, zk_pu x r (f (zk_lk x.2.2.2.1 y) (zk_lk x.2.2.2.1 z)) [] []) else none
  | _ => none
def zk_nz (x : zk_S) (z : Nat) : Bool := zk_ile 1 (zk_lk x.2.2.2.1 z).2.1 || zk_ile (zk_lk x.2.2.2.1 z).2.2 (-1) || zk_lb x.2.2.2.1 x.2.2.2.2.1 3 z 1 || x.2.2.2.2.2.2.2.2.1.any fun q => Nat.beq q.1 2 && Nat.beq q.2.1 z && Nat.beq q.2.2.1 0
def zk_fitL (lo hi : Int) : Bool := zk_ile (-9223372036854775808) lo && zk_ile hi 9223372036854775807
/-- what is known of a long of two: type, relations, others -/
abbrev zk_LR : Type := zk_T × List (Nat × Nat × Int) × List (Nat × Nat × Nat × Nat)
def zk_lN (_ : zk_S) (_ _ : Nat) : zk_LR := (zk_J, [], [])
def zk_l7 (x : zk_S) (y z : Nat) : List (Nat × Nat × Nat × Nat) := x.2.2.2.2.2.2.2.2.1.filter fun q => Nat.beq q.1 7 && ((zk_le x.2.2.2.1 x.2.2.2.2.1 3 q.2.2.1 y 0 && zk_le x.2.2.2.1 x.2.2.2.2.1 3 q.2.2.2 z 0) || (zk_le x.2.2.2.1 x.2.2.2.2.1 3 q.2.2.2 y 0 && zk_le x.2.2.2.1 x.2.2.2.2.1 3 q.2.2.1 z 0))
def zk_lA (x : zk_S) (y z : Nat) : zk_LR := let a := zk_lk x.2.2.2.1 y; let b := zk_lk x.2.2.2.1 z
  bif zk_fitL (a.2.1 + b.2.1) (a.2.2 + b.2.2) then ((1, a.2.1 + b.2.1, a.2.2 + b.2.2), [(x.1, y, b.2.2), (y, x.1, -b.2.1), (x.1, z, a.2.2), (z, x.1, -a.2.1)] ++ (zk_l7 x y z).map (fun q => (q.2.1, x.1, 0)), [(7, x.1, y, z)]) else (zk_J, [], [])
def zk_lS (x : zk_S) (y z : Nat) : zk_LR := let a := zk_lk x.2.2.2.1 y; let b := zk_lk x.2.2.2.1 z
  bif zk_fitL (a.2.1 - b.2.2) (a.2.2 - b.2.1) then ((1, a.2.1 - b.2.2, a.2.2 - b.2.1), [], []) else (zk_J, [], [])
def zk_lM (x : zk_S) (y z : Nat) : zk_LR := let a := zk_lk x.2.2.2.1 y; let b := zk_lk x.2.2.2.1 z
  bif zk_ile 0 a.2.1 && zk_ile 0 b.2.1 && zk_fitL 0 (a.2.2 * b.2.2) then ((1, a.2.1 * b.2.1, a.2.2 * b.2.2), (bif zk_ile 1 b.2.1 then [(y, x.1, 0)] else []) ++ (bif zk_ile 1 a.2.1 then [(z, x.1, 0)] else []), []) else (zk_J, [], [])
def zk_lD (x : zk_S) (y z : Nat) : zk_LR := let a := zk_lk x.2.2.2.1 y; let b := zk_lk x.2.2.2.1 z
  bif zk_ile 0 a.2.1 && zk_ile 1 b.2.1 then ((1, 0, a.2.2), (bif zk_ile 1 a.2.1 && zk_ile 2 b.2.1 then [(x.1, y, -1)] else [(x.1, y, 0)]), []) else (zk_J, [], [])
def zk_bl (x : zk_S) (pc : Nat) (nz : Bool) (f : zk_S → Nat → Nat → zk_LR) : Option (Nat × zk_S) := match x.2.2.1 with
  | z :: y :: r => bif zk_is x y 1 && zk_is x z 1 && (!nz || zk_nz x z) then some (pc + 1, zk_pu x r (f x y z).1 (f x y z).2.1 (f x y z).2.2) else none
  | _ => none
/-- an int as a long -/
def zk_ilr (x : zk_S) (y : Nat) : List (Nat × Nat × Int) := bif zk_ieq (zk_lk x.2.2.2.1 y).2.1 (zk_lk x.2.2.2.1 y).2.2 then [] else [(x.1, y, 0), (y, x.1, 0)]
def zk_ilm (x : zk_S) (y : Nat) : List (Nat × Nat × Nat × Nat) := (x.2.2.2.2.2.2.2.2.1.filter fun q => Nat.beq q.1 2 && Nat.beq q.2.1 y).map fun q => (2, x.1, q.2.2.1, 0)
/-- 1 moved to the left -/
def zk_tshl (a b : zk_T) : zk_T := bif zk_ieq a.2.1 1 && zk_ieq a.2.2 1 && zk_ile 0 b.2.1 && zk_ile b.2.2 30 then (0, ((2 ^ b.2.1.toNat : Nat) : Int), ((2 ^ b.2.2.toNat : Nat) : Int)) else zk_cf zk_shl a b
def zk_tbyte (a : zk_T) : zk_T := bif zk_ile (-128) a.2.1 && zk_ile a.2.2 127 then (0, a.2.1, a.2.2) else (0, -128, 127)
def zk_adds (x : zk_S) (pc : Nat) : Option (Nat × zk_S) := match x.2.2.1 with
  | z :: y :: r => bif zk_is x y 0 && zk_is x z 0 then (match zk_fa x.2.2.2.2.2.2.2.2.1 y z with
      | some w => some (pc + 1, zk_st x (w :: r))
      | none => let a := zk_lk x.2.2.2.1 y; let b := zk_lk x.2.2.2.1 z; let ft := zk_fit (a.2.1 + b.2.1) (a.2.2 + b.2.2)
        some (pc + 1, zk_pu x r (zk_tadd a b) (zk_cr ft x.1 y b true ++ zk_cr ft x.1 z a true) [(0, y, z, x.1)])) else none
  | _ => none
def zk_subs (x : zk_S) (pc : Nat) : Option (Nat × zk_S) := match x.2.2.1 with
  | z :: y :: r => bif zk_is x y 0 && zk_is x z 0 then (let a := zk_lk x.2.2.2.1 y; let b := zk_lk x.2.2.2.1 z; let ft := zk_fit (a.2.1 - b.2.2) (a.2.2 - b.2.1)
        some (pc + 1, zk_pu x r (zk_tsub a b) (zk_cr ft x.1 y b false) [])) else none
  | _ => none
def zk_incs (nL : Nat) (x : zk_S) (i : Nat) (n : Int) (pc : Nat) : Option (Nat × zk_S) := match x.2.1.find? (fun q => Nat.beq q.1 i) with
  | some q => bif zk_is x q.2 0 && Nat.blt i nL && zk_fit n n then (let a := zk_lk x.2.2.2.1 q.2
      some (pc + 3, zk_s1 (zk_pu x x.2.2.1 (zk_w32 (a.2.1 + n) (a.2.2 + n)) (zk_cr (zk_fit (a.2.1 + n) (a.2.2 + n)) x.1 q.2 (0, n, n) true) []) i x.1 x.2.2.1)) else none
  | none => none
def zk_sA (nL : Nat) (x : zk_S) (pc : Nat) : Instr → Option (Nat × zk_S)
  | .iconst c => bif zk_fit c c then some (pc + 1, zk_pu x x.2.2.1 (0, c, c) [] []) else none
  | .bipush c => bif zk_ile (-128) c && zk_ile c 127 then some (pc + 2, zk_pu x x.2.2.1 (0, c, c) [] []) else none
  | .sipush c => bif zk_ile (-32768) c && zk_ile c 32767 then some (pc + 3, zk_pu x x.2.2.1 (0, c, c) [] []) else none
  | .lconst c => some (pc + 1, zk_pu x x.2.2.1 (1, (c.val : Int), (c.val : Int)) [] [])
  | .aconst_null => some (pc + 1, zk_pu x x.2.2.1 (2, 0, 1) [] [])
  | .iload_n k => zk_ld x k.val 0 (pc + 1)
  | .iload i => zk_ld x i 0 (pc + 2)
  | .lload_n k => zk_ld x k.val 1 (pc + 1)
  | .lload i => zk_ld x i 1 (pc + 2)
  | .aload_n k => zk_ld x k.val 2 (pc + 1)
  | .aload i => zk_ld x i 2 (pc + 2)
  | .istore_n k => zk_so1 nL x k.val 0 (pc + 1)
  | .istore i => zk_so1 nL x i 0 (pc + 2)
  | .astore_n k => zk_so1 nL x k.val 2 (pc + 1)
  | .astore i => zk_so1 nL x i 2 (pc + 2)
  | .lstore_n k => zk_so2 nL x k.val (pc + 1)
  | .lstore i => zk_so2 nL x i (pc + 2)
  | .iinc i n => zk_incs nL x i n pc
  | .pop => match x.2.2.1 with | y :: r => bif zk_cs x y then some (pc + 1, zk_st x r) else none | _ => none
  | .dup => match x.2.2.1 with | y :: r => bif zk_cs x y then some (pc + 1, zk_st x (y :: y :: r)) else none | _ => none
  | .dup_x1 => match x.2.2.1 with | y :: z :: r => bif zk_cs x y && zk_cs x z then some (pc + 1, zk_st x (y :: z :: y :: r)) else none | _ => none
  | .dup2 => match x.2.2.1 with | y :: z :: r => bif zk_cs x y && zk_cs x z then some (pc + 1, zk_st x (y :: z :: y :: z :: r)) else none | _ => none
  | .iadd => zk_adds x pc
  | .isub => zk_subs x pc
  | .imul => zk_bi x zk_tmul pc
  | .iand => zk_bi x zk_tand pc
  | .ior => zk_bi x (fun _ _ => zk_I) pc
  | .ixor => zk_bi x (fun _ _ => zk_I) pc
  | .ishl => zk_bi x zk_tshl pc
  | .ishr => zk_bi x (zk_cf zk_shr) pc
  | .iushr => zk_bi x (fun _ _ => zk_I) pc
  | .idiv => match x.2.2.1 with | z :: _ => bif zk_nz x z then zk_bi x (fun _ _ => zk_I) pc else none | _ => none
  | .irem => match x.2.2.1 with | z :: _ => bif zk_nz x z then zk_bi x (fun _ _ => zk_I) pc else none | _ => none
  | .ineg => match x.2.2.1 with | y :: r => bif zk_is x y 0 then some (pc + 1, zk_pu x r (zk_tneg (zk_lk x.2.2.2.1 y)) [] []) else none | _ => none
  | .i2c => match x.2.2.1 with | y :: r => bif zk_is x y 0 then some (pc + 1, zk_pu x r (zk_tchar (zk_lk x.2.2.2.1 y)) [] []) else none | _ => none
  | .i2l => match x.2.2.1 with | y :: r => bif zk_is x y 0 then some (pc + 1, zk_pu x r (1, (zk_lk x.2.2.2.1 y).2.1, (zk_lk x.2.2.2.1 y).2.2) (zk_ilr x y) (zk_ilm x y)) else none | _ => none
  | .i2b => match x.2.2.1 with | y :: r => bif zk_is x y 0 then some (pc + 1, zk_pu x r (zk_tbyte (zk_lk x.2.2.2.1 y)) [] []) else none | _ => none
  | .l2i => match x.2.2.1 with | y :: r => bif zk_is x y 1 then some (pc + 1, zk_pu x r (zk_w32 (zk_lk x.2.2.2.1 y).2.1 (zk_lk x.2.2.2.1 y).2.2) [] []) else none | _ => none
  | .ladd => zk_bl x pc false zk_lA
  | .lsub => zk_bl x pc false zk_lS
  | .lmul => zk_bl x pc false zk_lM
  | .land => zk_bl x pc false zk_lN
  | .lor => zk_bl x pc false zk_lN
  | .lxor => zk_bl x pc false zk_lN
  | .ldiv => zk_bl x pc true zk_lD
  | .lrem => zk_bl x pc true zk_lN
  | .lshl => match x.2.2.1 with | z :: y :: r => bif zk_is x y 1 && zk_is x z 0 then some (pc + 1, zk_pu x r zk_J [] []) else none | _ => none
  | .lcmp => match x.2.2.1 with | z :: y :: r => bif zk_is x y 1 && zk_is x z 1 then some (pc + 1, zk_pu x r (0, -1, 1) [] [(1, y, z, x.1)]) else none | _ => none
  | _ => none
theorem zk_is_eq {x : zk_S} {y k : Nat} (h : zk_is x y k = true) : (zk_lk x.2.2.2.1 y).1 = k := Nat.eq_of_beq_eq_true h
theorem zk_ti (a : Int32) : a.toInt = if 2 * a.toBitVec.toNat < 2 ^ 32 then (a.toBitVec.toNat : Int) else (a.toBitVec.toNat : Int) - ((2 ^ 32 : Nat) : Int) := BitVec.toInt_eq_toNat_cond _
theorem zk_and_le (a b : Int32) (h : 0 ≤ b.toInt) : 0 ≤ (a &&& b).toInt ∧ (a &&& b).toInt ≤ b.toInt := by
  have h1 := zk_ti b
  have h2 := zk_ti (a &&& b)
  have h3 : (a &&& b).toBitVec.toNat ≤ b.toBitVec.toNat := by
    rw [Int32.toBitVec_and, BitVec.toNat_and]; exact Nat.and_le_right
  have h4 := b.toBitVec.isLt
  split at h1 <;> split at h2 <;> omega
theorem zk_and_le2 (a b : Int32) (h : 0 ≤ a.toInt) : 0 ≤ (a &&& b).toInt ∧ (a &&& b).toInt ≤ a.toInt := by
  have h1 := zk_ti a
  have h2 := zk_ti (a &&& b)
  have h3 : (a &&& b).toBitVec.toNat ≤ a.toBitVec.toNat := by
    rw [Int32.toBitVec_and, BitVec.toNat_and]; exact Nat.and_le_left
  have h4 := a.toBitVec.isLt
  split at h1 <;> split at h2 <;> omega
theorem zk_tand_ok (G : Nat → Nat) {s t : zk_T} {a b : Int32} (a1 : s.2.1 ≤ a.toInt) (a2 : a.toInt ≤ s.2.2) (b1 : t.2.1 ≤ b.toInt) (b2 : b.toInt ≤ t.2.2) : zk_tv G (.int (a &&& b)) (zk_tand s t) := by
  unfold zk_tand
  cases e1 : zk_ile 0 t.2.1 <;> cases e2 : zk_ile 0 s.2.1 <;> simp only [cond_true, cond_false]
  · exact zk_tv_I _
  · have e2 := (zk_ile_iff _ _).mp e2
    have := zk_and_le2 a b (by omega)
    exact zk_tv_int this.1 (by omega)
  · have e1 := (zk_ile_iff _ _).mp e1
    have := zk_and_le a b (by omega)
    exact zk_tv_int this.1 (by omega)
  · have e2 := (zk_ile_iff _ _).mp e2
    have e1 := (zk_ile_iff _ _).mp e1
    have h1 := zk_and_le2 a b (by omega)
    have h2 := zk_and_le a b (by omega)
    exact zk_tv_int h1.1 (zk_imin_le (by omega) (by omega))
theorem zk_tmul_ok (G : Nat → Nat) {s t : zk_T} {a b : Int32} (a1 : s.2.1 ≤ a.toInt) (a2 : a.toInt ≤ s.2.2) (b1 : t.2.1 ≤ b.toInt) (b2 : b.toInt ≤ t.2.2) : zk_tv G (.int (a * b)) (zk_tmul s t) := by
  unfold zk_tmul
  cases e : zk_ile 0 s.2.1 && zk_ile 0 t.2.1 <;> simp only [cond_true, cond_false]
  · exact zk_tv_I _
  · obtain ⟨e1, e2⟩ := Bool.and_eq_true_iff.mp e
    have e1 := (zk_ile_iff _ _).mp e1
    have e2 := (zk_ile_iff _ _).mp e2
    exact zk_w32_ok (Int32.toInt_mul a b) (Int.mul_le_mul a1 b1 e2 (by omega)) (Int.mul_le_mul a2 b2 (by omega) (by omega))
theorem zk_tchar_ok (G : Nat → Nat) {s : zk_T} {a : Int32} (a1 : s.2.1 ≤ a.toInt) (a2 : a.toInt ≤ s.2.2) : zk_tv G (.int (a.toUInt32 % 65536).toInt32) (zk_tchar s) := by
  rw [pk_char a]
  have h1 := zk_ti a
  have h3 := a.toBitVec.isLt
  have h2 : (nI (a.toBitVec.toNat % 65536)).toInt = ((a.toBitVec.toNat % 65536 : Nat) : Int) := nI_toInt (by omega)
  unfold zk_tchar
  cases e : zk_ile 0 s.2.1 && zk_ile s.2.2 65535 <;> simp only [cond_true, cond_false]
  · exact zk_tv_int (by omega) (by omega)
  · obtain ⟨e1, e2⟩ := Bool.and_eq_true_iff.mp e
    have e1 := (zk_ile_iff _ _).mp e1
    have e2 := (zk_ile_iff _ _).mp e2
    split at h1 <;> exact zk_tv_int (by omega) (by omega)
theorem zk_cf_ok {G : Nat → Nat} (g : Int32 → Int32 → Int32) {s t : zk_T} {a b : Int32} (a1 : s.2.1 ≤ a.toInt) (a2 : a.toInt ≤ s.2.2) (b1 : t.2.1 ≤ b.toInt) (b2 : b.toInt ≤ t.2.2) : zk_tv G (.int (g a b)) (zk_cf g s t) := by
  unfold zk_cf
  cases e : zk_ieq s.2.1 s.2.2 && zk_ieq t.2.1 t.2.2
  · exact zk_tv_I _
  · obtain ⟨e1, e2⟩ := Bool.and_eq_true_iff.mp e
    have e1 := (zk_ieq_iff _ _).mp e1
    have e2 := (zk_ieq_iff _ _).mp e2
    have ha : s.2.1 = a.toInt := by omega
    have hb : t.2.1 = b.toInt := by omega
    rw [ha, hb, Int32.ofInt_toInt, Int32.ofInt_toInt]
    exact zk_tv_int (Int.le_refl _) (Int.le_refl _)
theorem zk_nz_i {KT : List zk_K} {D : zk_D} {G : Nat → Nat} {H : Heap} {v : Nat → Value} {x : zk_S} (hF : zk_F KT D G H v x) {z : Nat} (h : zk_nz x z = true) (hz : zk_nu (zk_lk x.2.2.2.1 z) = true) : zk_i (v z) ≠ 0 := by
  intro e
  obtain ⟨b1, b2⟩ := zk_nu_tv (zk_F_ty hF z) hz
  unfold zk_nz at h
  rcases Bool.or_eq_true_iff.mp h with h | h
  · rcases Bool.or_eq_true_iff.mp h with h | h
    · rcases Bool.or_eq_true_iff.mp h with h | h <;> have h := (zk_ile_iff _ _).mp h <;> omega
    · have : 1 ≤ zk_i (v z) := by
        obtain ⟨n, loc, stk, tys, rel, fld, len, pf, msc, la⟩ := x
        exact zk_lb_ok (fun q hq => (hF.1 q hq).2) hF.2.1 h
      omega
  · obtain ⟨q, hq, h⟩ := List.any_eq_true.mp h
    obtain ⟨h0, h3⟩ := Bool.and_eq_true_iff.mp h
    obtain ⟨h1, h2⟩ := Bool.and_eq_true_iff.mp h0
    have := (zk_ms2 (zk_F_ms hF q hq) (Nat.eq_of_beq_eq_true h1)).2
    rw [Nat.eq_of_beq_eq_true h2, Nat.eq_of_beq_eq_true h3] at this
    exact this e
theorem zk_nz_ok {KT : List zk_K} {D : zk_D} {G : Nat → Nat} {H : Heap} {v : Nat → Value} {x : zk_S} (hF : zk_F KT D G H v x) {z : Nat} (h : zk_nz x z = true) (hz : (zk_lk x.2.2.2.1 z).1 = 0) {b : Int32} (hb : v z = .int b) : ¬ b = 0 := by
  intro e
  refine zk_nz_i hF h (by unfold zk_nu; rw [hz]; rfl) ?_
  rw [hb, e]; rfl
theorem zk_nz_okL {KT : List zk_K} {D : zk_D} {G : Nat → Nat} {H : Heap} {v : Nat → Value} {x : zk_S} (hF : zk_F KT D G H v x) {z : Nat} (h : zk_nz x z = true) (hz : (zk_lk x.2.2.2.1 z).1 = 1) {b : Int64} (hb : v z = .long b) : ¬ b = 0 := by
  intro e
  refine zk_nz_i hF h (by unfold zk_nu; rw [hz]; rfl) ?_
  rw [hb, e]; rfl
theorem zk_fitL_ok {lo hi z : Int} (h : zk_fitL lo hi = true) (h1 : lo ≤ z) (h2 : z ≤ hi) : z.bmod (2 ^ 64) = z := by
  obtain ⟨a, b⟩ := Bool.and_eq_true_iff.mp h
  have a := (zk_ile_iff _ _).mp a
  have b := (zk_ile_iff _ _).mp b
  rw [Int.bmod_eq_of_le (by omega) (by omega)]
theorem zk_shl1 : ∀ k : Fin 31, (zk_shl 1 (Int32.ofNat k.val)).toInt = ((2 ^ k.val : Nat) : Int) := by decide
theorem zk_tshl_ok {G : Nat → Nat} {s t : zk_T} {a b : Int32} (a1 : s.2.1 ≤ a.toInt) (a2 : a.toInt ≤ s.2.2) (b1 : t.2.1 ≤ b.toInt) (b2 : b.toInt ≤ t.2.2) : zk_tv G (.int (zk_shl a b)) (zk_tshl s t) := by
  unfold zk_tshl
  cases e : zk_ieq s.2.1 1 && zk_ieq s.2.2 1 && zk_ile 0 t.2.1 && zk_ile t.2.2 30
  · exact zk_cf_ok zk_shl a1 a2 b1 b2
  · simp only [Bool.and_eq_true] at e
    obtain ⟨⟨⟨e1, e2⟩, e3⟩, e4⟩ := e
    have e1 := (zk_ieq_iff _ _).mp e1
    have e2 := (zk_ieq_iff _ _).mp e2
    have e3 := (zk_ile_iff _ _).mp e3
    have e4 := (zk_ile_iff _ _).mp e4
    have ha : a = 1 := Int32.toInt_inj.mp (by rw [show (1 : Int32).toInt = 1 from rfl]; omega)
    have hk : b.toInt.toNat < 31 := by omega
    have hb : b = Int32.ofNat b.toInt.toNat := Int32.toInt_inj.mp (by rw [show (Int32.ofNat b.toInt.toNat).toInt = (b.toInt.toNat : Int) from nI_toInt (by omega)]; omega)
    have := zk_shl1 ⟨b.toInt.toNat, hk⟩
    rw [← hb] at this
    rw [ha]
    have p1 : 2 ^ t.2.1.toNat ≤ 2 ^ b.toInt.toNat := Nat.pow_le_pow_right (by decide) (by omega)
    have p2 : 2 ^ b.toInt.toNat ≤ 2 ^ t.2.2.toNat := Nat.pow_le_pow_right (by decide) (by omega)
    have this : (zk_shl 1 b).toInt = ((2 ^ b.toInt.toNat : Nat) : Int) := this
    exact zk_tv_int (by rw [this]; exact Int.ofNat_le.mpr p1) (by rw [this]; exact Int.ofNat_le.mpr p2)
theorem zk_tbyte_ok (G : Nat → Nat) {s : zk_T} {a : Int32} (a1 : s.2.1 ≤ a.toInt) (a2 : a.toInt ≤ s.2.2) : zk_tv G (.int a.toInt8.toInt32) (zk_tbyte s) := by
  unfold zk_tbyte
  cases e : zk_ile (-128) s.2.1 && zk_ile s.2.2 127
  · have := lg_i2b_range a
    exact zk_tv_int (by omega) (by omega)
  · obtain ⟨e1, e2⟩ := Bool.and_eq_true_iff.mp e
    have e1 := (zk_ile_iff _ _).mp e1
    have e2 := (zk_ile_iff _ _).mp e2
    rw [lg_i2b_small (by omega) (by omega)]
    exact zk_tv_int a1 a2
theorem zk_find_mem {l : List (Nat × Nat)} {i : Nat} {q : Nat × Nat} (h : l.find? (fun q => Nat.beq q.1 i) = some q) : (i, q.2) ∈ l := by
  have h1 := List.mem_of_find?_eq_some h
  have h2 := List.find?_some h
  rw [← Nat.eq_of_beq_eq_true h2]; exact h1
section ZA
variable {p : Program} {l : Launch} {e : Env} {R : Room} {s : State} {m : MethodId} {args : Array Value} {below : List Frame} {meth : Method} {c : Code} {Q : State → Prop} {KT : List zk_K} {D : zk_D} {base : Nat} {Hb : Heap} {n0 nL : Nat} {v0 : Nat → Value} {E : List (Nat × Nat)} {G0 : Nat → Nat} {H0 : Heap} {cc : ByteArray}
variable {cells slots pc : Nat} {x : zk_S}
theorem zt_ld {i k pc' : Nat} {o : Nat × zk_S} (h : zk_ld x i k pc' = some o)
    (row : ∀ {H : Heap} {locs : List Loc} {ls : Array Slot} {rest : List Value} {w : Value} {t : zk_T} {G : Nat → Nat}, zk_tv G w t → t.1 = k → ls[i]? = some (.val w) → W p l e R s m args below meth c H locs cells slots Q (F0 m pc' ls (w :: rest)) → W p l e R s m args below meth c H locs cells slots Q (F0 m pc ls rest))
    (kk : zk_G p l e R s m args below meth c Q KT D base Hb n0 nL v0 E G0 H0 cells slots o.1 o.2) : zk_G p l e R s m args below meth c Q KT D base Hb n0 nL v0 E G0 H0 cells slots pc x := by
  unfold zk_ld at h
  split at h
  · rename_i q hq
    cases e : zk_is x q.2 k <;> rw [e] at h
    · cases h
    · have h : some (pc', zk_st x (q.2 :: x.2.2.1)) = some o := h
      cases h
      exact zs_load (zk_find_mem hq) (fun ht hl => row ht (zk_is_eq e) hl) kk
  · cases h
theorem zt_so1 {i k pc' : Nat} {o : Nat × zk_S} (h : zk_so1 nL x i k pc' = some o)
    (row : ∀ {H : Heap} {locs : List Loc} {ls : Array Slot} {rv : List Value} {w : Value} {lv lv' : List (Nat × Value)} {t : zk_T} {G : Nat → Nat}, zk_tv G w t → t.1 = k → lv_has ls nL lv → i < nL → (i, w) :: lv.filter (fun q => !(q.1 == i) && !(q.1 + 1 == i && q.2.category == 2)) = lv' → (∀ ls' : Array Slot, lv_has ls' nL lv' → W p l e R s m args below meth c H locs cells slots Q (F0 m pc' ls' rv)) → W p l e R s m args below meth c H locs cells slots Q (F0 m pc ls (w :: rv)))
    (kk : zk_G p l e R s m args below meth c Q KT D base Hb n0 nL v0 E G0 H0 cells slots o.1 o.2) : zk_G p l e R s m args below meth c Q KT D base Hb n0 nL v0 E G0 H0 cells slots pc x := by
  unfold zk_so1 at h
  split at h
  · rename_i y r hs
    cases e : zk_is x y k && zk_cs x y && Nat.blt i nL <;> rw [e] at h
    · cases h
    · have h : some (pc', zk_s1 x i y r) = some o := h
      cases h
      obtain ⟨e, e3⟩ := Bool.and_eq_true_iff.mp e
      obtain ⟨e1, e2⟩ := Bool.and_eq_true_iff.mp e
      have e3 : i < nL := by simpa using e3
      exact zs_store1 hs e3 e2 (fun ht hl hv k => row ht (zk_is_eq e1) hl e3 hv k) kk
  · cases h
theorem zt_so2 {i pc' : Nat} {o : Nat × zk_S} (h : zk_so2 nL x i pc' = some o)
    (row : ∀ {H : Heap} {locs : List Loc} {ls : Array Slot} {rv : List Value} {w : Int64} {lv lv' : List (Nat × Value)}, lv_has ls nL lv → i + 1 < nL → (i, Value.long w) :: lv.filter (fun q => !(q.1 == i) && (!(q.1 == i + 1) && !(q.1 + 1 == i && q.2.category == 2))) = lv' → (∀ ls' : Array Slot, lv_has ls' nL lv' → W p l e R s m args below meth c H locs cells slots Q (F0 m pc' ls' rv)) → W p l e R s m args below meth c H locs cells slots Q (F0 m pc ls (.long w :: rv)))
    (kk : zk_G p l e R s m args below meth c Q KT D base Hb n0 nL v0 E G0 H0 cells slots o.1 o.2) : zk_G p l e R s m args below meth c Q KT D base Hb n0 nL v0 E G0 H0 cells slots pc x := by
  unfold zk_so2 at h
  split at h
  · rename_i y r hs
    cases e : zk_is x y 1 && Nat.blt (i + 1) nL <;> rw [e] at h
    · cases h
    · have h : some (pc', zk_s2 x i y r) = some o := h
      cases h
      obtain ⟨e1, e3⟩ := Bool.and_eq_true_iff.mp e
      have e3 : i + 1 < nL := by simpa using e3
      refine zs_store2 hs e3 (fun ht hl hv k => ?_) kk
      obtain ⟨w, ew, -⟩ := zk_gl ht (zk_is_eq e1)
      subst ew
      exact row hl e3 hv k
  · cases h
theorem zt_bi {g : Int32 → Int32 → Int32} {f : zk_T → zk_T → zk_T} {o : Nat × zk_S} (h : zk_bi x f pc = some o) (nz : Bool) (hnz : nz = true → ∀ z r, x.2.2.1 = z :: r → zk_nz x z = true)
    (row : ∀ {H : Heap} {locs : List Loc} {ls : Array Slot} {rv : List Value} {a b : Int32}, (nz = true → ¬ b = 0) → W p l e R s m args below meth c H locs cells slots Q (F0 m (pc + 1) ls (.int (g a b) :: rv)) → W p l e R s m args below meth c H locs cells slots Q (F0 m pc ls (.int b :: .int a :: rv)))
    (ht : ∀ (G : Nat → Nat) (s t : zk_T) (a b : Int32), s.2.1 ≤ a.toInt → a.toInt ≤ s.2.2 → t.2.1 ≤ b.toInt → b.toInt ≤ t.2.2 → zk_tv G (.int (g a b)) (f s t))
    (kk : zk_G p l e R s m args below meth c Q KT D base Hb n0 nL v0 E G0 H0 cells slots o.1 o.2) : zk_G p l e R s m args below meth c Q KT D base Hb n0 nL v0 E G0 H0 cells slots pc x := by
  unfold zk_bi at h
  split at h
  · rename_i z y r hs
    cases e : zk_is x y 0 && zk_is x z 0 <;> rw [e] at h
    · cases h
    · have h : some (pc + 1, zk_pu x r (f (zk_lk x.2.2.2.1 y) (zk_lk x.2.2.2.1 z)) [] []) = some o := h
      cases h
      obtain ⟨e1, e2⟩ := Bool.and_eq_true_iff.mp e
      exact zs_bin hs (zk_is_eq e1) (zk_is_eq e2) (fun hF hb k => row (fun hn => zk_nz_ok hF (hnz hn z _ hs) (zk_is_eq e2) hb) k) (fun G H a b a1 a2 b1 b2 => ⟨ht G _ _ a b a1 a2 b1 b2, fun v _ _ _ _ => ⟨fun q hq => by simp at hq, fun q hq => by simp at hq⟩⟩) kk
  · cases h
/-- what a rule for longs must keep -/
def zk_lok (D : zk_D) (KT : List zk_K) (g : Int64 → Int64 → Int64) (f : zk_S → Nat → Nat → zk_LR) : Prop :=
  ∀ (x : zk_S) (y z : Nat) (G : Nat → Nat) (H : Heap) (v : Nat → Value) (a b : Int64), zk_F KT D G H v x → y < x.1 → z < x.1 → v y = .long a → v z = .long b → (zk_lk x.2.2.2.1 y).2.1 ≤ a.toInt → a.toInt ≤ (zk_lk x.2.2.2.1 y).2.2 → (zk_lk x.2.2.2.1 z).2.1 ≤ b.toInt → b.toInt ≤ (zk_lk x.2.2.2.1 z).2.2 → zk_tv G (.long (g a b)) (f x y z).1 ∧
    (∀ q ∈ (f x y z).2.1, zk_rl (x.1 + 1) (zk_up v x.1 (.long (g a b))) q) ∧ (∀ q ∈ (f x y z).2.2, zk_ms D G H (x.1 + 1) (zk_up v x.1 (.long (g a b))) q)
theorem zt_bl {g : Int64 → Int64 → Int64} {nz : Bool} {f : zk_S → Nat → Nat → zk_LR} {o : Nat × zk_S} (h : zk_bl x pc nz f = some o) (hf : zk_lok D KT g f)
    (row : ∀ {H : Heap} {locs : List Loc} {ls : Array Slot} {rv : List Value} {a b : Int64}, (nz = true → ¬ b = 0) → W p l e R s m args below meth c H locs cells slots Q (F0 m (pc + 1) ls (.long (g a b) :: rv)) → W p l e R s m args below meth c H locs cells slots Q (F0 m pc ls (.long b :: .long a :: rv)))
    (kk : zk_G p l e R s m args below meth c Q KT D base Hb n0 nL v0 E G0 H0 cells slots o.1 o.2) : zk_G p l e R s m args below meth c Q KT D base Hb n0 nL v0 E G0 H0 cells slots pc x := by
  unfold zk_bl at h
  split at h
  · rename_i z y r hs
    cases e : zk_is x y 1 && zk_is x z 1 && (!nz || zk_nz x z) <;> rw [e] at h
    · cases h
    · have h : some (pc + 1, zk_pu x r (f x y z).1 (f x y z).2.1 (f x y z).2.2) = some o := h
      cases h
      obtain ⟨e, e3⟩ := Bool.and_eq_true_iff.mp e
      obtain ⟨e1, e2⟩ := Bool.and_eq_true_iff.mp e
      refine zs_binl hs (zk_is_eq e1) (zk_is_eq e2) (fun hF hb k => row (fun hn => ?_) k) (fun G H v a b hF ly lz ea eb a1 a2 b1 b2 => hf x y z G H v a b hF ly lz ea eb a1 a2 b1 b2) kk
      rw [hn] at e3
      exact zk_nz_okL hF (by simpa using e3) (zk_is_eq e2) hb
  · cases h
theorem zk_lok0 {g : Int64 → Int64 → Int64} : zk_lok D KT g zk_lN := fun x y z G H v a b _ _ _ _ _ _ _ _ _ => ⟨zk_tv_J _, fun q hq => absurd hq List.not_mem_nil, fun q hq => absurd hq List.not_mem_nil⟩
theorem zk_loknil {g : Int64 → Int64 → Int64} {x : zk_S} {G : Nat → Nat} {H : Heap} {v : Nat → Value} {a b : Int64} : zk_tv G (.long (g a b)) ((zk_J, [], []) : zk_LR).1 ∧ (∀ q ∈ ((zk_J, [], []) : zk_LR).2.1, zk_rl (x.1 + 1) (zk_up v x.1 (.long (g a b))) q) ∧ (∀ q ∈ ((zk_J, [], []) : zk_LR).2.2, zk_ms D G H (x.1 + 1) (zk_up v x.1 (.long (g a b))) q) :=
  ⟨zk_tv_J _, fun q hq => absurd hq List.not_mem_nil, fun q hq => absurd hq List.not_mem_nil⟩
theorem zk_rl_mk {v : Nat → Value} {n y : Nat} {w : Value} {i c : Int} (ly : y < n) (hw : zk_i w = i) (h : i ≤ zk_i (v y) + c) : zk_rl (n + 1) (zk_up v n w) (n, y, c) :=
  ⟨Nat.lt_succ_self _, Nat.lt_succ_of_lt ly, by show zk_i (zk_up v n w n) ≤ zk_i (zk_up v n w y) + c; rw [zk_up_at, zk_up_lt ly, hw]; exact h⟩
theorem zk_rl_mk2 {v : Nat → Value} {n y : Nat} {w : Value} {i c : Int} (ly : y < n) (hw : zk_i w = i) (h : zk_i (v y) ≤ i + c) : zk_rl (n + 1) (zk_up v n w) (y, n, c) :=
  ⟨Nat.lt_succ_of_lt ly, Nat.lt_succ_self _, by show zk_i (zk_up v n w y) ≤ zk_i (zk_up v n w n) + c; rw [zk_up_at, zk_up_lt ly, hw]; exact h⟩
theorem zk_lokA : zk_lok D KT (fun a b => a + b) zk_lA := by
  intro x y z G H v a b hF ly lz ea eb a1 a2 b1 b2
  unfold zk_lA
  dsimp only
  cases e : zk_fitL ((zk_lk x.2.2.2.1 y).2.1 + (zk_lk x.2.2.2.1 z).2.1) ((zk_lk x.2.2.2.1 y).2.2 + (zk_lk x.2.2.2.1 z).2.2)
  · exact zk_loknil
  · have hs : (a + b).toInt = a.toInt + b.toInt := (Int64.toInt_add a b).trans (zk_fitL_ok e (by omega) (by omega))
    have iy : zk_i (v y) = a.toInt := by rw [ea]; rfl
    have iz : zk_i (v z) = b.toInt := by rw [eb]; rfl
    have iw : zk_i (.long (a + b)) = a.toInt + b.toInt := hs
    refine ⟨zk_tv_long (by omega) (by omega), fun q hq => ?_, fun q hq => ?_⟩
    · simp only [cond_true, List.mem_append, List.mem_cons, List.mem_nil_iff, or_false] at hq
      rcases hq with (rfl | rfl | rfl | rfl) | hq
      · exact zk_rl_mk ly iw (by omega)
      · exact zk_rl_mk2 ly iw (by omega)
      · exact zk_rl_mk lz iw (by omega)
      · exact zk_rl_mk2 lz iw (by omega)
      · obtain ⟨r, hr, rfl⟩ := List.mem_map.mp hq
        obtain ⟨r1, r2⟩ := List.mem_filter.mp hr
        obtain ⟨c1, c2⟩ := Bool.and_eq_true_iff.mp r2
        obtain ⟨l1, l2, l3, l4⟩ := zk_ms7 (zk_F_ms hF r r1) (Nat.eq_of_beq_eq_true c1)
        refine zk_rl_mk2 l1 iw ?_
        rcases Bool.or_eq_true_iff.mp c2 with c2 | c2 <;> obtain ⟨d1, d2⟩ := Bool.and_eq_true_iff.mp c2 <;> have d1 := zk_F_le hF d1 <;> have d2 := zk_F_le hF d2 <;> omega
    · simp only [cond_true] at hq
      rw [List.mem_singleton.mp hq]
      exact zk_ms7i ⟨Nat.lt_succ_self _, Nat.lt_succ_of_lt ly, Nat.lt_succ_of_lt lz, by rw [zk_up_at, zk_up_lt ly, zk_up_lt lz, iw, iy, iz]⟩
theorem zk_lokS : zk_lok D KT (fun a b => a - b) zk_lS := by
  intro x y z G H v a b hF ly lz ea eb a1 a2 b1 b2
  unfold zk_lS
  dsimp only
  cases e : zk_fitL ((zk_lk x.2.2.2.1 y).2.1 - (zk_lk x.2.2.2.1 z).2.2) ((zk_lk x.2.2.2.1 y).2.2 - (zk_lk x.2.2.2.1 z).2.1)
  · exact zk_loknil
  · have hs : (a - b).toInt = a.toInt - b.toInt := (Int64.toInt_sub a b).trans (zk_fitL_ok e (by omega) (by omega))
    exact ⟨zk_tv_long (by omega) (by omega), fun q hq => absurd hq List.not_mem_nil, fun q hq => absurd hq List.not_mem_nil⟩
theorem zk_mul_ge {a b : Int} (ha : 0 ≤ a) (hb : 1 ≤ b) : a ≤ a * b := by
  have := Int.mul_le_mul_of_nonneg_left hb ha
  rw [Int.mul_one] at this; exact this
theorem zk_lokM : zk_lok D KT (fun a b => a * b) zk_lM := by
  intro x y z G H v a b hF ly lz ea eb a1 a2 b1 b2
  unfold zk_lM
  dsimp only
  cases e : zk_ile 0 (zk_lk x.2.2.2.1 y).2.1 && zk_ile 0 (zk_lk x.2.2.2.1 z).2.1 && zk_fitL 0 ((zk_lk x.2.2.2.1 y).2.2 * (zk_lk x.2.2.2.1 z).2.2)
  · exact zk_loknil
  · simp only [Bool.and_eq_true] at e
    obtain ⟨⟨e1, e2⟩, e3⟩ := e
    have e1 := (zk_ile_iff _ _).mp e1
    have e2 := (zk_ile_iff _ _).mp e2
    have m1 : (zk_lk x.2.2.2.1 y).2.1 * (zk_lk x.2.2.2.1 z).2.1 ≤ a.toInt * b.toInt := Int.mul_le_mul a1 b1 e2 (by omega)
    have m2 : a.toInt * b.toInt ≤ (zk_lk x.2.2.2.1 y).2.2 * (zk_lk x.2.2.2.1 z).2.2 := Int.mul_le_mul a2 b2 (by omega) (by omega)
    have m0 : 0 ≤ a.toInt * b.toInt := Int.mul_nonneg (by omega) (by omega)
    have hs : (a * b).toInt = a.toInt * b.toInt := (Int64.toInt_mul a b).trans (zk_fitL_ok e3 m0 m2)
    have iy : zk_i (v y) = a.toInt := by rw [ea]; rfl
    have iz : zk_i (v z) = b.toInt := by rw [eb]; rfl
    have iw : zk_i (.long (a * b)) = a.toInt * b.toInt := hs
    refine ⟨zk_tv_long (by rw [hs]; exact m1) (by rw [hs]; exact m2), fun q hq => ?_, fun q hq => absurd hq List.not_mem_nil⟩
    simp only [cond_true] at hq
    rcases List.mem_append.mp hq with hq | hq
    · cases c : zk_ile 1 (zk_lk x.2.2.2.1 z).2.1 <;> rw [c] at hq
      · exact absurd hq List.not_mem_nil
      · rw [List.mem_singleton.mp hq]
        have c := (zk_ile_iff _ _).mp c
        have := zk_mul_ge (a := a.toInt) (b := b.toInt) (by omega) (by omega)
        exact zk_rl_mk2 ly iw (by omega)
    · cases c : zk_ile 1 (zk_lk x.2.2.2.1 y).2.1 <;> rw [c] at hq
      · exact absurd hq List.not_mem_nil
      · rw [List.mem_singleton.mp hq]
        have c := (zk_ile_iff _ _).mp c
        have := zk_mul_ge (a := b.toInt) (b := a.toInt) (by omega) (by omega)
        rw [Int.mul_comm] at this
        exact zk_rl_mk2 lz iw (by omega)
theorem zk_lokD : zk_lok D KT (fun a b => a / b) zk_lD := by
  intro x y z G H v a b hF ly lz ea eb a1 a2 b1 b2
  unfold zk_lD
  dsimp only
  cases e : zk_ile 0 (zk_lk x.2.2.2.1 y).2.1 && zk_ile 1 (zk_lk x.2.2.2.1 z).2.1
  · exact zk_loknil
  · obtain ⟨e1, e2⟩ := Bool.and_eq_true_iff.mp e
    have e1 := (zk_ile_iff _ _).mp e1
    have e2 := (zk_ile_iff _ _).mp e2
    have d1 : 0 ≤ a.toInt / b.toInt := Int.ediv_nonneg (by omega) (by omega)
    have d2 : a.toInt / b.toInt ≤ a.toInt := Int.ediv_le_self _ (by omega)
    have r := zk_rngL a
    have hs : (a / b).toInt = a.toInt / b.toInt := by
      rw [Int64.toInt_div, Int.tdiv_eq_ediv_of_nonneg (by omega)]
      rw [Int.bmod_eq_of_le (by omega) (by omega)]
    have iy : zk_i (v y) = a.toInt := by rw [ea]; rfl
    have iw : zk_i (.long (a / b)) = a.toInt / b.toInt := hs
    refine ⟨zk_tv_long (by omega) (by omega), fun q hq => ?_, fun q hq => absurd hq List.not_mem_nil⟩
    simp only [cond_true] at hq
    cases c : zk_ile 1 (zk_lk x.2.2.2.1 y).2.1 && zk_ile 2 (zk_lk x.2.2.2.1 z).2.1 <;> rw [c] at hq
    · rw [List.mem_singleton.mp hq]
      exact zk_rl_mk ly iw (by omega)
    · obtain ⟨c1, c2⟩ := Bool.and_eq_true_iff.mp c
      have c1 := (zk_ile_iff _ _).mp c1
      have c2 := (zk_ile_iff _ _).mp c2
      rw [List.mem_singleton.mp hq]
      have : a.toInt / b.toInt < a.toInt := Int.ediv_lt_self_of_pos_of_ne_one (by omega) (by omega)
      exact zk_rl_mk ly iw (by omega)
theorem zk_cr_ok {v : Nat → Value} {n y : Nat} {t : zk_T} {fit sg : Bool} {a b r : Int32} {w : Int} (hy : y < n) (ea : v y = .int a) (hc : zk_cst t = true → w = t.2.1) (hr : fit = true → r.toInt = bif sg then a.toInt + w else a.toInt - w) : ∀ q ∈ zk_cr fit n y t sg, zk_rl (n + 1) (zk_up v n (.int r)) q := by
  intro q hq
  unfold zk_cr at hq
  cases e : fit && zk_cst t <;> rw [e] at hq
  · simp at hq
  · obtain ⟨e1, e2⟩ := Bool.and_eq_true_iff.mp e
    have hr := hr e1
    have hc := hc e2
    have hn : zk_i (zk_up v n (.int r) n) = r.toInt := by rw [zk_up_at]; rfl
    have hy2 : zk_i (zk_up v n (.int r) y) = a.toInt := by rw [zk_up_lt hy, ea]; rfl
    cases sg
    · simp only [cond_true, cond_false, List.mem_cons, List.mem_nil_iff, or_false] at hq hr
      rcases hq with rfl | rfl
      · exact ⟨Nat.lt_succ_self _, Nat.lt_succ_of_lt hy, by show zk_i (zk_up v n _ n) ≤ zk_i (zk_up v n _ y) + _; rw [hn, hy2]; dsimp only; omega⟩
      · exact ⟨Nat.lt_succ_of_lt hy, Nat.lt_succ_self _, by show zk_i (zk_up v n _ y) ≤ zk_i (zk_up v n _ n) + _; rw [hn, hy2]; dsimp only; omega⟩
    · simp only [cond_true, List.mem_cons, List.mem_nil_iff, or_false] at hq hr
      rcases hq with rfl | rfl
      · exact ⟨Nat.lt_succ_self _, Nat.lt_succ_of_lt hy, by show zk_i (zk_up v n _ n) ≤ zk_i (zk_up v n _ y) + _; rw [hn, hy2]; dsimp only; omega⟩
      · exact ⟨Nat.lt_succ_of_lt hy, Nat.lt_succ_self _, by show zk_i (zk_up v n _ y) ≤ zk_i (zk_up v n _ n) + _; rw [hn, hy2]; dsimp only; omega⟩
theorem zk_cst_int {t : zk_T} {b : Int32} (h : zk_cst t = true) (b1 : t.2.1 ≤ b.toInt) (b2 : b.toInt ≤ t.2.2) : b.toInt = t.2.1 := by
  obtain ⟨-, h2⟩ := Bool.and_eq_true_iff.mp h
  have := (zk_ieq_iff _ _).mp h2
  omega
theorem zt_adds (hx : p.tables.exec = Jvm.exec) (hb : c.code = cc) {o : Nat × zk_S} (h : zk_adds x pc = some o) (hdg : decode cc pc = .ok (.iadd, 1)) (kk : zk_G p l e R s m args below meth c Q KT D base Hb n0 nL v0 E G0 H0 cells slots o.1 o.2) : zk_G p l e R s m args below meth c Q KT D base Hb n0 nL v0 E G0 H0 cells slots pc x := by
  unfold zk_adds at h
  split at h
  · rename_i z y r hs
    cases e : zk_is x y 0 && zk_is x z 0 <;> rw [e] at h
    · cases h
    · obtain ⟨e1, e2⟩ := Bool.and_eq_true_iff.mp e
      simp only [cond_true] at h
      split at h
      · rename_i w hw
        cases h
        have hm := zk_fa_ok hw
        intro G H locs ls vs v hp he hl hF hL
        obtain ⟨q1, hlt⟩ := zk_LS_stk hL
        subst q1
        have hms : zk_ms D G H x.1 v (0, y, z, w) := by
          obtain ⟨n, loc, stk, tys, rel, fld, len, pf, msc, la⟩ := x
          exact hF.2.2.2.2.2.1 _ hm
        unfold zk_ms at hms
        rw [if_pos (show (0 : Nat) = 0 from rfl)] at hms
        obtain ⟨-, -, lw, a, b, ea, eb, ew⟩ := hms
        rw [hs] at hlt ⊢
        have ea : v y = .int a := ea
        have eb : v z = .int b := eb
        have ew : v w = .int (a + b) := ew
        have hW := kk G H locs ls _ v hp he hl (zk_F_st _ hF) (zk_LS_st (stk' := w :: r) hL fun q hq => by
          rcases List.mem_cons.mp hq with rfl | hq
          · exact lw
          · exact hlt q (List.mem_cons_of_mem _ (List.mem_cons_of_mem _ hq)))
        rw [List.map_cons, List.map_cons, ea, eb]
        rw [List.map_cons, ew] at hW
        exact lv_iadd hx hb hdg hW
      · cases h
        refine zs_bin hs (zk_is_eq e1) (zk_is_eq e2) (fun _ _ k => lv_iadd hx hb hdg k) (fun G H a b a1 a2 b1 b2 => ⟨zk_w32_ok (Int32.toInt_add a b) (by omega) (by omega), fun v ly lz ea eb => ⟨fun q hq => ?_, fun q hq => ?_⟩⟩) kk
        · have hfit : ∀ hf : zk_fit ((zk_lk x.2.2.2.1 y).2.1 + (zk_lk x.2.2.2.1 z).2.1) ((zk_lk x.2.2.2.1 y).2.2 + (zk_lk x.2.2.2.1 z).2.2) = true, (a + b).toInt = a.toInt + b.toInt := fun hf => (Int32.toInt_add a b).trans (zk_fit_ok hf (by omega) (by omega))
          rcases List.mem_append.mp hq with hq | hq
          · exact zk_cr_ok (a := a) (b := b) (w := b.toInt) ly ea (fun hc => zk_cst_int hc b1 b2) (fun hf => by simp only [cond_true]; exact hfit hf) q hq
          · exact zk_cr_ok (a := b) (b := a) (w := a.toInt) lz eb (fun hc => zk_cst_int hc a1 a2) (fun hf => by simp only [cond_true]; rw [hfit hf]; omega) q hq
        · rw [List.mem_singleton.mp hq]
          unfold zk_ms
          rw [if_pos (show (0 : Nat) = 0 from rfl)]
          exact ⟨Nat.lt_succ_of_lt ly, Nat.lt_succ_of_lt lz, Nat.lt_succ_self _, a, b, by show zk_up v x.1 _ y = _; rw [zk_up_lt ly]; exact ea, by show zk_up v x.1 _ z = _; rw [zk_up_lt lz]; exact eb, zk_up_at _ _ _⟩
  · cases h
theorem zt_subs (hx : p.tables.exec = Jvm.exec) (hb : c.code = cc) {o : Nat × zk_S} (h : zk_subs x pc = some o) (hdg : decode cc pc = .ok (.isub, 1)) (kk : zk_G p l e R s m args below meth c Q KT D base Hb n0 nL v0 E G0 H0 cells slots o.1 o.2) : zk_G p l e R s m args below meth c Q KT D base Hb n0 nL v0 E G0 H0 cells slots pc x := by
  unfold zk_subs at h
  split at h
  · rename_i z y r hs
    cases e : zk_is x y 0 && zk_is x z 0 <;> rw [e] at h
    · cases h
    · obtain ⟨e1, e2⟩ := Bool.and_eq_true_iff.mp e
      simp only [cond_true] at h
      cases h
      refine zs_bin hs (zk_is_eq e1) (zk_is_eq e2) (fun _ _ k => lv_isub hx hb hdg k) (fun G H a b a1 a2 b1 b2 => ⟨zk_w32_ok (Int32.toInt_sub a b) (by omega) (by omega), fun v ly lz ea eb => ⟨fun q hq => ?_, fun q hq => by simp at hq⟩⟩) kk
      exact zk_cr_ok (a := a) (b := b) (w := b.toInt) ly ea (fun hc => zk_cst_int hc b1 b2) (fun hf => by simp only [cond_false]; exact (Int32.toInt_sub a b).trans (zk_fit_ok hf (by omega) (by omega))) q hq
  · cases h
theorem zt_incs (hx : p.tables.exec = Jvm.exec) (hb : c.code = cc) {i : Nat} {n : Int} {o : Nat × zk_S} (h : zk_incs nL x i n pc = some o) (hdg : decode cc pc = .ok (.iinc i n, 3)) (kk : zk_G p l e R s m args below meth c Q KT D base Hb n0 nL v0 E G0 H0 cells slots o.1 o.2) : zk_G p l e R s m args below meth c Q KT D base Hb n0 nL v0 E G0 H0 cells slots pc x := by
  unfold zk_incs at h
  split at h
  · rename_i q hq
    cases e : zk_is x q.2 0 && Nat.blt i nL && zk_fit n n <;> rw [e] at h
    · cases h
    · obtain ⟨e, e3⟩ := Bool.and_eq_true_iff.mp e
      obtain ⟨e1, e2⟩ := Bool.and_eq_true_iff.mp e
      have e2 : i < nL := by simpa using e2
      simp only [cond_true] at h
      cases h
      have hm := zk_find_mem hq
      obtain ⟨i0, y⟩ := q
      intro G H locs ls vs v hp he hl hF hL
      obtain ⟨q1, hlt⟩ := zk_LS_stk hL
      obtain ⟨hloc, hlo2⟩ := zk_LS_loc hL
      subst q1
      obtain ⟨a, ea, a1, a2⟩ := zk_gi (zk_F_ty hF y) (zk_is_eq e1)
      have ly : y < x.1 := hlo2 _ hm
      have hn : (Int32.ofInt n).toInt = n := by
        rw [Int32.toInt_ofInt]
        exact zk_fit_ok e3 (Int.le_refl _) (Int.le_refl _)
      have hadd : (a + Int32.ofInt n).toInt = (a.toInt + n).bmod (2 ^ 32) := by rw [Int32.toInt_add, hn]
      obtain ⟨kx, hkx⟩ := List.getElem?_of_mem hm
      have hkx2 : (x.2.1.map fun q => (q.1, v q.2))[kx]? = some (i, .int a) := by rw [List.getElem?_map, hkx]; show some (i, v y) = _; rw [ea]
      refine lv_iinc (v := a + Int32.ofInt n) hx hb hdg hloc hkx2 rfl e2 rfl (fun ls' h' => ?_)
      have hF2 := zk_F_up (stk' := x.2.2.1) (t := zk_w32 ((zk_lk x.2.2.2.1 y).2.1 + n) ((zk_lk x.2.2.2.1 y).2.2 + n)) (ms := []) hF (zk_w32_ok hadd (by omega) (by omega)) (zk_cr_ok (a := a) (b := a) (w := n) (t := (0, n, n)) (fit := zk_fit ((zk_lk x.2.2.2.1 y).2.1 + n) ((zk_lk x.2.2.2.1 y).2.2 + n)) (sg := true) ly ea (fun _ => rfl) (fun hf => hadd.trans (zk_fit_ok hf (by omega) (by omega)))) (fun q hq => by simp at hq)
      have hty := zk_F_ty hF
      refine kk G H locs ls' _ (zk_up v x.1 (.int (a + Int32.ofInt n))) hp he hl hF2 ?_
      obtain ⟨n', loc, stk, tys, restx⟩ := x
      refine ⟨Nat.le_succ_of_le hL.1, fun z hz => by rw [zk_up_lt (Nat.lt_of_lt_of_le hz hL.1)]; exact hL.2.1 z hz, ⟨h'.1, h'.2.1, fun q hq => h'.2.2 q ?_⟩, fun q hq => ?_, ?_, fun z hz => Nat.lt_succ_of_lt (hlt z hz)⟩
      · obtain ⟨r, hr, rfl⟩ := List.mem_map.mp hq
        rcases List.mem_cons.mp hr with rfl | hr
        · show (i, zk_up v n' _ n') ∈ _
          rw [zk_up_at]; exact List.mem_cons_self
        · obtain ⟨r1, r2⟩ := List.mem_filter.mp hr
          have lr := hlo2 r r1
          show (r.1, zk_up v n' _ r.2) ∈ _
          rw [zk_up_lt lr]
          refine List.mem_cons_of_mem _ (List.mem_filter.mpr ⟨List.mem_map.mpr ⟨r, r1, rfl⟩, ?_⟩)
          obtain ⟨r3, r4⟩ := Bool.and_eq_true_iff.mp r2
          have r3' : ¬ r.1 = i := fun z => by rw [z, Nat.beq_refl] at r3; cases r3
          simp only [Bool.and_eq_true, Bool.not_eq_true', beq_eq_false_iff_ne, ne_eq, Bool.and_eq_false_iff]
          refine ⟨r3', ?_⟩
          by_cases z : r.1 + 1 = i
          · right
            rw [z, Nat.beq_refl, Bool.true_and, Bool.not_not] at r4
            have hz2 : zk_lk (zk_pu (n', loc, stk, tys, restx) stk (zk_w32 ((zk_lk tys y).2.1 + n) ((zk_lk tys y).2.2 + n)) (zk_cr (zk_fit ((zk_lk tys y).2.1 + n) ((zk_lk tys y).2.2 + n)) n' y (0, n, n) true) []).2.2.2.1 r.2 = zk_lk tys r.2 := by
              show zk_lk ((n', _) :: tys) r.2 = _
              rw [zk_lk_cons]
              dsimp only
              have : Nat.beq n' r.2 = false := by
                cases q : Nat.beq n' r.2
                · rfl
                · have := Nat.eq_of_beq_eq_true q
                  have lr : r.2 < n' := lr
                  omega
              rw [this]; rfl
            rw [hz2] at r4
            rw [zk_cat (hty r.2) r4]
            decide
          · exact Or.inl z
      · rcases List.mem_cons.mp hq with rfl | hq
        · exact Nat.lt_succ_self _
        · exact Nat.lt_succ_of_lt (hlo2 q (List.mem_filter.mp hq).1)
      · exact (zk_map_up hlt).symm
  · cases h
end ZA
end
