/-! ENGINE, 20: instructions read off a list of bytes -/
noncomputable section
theorem zk_u1 {A : ByteArray} {i : Nat} {x : UInt8} (h : A.data.toList[i]? = some x) : (Reader.u1 : Decoder Nat) A i = .ok (x.toNat, i + 1) := by
  have hi : i < A.size := by
    have := (List.getElem?_eq_some_iff.mp h).1
    simpa using this
  have h2 : A.data.toList[i]? = some A[i] := by
    rw [List.getElem?_eq_getElem (by simpa using hi)]
    rfl
  have hx : A[i] = x := Option.some.inj (h2.symm.trans h)
  show (do if h : i < A.size then do set (i + 1); Pure.pure A[i].toNat else MonadExcept.throw (HasTruncated.truncated i) : Decoder Nat) A i = _
  rw [dif_pos hi, ← hx]
  rfl
theorem zk_rb {α β : Type} {r : Decoder α} {f : α → Decoder β} {A : ByteArray} {p q : Nat} {a : α} (h : r A p = .ok (a, q)) : (r >>= f) A p = f a A q := by
  show (do let (a, s) ← r A p; f a A s : Except DecodeError (β × Nat)) = _
  rw [h]; rfl
theorem zk_rmp {α β : Type} {g : α → β} {r : Decoder α} {A : ByteArray} {p q : Nat} {a : α} (h : r A p = .ok (a, q)) : (g <$> r) A p = .ok (g a, q) := by
  show (do let (a, s) ← r A p; .ok (g a, s) : Except DecodeError (β × Nat)) = _
  rw [h]; rfl
theorem zk_u2 {A : ByteArray} {i : Nat} {x y : UInt8} (h1 : A.data.toList[i]? = some x) (h2 : A.data.toList[i + 1]? = some y) : (Reader.u2 : Decoder Nat) A i = .ok (x.toNat * 256 + y.toNat, i + 1 + 1) := by
  show ((Reader.u1 : Decoder Nat) >>= fun a => (Reader.u1 : Decoder Nat) >>= fun b => (Pure.pure (a * 256 + b) : Decoder Nat)) A i = _
  rw [zk_rb (zk_u1 h1), zk_rb (zk_u1 h2)]
  rfl
theorem zk_s1r {A : ByteArray} {i : Nat} {x : UInt8} (h1 : A.data.toList[i]? = some x) : (Reader.s1 : Decoder Int) A i = .ok (Reader.signed 8 x.toNat, i + 1) := zk_rmp (g := Reader.signed 8) (zk_u1 h1)
theorem zk_s2r {A : ByteArray} {i : Nat} {x y : UInt8} (h1 : A.data.toList[i]? = some x) (h2 : A.data.toList[i + 1]? = some y) : (Reader.s2 : Decoder Int) A i = .ok (Reader.signed 16 (x.toNat * 256 + y.toNat), i + 1 + 1) := zk_rmp (g := Reader.signed 16) (zk_u2 h1 h2)
theorem zk_dcd {A : ByteArray} {pc n : Nat} {ins : Instr} (h : Decoder.instr pc A pc = .ok (ins, pc + n)) : decode A pc = .ok (ins, n) := by
  show (do let (a, s) ← Decoder.instr pc A pc; Pure.pure (a, s - pc) : Except DecodeError (Instr × Nat)) = _
  rw [h]
  show Except.ok (ins, pc + n - pc) = _
  rw [Nat.add_sub_cancel_left]
/-- what is read behind the opcode k -/
def zk_A0 (k : Nat) (ins : Instr) : Prop := ∀ pc : Nat, ∃ F : Nat → Decoder Instr, Decoder.instr pc = Reader.u1 >>= F ∧ F k = Pure.pure ins
def zk_A1 (k n : Nat) (ins : Instr) : Prop := ∀ pc : Nat, ∃ F : Nat → Decoder Instr, Decoder.instr pc = Reader.u1 >>= F ∧ ∃ K : Nat → Decoder Instr, F k = Reader.u1 >>= K ∧ K n = Pure.pure ins
def zk_A2 (k n : Nat) (ins : Instr) : Prop := ∀ pc : Nat, ∃ F : Nat → Decoder Instr, Decoder.instr pc = Reader.u1 >>= F ∧ ∃ K : Nat → Decoder Instr, F k = Reader.u2 >>= K ∧ K n = Pure.pure ins
def zk_A3 (k : Nat) (n : Int) (ins : Instr) : Prop := ∀ pc : Nat, ∃ F : Nat → Decoder Instr, Decoder.instr pc = Reader.u1 >>= F ∧ ∃ K : Int → Decoder Instr, F k = Reader.s1 >>= K ∧ K n = Pure.pure ins
def zk_A4 (k : Nat) (n : Int) (ins : Instr) : Prop := ∀ pc : Nat, ∃ F : Nat → Decoder Instr, Decoder.instr pc = Reader.u1 >>= F ∧ ∃ K : Int → Decoder Instr, F k = Reader.s2 >>= K ∧ K n = Pure.pure ins
def zk_A5 (k n : Nat) (c : Int) (ins : Instr) : Prop := ∀ pc : Nat, ∃ F : Nat → Decoder Instr, Decoder.instr pc = Reader.u1 >>= F ∧ ∃ K : Nat → Decoder Instr, F k = Reader.u1 >>= K ∧ ∃ J : Int → Decoder Instr, K n = Reader.s1 >>= J ∧ J c = Pure.pure ins
def zk_e0 (k len : Nat) : List UInt8 → Bool
  | x :: _ => Nat.beq x.toNat k && Nat.beq len 1
  | [] => false
def zk_e1 (k len n : Nat) : List UInt8 → Bool
  | x :: y :: _ => Nat.beq x.toNat k && (Nat.beq y.toNat n && Nat.beq len 2)
  | _ => false
def zk_e2 (k len n : Nat) : List UInt8 → Bool
  | x :: y :: z :: _ => Nat.beq x.toNat k && (Nat.beq (y.toNat * 256 + z.toNat) n && Nat.beq len 3)
  | _ => false
def zk_e3 (k len : Nat) (c : Int) : List UInt8 → Bool
  | x :: y :: _ => Nat.beq x.toNat k && (zk_ieq (Reader.signed 8 y.toNat) c && Nat.beq len 2)
  | _ => false
def zk_e4 (k len : Nat) (c : Int) : List UInt8 → Bool
  | x :: y :: z :: _ => Nat.beq x.toNat k && (zk_ieq (Reader.signed 16 (y.toNat * 256 + z.toNat)) c && Nat.beq len 3)
  | _ => false
def zk_e5 (k len n : Nat) (c : Int) : List UInt8 → Bool
  | x :: y :: z :: _ => Nat.beq x.toNat k && (Nat.beq y.toNat n && (zk_ieq (Reader.signed 8 z.toNat) c && Nat.beq len 3))
  | _ => false
section ZFD
variable {A : ByteArray} {pc k n len : Nat} {c : Int} {ins : Instr} {l : List UInt8}
theorem zk_e0_ok (hr : zk_A0 k ins) (hl : ∀ j : Nat, l[j]? = A.data.toList[pc + j]?) (h : zk_e0 k len l = true) : decode A pc = .ok (ins, len) := by
  match l, hl, h with
  | [], _, h => cases h
  | x :: _, hl, h =>
    obtain ⟨h1, h2⟩ := Bool.and_eq_true_iff.mp h
    have h1 := Nat.eq_of_beq_eq_true h1
    have h2 := Nat.eq_of_beq_eq_true h2
    subst h2
    obtain ⟨F, e1, e2⟩ := hr pc
    have hx : A.data.toList[pc]? = some x := (hl 0).symm
    refine zk_dcd ?_
    rw [e1, zk_rb (zk_u1 hx), h1, e2]
    rfl
theorem zk_e1_ok (hr : zk_A1 k n ins) (hl : ∀ j : Nat, l[j]? = A.data.toList[pc + j]?) (h : zk_e1 k len n l = true) : decode A pc = .ok (ins, len) := by
  match l, hl, h with
  | [], _, h => cases h
  | [_], _, h => cases h
  | x :: y :: _, hl, h =>
    obtain ⟨h1, h⟩ := Bool.and_eq_true_iff.mp h
    obtain ⟨h2, h3⟩ := Bool.and_eq_true_iff.mp h
    have h1 := Nat.eq_of_beq_eq_true h1
    have h2 := Nat.eq_of_beq_eq_true h2
    have h3 := Nat.eq_of_beq_eq_true h3
    subst h3
    obtain ⟨F, e1, K, e2, e3⟩ := hr pc
    have hx : A.data.toList[pc]? = some x := (hl 0).symm
    have hy : A.data.toList[pc + 1]? = some y := (hl 1).symm
    refine zk_dcd ?_
    rw [e1, zk_rb (zk_u1 hx), h1, e2, zk_rb (zk_u1 hy), h2, e3]
    rfl
theorem zk_e2_ok (hr : zk_A2 k n ins) (hl : ∀ j : Nat, l[j]? = A.data.toList[pc + j]?) (h : zk_e2 k len n l = true) : decode A pc = .ok (ins, len) := by
  match l, hl, h with
  | [], _, h => cases h
  | [_], _, h => cases h
  | [_, _], _, h => cases h
  | x :: y :: z :: _, hl, h =>
    obtain ⟨h1, h⟩ := Bool.and_eq_true_iff.mp h
    obtain ⟨h2, h3⟩ := Bool.and_eq_true_iff.mp h
    have h1 := Nat.eq_of_beq_eq_true h1
    have h2 := Nat.eq_of_beq_eq_true h2
    have h3 := Nat.eq_of_beq_eq_true h3
    subst h3
    obtain ⟨F, e1, K, e2, e3⟩ := hr pc
    have hx : A.data.toList[pc]? = some x := (hl 0).symm
    have hy : A.data.toList[pc + 1]? = some y := (hl 1).symm
    have hz : A.data.toList[pc + 1 + 1]? = some z := (hl 2).symm
    refine zk_dcd ?_
    rw [e1, zk_rb (zk_u1 hx), h1, e2, zk_rb (zk_u2 hy hz), h2, e3]
    rfl
theorem zk_e3_ok (hr : zk_A3 k c ins) (hl : ∀ j : Nat, l[j]? = A.data.toList[pc + j]?) (h : zk_e3 k len c l = true) : decode A pc = .ok (ins, len) := by
  match l, hl, h with
  | [], _, h => cases h
  | [_], _, h => cases h
  | x :: y :: _, hl, h =>
    obtain ⟨h1, h⟩ := Bool.and_eq_true_iff.mp h
    obtain ⟨h2, h3⟩ := Bool.and_eq_true_iff.mp h
    have h1 := Nat.eq_of_beq_eq_true h1
    have h2 := (zk_ieq_iff _ _).mp h2
    have h3 := Nat.eq_of_beq_eq_true h3
    subst h3
    obtain ⟨F, e1, K, e2, e3⟩ := hr pc
    have hx : A.data.toList[pc]? = some x := (hl 0).symm
    have hy : A.data.toList[pc + 1]? = some y := (hl 1).symm
    refine zk_dcd ?_
    rw [e1, zk_rb (zk_u1 hx), h1, e2, zk_rb (zk_s1r hy), h2, e3]
    rfl
theorem zk_e4_ok (hr : zk_A4 k c ins) (hl : ∀ j : Nat, l[j]? = A.data.toList[pc + j]?) (h : zk_e4 k len c l = true) : decode A pc = .ok (ins, len) := by
  match l, hl, h with
  | [], _, h => cases h
  | [_], _, h => cases h
  | [_, _], _, h => cases h
  | x :: y :: z :: _, hl, h =>
    obtain ⟨h1, h⟩ := Bool.and_eq_true_iff.mp h
    obtain ⟨h2, h3⟩ := Bool.and_eq_true_iff.mp h
    have h1 := Nat.eq_of_beq_eq_true h1
    have h2 := (zk_ieq_iff _ _).mp h2
    have h3 := Nat.eq_of_beq_eq_true h3
    subst h3
    obtain ⟨F, e1, K, e2, e3⟩ := hr pc
    have hx : A.data.toList[pc]? = some x := (hl 0).symm
    have hy : A.data.toList[pc + 1]? = some y := (hl 1).symm
    have hz : A.data.toList[pc + 1 + 1]? = some z := (hl 2).symm
    refine zk_dcd ?_
    rw [e1, zk_rb (zk_u1 hx), h1, e2, zk_rb (zk_s2r hy hz), h2, e3]
    rfl
theorem zk_e5_ok (hr : zk_A5 k n c ins) (hl : ∀ j : Nat, l[j]? = A.data.toList[pc + j]?) (h : zk_e5 k len n c l = true) : decode A pc = .ok (ins, len) := by
  match l, hl, h with
  | [], _, h => cases h
  | [_], _, h => cases h
  | [_, _], _, h => cases h
  | x :: y :: z :: _, hl, h =>
    obtain ⟨h1, h⟩ := Bool.and_eq_true_iff.mp h
    obtain ⟨h2, h⟩ := Bool.and_eq_true_iff.mp h
    obtain ⟨h3, h4⟩ := Bool.and_eq_true_iff.mp h
    have h1 := Nat.eq_of_beq_eq_true h1
    have h2 := Nat.eq_of_beq_eq_true h2
    have h3 := (zk_ieq_iff _ _).mp h3
    have h4 := Nat.eq_of_beq_eq_true h4
    subst h4
    obtain ⟨F, e1, K, e2, J, e3, e4⟩ := hr pc
    have hx : A.data.toList[pc]? = some x := (hl 0).symm
    have hy : A.data.toList[pc + 1]? = some y := (hl 1).symm
    have hz : A.data.toList[pc + 1 + 1]? = some z := (hl 2).symm
    refine zk_dcd ?_
    rw [e1, zk_rb (zk_u1 hx), h1, e2, zk_rb (zk_u1 hy), h2, e3, zk_rb (zk_s1r hz), h3, e4]
    rfl
end ZFD
theorem zk_fin4 {P : Fin 4 → Prop} (h0 : P 0) (h1 : P 1) (h2 : P 2) (h3 : P 3) : ∀ i, P i
  | ⟨0, _⟩ => h0
  | ⟨1, _⟩ => h1
  | ⟨2, _⟩ => h2
  | ⟨3, _⟩ => h3
theorem zk_fin2b {P : Fin 2 → Prop} (h0 : P 0) (h1 : P 1) : ∀ i, P i
  | ⟨0, _⟩ => h0
  | ⟨1, _⟩ => h1
set_option maxHeartbeats 4000000 in
set_option maxRecDepth 100000 in
theorem zk_a1 : zk_A0 1 .aconst_null := fun _ => ⟨_, rfl, rfl⟩
set_option maxHeartbeats 4000000 in
set_option maxRecDepth 100000 in
theorem zk_a46 : zk_A0 46 .iaload := fun _ => ⟨_, rfl, rfl⟩
set_option maxHeartbeats 4000000 in
set_option maxRecDepth 100000 in
theorem zk_a47 : zk_A0 47 .laload := fun _ => ⟨_, rfl, rfl⟩
set_option maxHeartbeats 4000000 in
set_option maxRecDepth 100000 in
theorem zk_a50 : zk_A0 50 .aaload := fun _ => ⟨_, rfl, rfl⟩
set_option maxHeartbeats 4000000 in
set_option maxRecDepth 100000 in
theorem zk_a51 : zk_A0 51 .baload := fun _ => ⟨_, rfl, rfl⟩
set_option maxHeartbeats 4000000 in
set_option maxRecDepth 100000 in
theorem zk_a52 : zk_A0 52 .caload := fun _ => ⟨_, rfl, rfl⟩
set_option maxHeartbeats 4000000 in
set_option maxRecDepth 100000 in
theorem zk_a79 : zk_A0 79 .iastore := fun _ => ⟨_, rfl, rfl⟩
set_option maxHeartbeats 4000000 in
set_option maxRecDepth 100000 in
theorem zk_a80 : zk_A0 80 .lastore := fun _ => ⟨_, rfl, rfl⟩
set_option maxHeartbeats 4000000 in
set_option maxRecDepth 100000 in
theorem zk_a83 : zk_A0 83 .aastore := fun _ => ⟨_, rfl, rfl⟩
set_option maxHeartbeats 4000000 in
set_option maxRecDepth 100000 in
theorem zk_a84 : zk_A0 84 .bastore := fun _ => ⟨_, rfl, rfl⟩
set_option maxHeartbeats 4000000 in
set_option maxRecDepth 100000 in
theorem zk_a85 : zk_A0 85 .castore := fun _ => ⟨_, rfl, rfl⟩
set_option maxHeartbeats 4000000 in
set_option maxRecDepth 100000 in
theorem zk_a87 : zk_A0 87 .pop := fun _ => ⟨_, rfl, rfl⟩
set_option maxHeartbeats 4000000 in
set_option maxRecDepth 100000 in
theorem zk_a89 : zk_A0 89 .dup := fun _ => ⟨_, rfl, rfl⟩
set_option maxHeartbeats 4000000 in
set_option maxRecDepth 100000 in
theorem zk_a90 : zk_A0 90 .dup_x1 := fun _ => ⟨_, rfl, rfl⟩
set_option maxHeartbeats 4000000 in
set_option maxRecDepth 100000 in
theorem zk_a92 : zk_A0 92 .dup2 := fun _ => ⟨_, rfl, rfl⟩
set_option maxHeartbeats 4000000 in
set_option maxRecDepth 100000 in
theorem zk_a96 : zk_A0 96 .iadd := fun _ => ⟨_, rfl, rfl⟩
set_option maxHeartbeats 4000000 in
set_option maxRecDepth 100000 in
theorem zk_a97 : zk_A0 97 .ladd := fun _ => ⟨_, rfl, rfl⟩
set_option maxHeartbeats 4000000 in
set_option maxRecDepth 100000 in
theorem zk_a100 : zk_A0 100 .isub := fun _ => ⟨_, rfl, rfl⟩
set_option maxHeartbeats 4000000 in
set_option maxRecDepth 100000 in
theorem zk_a101 : zk_A0 101 .lsub := fun _ => ⟨_, rfl, rfl⟩
set_option maxHeartbeats 4000000 in
set_option maxRecDepth 100000 in
theorem zk_a104 : zk_A0 104 .imul := fun _ => ⟨_, rfl, rfl⟩
set_option maxHeartbeats 4000000 in
set_option maxRecDepth 100000 in
theorem zk_a105 : zk_A0 105 .lmul := fun _ => ⟨_, rfl, rfl⟩
set_option maxHeartbeats 4000000 in
set_option maxRecDepth 100000 in
theorem zk_a108 : zk_A0 108 .idiv := fun _ => ⟨_, rfl, rfl⟩
set_option maxHeartbeats 4000000 in
set_option maxRecDepth 100000 in
theorem zk_a109 : zk_A0 109 .ldiv := fun _ => ⟨_, rfl, rfl⟩
set_option maxHeartbeats 4000000 in
set_option maxRecDepth 100000 in
theorem zk_a112 : zk_A0 112 .irem := fun _ => ⟨_, rfl, rfl⟩
set_option maxHeartbeats 4000000 in
set_option maxRecDepth 100000 in
theorem zk_a113 : zk_A0 113 .lrem := fun _ => ⟨_, rfl, rfl⟩
set_option maxHeartbeats 4000000 in
set_option maxRecDepth 100000 in
theorem zk_a116 : zk_A0 116 .ineg := fun _ => ⟨_, rfl, rfl⟩
set_option maxHeartbeats 4000000 in
set_option maxRecDepth 100000 in
theorem zk_a120 : zk_A0 120 .ishl := fun _ => ⟨_, rfl, rfl⟩
set_option maxHeartbeats 4000000 in
set_option maxRecDepth 100000 in
theorem zk_a121 : zk_A0 121 .lshl := fun _ => ⟨_, rfl, rfl⟩
set_option maxHeartbeats 4000000 in
set_option maxRecDepth 100000 in
theorem zk_a122 : zk_A0 122 .ishr := fun _ => ⟨_, rfl, rfl⟩
set_option maxHeartbeats 4000000 in
set_option maxRecDepth 100000 in
theorem zk_a124 : zk_A0 124 .iushr := fun _ => ⟨_, rfl, rfl⟩
set_option maxHeartbeats 4000000 in
set_option maxRecDepth 100000 in
theorem zk_a126 : zk_A0 126 .iand := fun _ => ⟨_, rfl, rfl⟩
set_option maxHeartbeats 4000000 in
set_option maxRecDepth 100000 in
theorem zk_a127 : zk_A0 127 .land := fun _ => ⟨_, rfl, rfl⟩
set_option maxHeartbeats 4000000 in
set_option maxRecDepth 100000 in
theorem zk_a128 : zk_A0 128 .ior := fun _ => ⟨_, rfl, rfl⟩
set_option maxHeartbeats 4000000 in
set_option maxRecDepth 100000 in
theorem zk_a129 : zk_A0 129 .lor := fun _ => ⟨_, rfl, rfl⟩
set_option maxHeartbeats 4000000 in
set_option maxRecDepth 100000 in
theorem zk_a130 : zk_A0 130 .ixor := fun _ => ⟨_, rfl, rfl⟩
set_option maxHeartbeats 4000000 in
set_option maxRecDepth 100000 in
theorem zk_a131 : zk_A0 131 .lxor := fun _ => ⟨_, rfl, rfl⟩
set_option maxHeartbeats 4000000 in
set_option maxRecDepth 100000 in
theorem zk_a133 : zk_A0 133 .i2l := fun _ => ⟨_, rfl, rfl⟩
set_option maxHeartbeats 4000000 in
set_option maxRecDepth 100000 in
theorem zk_a136 : zk_A0 136 .l2i := fun _ => ⟨_, rfl, rfl⟩
set_option maxHeartbeats 4000000 in
set_option maxRecDepth 100000 in
theorem zk_a145 : zk_A0 145 .i2b := fun _ => ⟨_, rfl, rfl⟩
set_option maxHeartbeats 4000000 in
set_option maxRecDepth 100000 in
theorem zk_a146 : zk_A0 146 .i2c := fun _ => ⟨_, rfl, rfl⟩
set_option maxHeartbeats 4000000 in
set_option maxRecDepth 100000 in
theorem zk_a148 : zk_A0 148 .lcmp := fun _ => ⟨_, rfl, rfl⟩
set_option maxHeartbeats 4000000 in
set_option maxRecDepth 100000 in
theorem zk_a172 : zk_A0 172 .ireturn := fun _ => ⟨_, rfl, rfl⟩
set_option maxHeartbeats 4000000 in
set_option maxRecDepth 100000 in
theorem zk_a173 : zk_A0 173 .lreturn := fun _ => ⟨_, rfl, rfl⟩
set_option maxHeartbeats 4000000 in
set_option maxRecDepth 100000 in
theorem zk_a176 : zk_A0 176 .areturn := fun _ => ⟨_, rfl, rfl⟩
set_option maxHeartbeats 4000000 in
set_option maxRecDepth 100000 in
theorem zk_a177 : zk_A0 177 .return_ := fun _ => ⟨_, rfl, rfl⟩
set_option maxHeartbeats 4000000 in
set_option maxRecDepth 100000 in
theorem zk_a190 : zk_A0 190 .arraylength := fun _ => ⟨_, rfl, rfl⟩
set_option maxHeartbeats 4000000 in
set_option maxRecDepth 100000 in
theorem zk_a191 : zk_A0 191 .athrow := fun _ => ⟨_, rfl, rfl⟩
set_option maxHeartbeats 4000000 in
set_option maxRecDepth 100000 in
theorem zk_a26 : zk_A0 26 (.iload_n 0) := fun _ => ⟨_, rfl, rfl⟩
set_option maxHeartbeats 4000000 in
set_option maxRecDepth 100000 in
theorem zk_a27 : zk_A0 27 (.iload_n 1) := fun _ => ⟨_, rfl, rfl⟩
set_option maxHeartbeats 4000000 in
set_option maxRecDepth 100000 in
theorem zk_a28 : zk_A0 28 (.iload_n 2) := fun _ => ⟨_, rfl, rfl⟩
set_option maxHeartbeats 4000000 in
set_option maxRecDepth 100000 in
theorem zk_a29 : zk_A0 29 (.iload_n 3) := fun _ => ⟨_, rfl, rfl⟩
set_option maxHeartbeats 4000000 in
set_option maxRecDepth 100000 in
theorem zk_a30 : zk_A0 30 (.lload_n 0) := fun _ => ⟨_, rfl, rfl⟩
set_option maxHeartbeats 4000000 in
set_option maxRecDepth 100000 in
theorem zk_a31 : zk_A0 31 (.lload_n 1) := fun _ => ⟨_, rfl, rfl⟩
set_option maxHeartbeats 4000000 in
set_option maxRecDepth 100000 in
theorem zk_a32 : zk_A0 32 (.lload_n 2) := fun _ => ⟨_, rfl, rfl⟩
set_option maxHeartbeats 4000000 in
set_option maxRecDepth 100000 in
theorem zk_a33 : zk_A0 33 (.lload_n 3) := fun _ => ⟨_, rfl, rfl⟩
set_option maxHeartbeats 4000000 in
set_option maxRecDepth 100000 in
theorem zk_a42 : zk_A0 42 (.aload_n 0) := fun _ => ⟨_, rfl, rfl⟩
set_option maxHeartbeats 4000000 in
set_option maxRecDepth 100000 in
theorem zk_a43 : zk_A0 43 (.aload_n 1) := fun _ => ⟨_, rfl, rfl⟩
set_option maxHeartbeats 4000000 in
set_option maxRecDepth 100000 in
theorem zk_a44 : zk_A0 44 (.aload_n 2) := fun _ => ⟨_, rfl, rfl⟩
set_option maxHeartbeats 4000000 in
set_option maxRecDepth 100000 in
theorem zk_a45 : zk_A0 45 (.aload_n 3) := fun _ => ⟨_, rfl, rfl⟩
set_option maxHeartbeats 4000000 in
set_option maxRecDepth 100000 in
theorem zk_a59 : zk_A0 59 (.istore_n 0) := fun _ => ⟨_, rfl, rfl⟩
set_option maxHeartbeats 4000000 in
set_option maxRecDepth 100000 in
theorem zk_a60 : zk_A0 60 (.istore_n 1) := fun _ => ⟨_, rfl, rfl⟩
set_option maxHeartbeats 4000000 in
set_option maxRecDepth 100000 in
theorem zk_a61 : zk_A0 61 (.istore_n 2) := fun _ => ⟨_, rfl, rfl⟩
set_option maxHeartbeats 4000000 in
set_option maxRecDepth 100000 in
theorem zk_a62 : zk_A0 62 (.istore_n 3) := fun _ => ⟨_, rfl, rfl⟩
set_option maxHeartbeats 4000000 in
set_option maxRecDepth 100000 in
theorem zk_a63 : zk_A0 63 (.lstore_n 0) := fun _ => ⟨_, rfl, rfl⟩
set_option maxHeartbeats 4000000 in
set_option maxRecDepth 100000 in
theorem zk_a64 : zk_A0 64 (.lstore_n 1) := fun _ => ⟨_, rfl, rfl⟩
set_option maxHeartbeats 4000000 in
set_option maxRecDepth 100000 in
theorem zk_a65 : zk_A0 65 (.lstore_n 2) := fun _ => ⟨_, rfl, rfl⟩
set_option maxHeartbeats 4000000 in
set_option maxRecDepth 100000 in
theorem zk_a66 : zk_A0 66 (.lstore_n 3) := fun _ => ⟨_, rfl, rfl⟩
set_option maxHeartbeats 4000000 in
set_option maxRecDepth 100000 in
theorem zk_a75 : zk_A0 75 (.astore_n 0) := fun _ => ⟨_, rfl, rfl⟩
set_option maxHeartbeats 4000000 in
set_option maxRecDepth 100000 in
theorem zk_a76 : zk_A0 76 (.astore_n 1) := fun _ => ⟨_, rfl, rfl⟩
set_option maxHeartbeats 4000000 in
set_option maxRecDepth 100000 in
theorem zk_a77 : zk_A0 77 (.astore_n 2) := fun _ => ⟨_, rfl, rfl⟩
set_option maxHeartbeats 4000000 in
set_option maxRecDepth 100000 in
theorem zk_a78 : zk_A0 78 (.astore_n 3) := fun _ => ⟨_, rfl, rfl⟩
set_option maxHeartbeats 4000000 in
set_option maxRecDepth 100000 in
theorem zk_a9 : zk_A0 9 (.lconst 0) := fun _ => ⟨_, rfl, rfl⟩
set_option maxHeartbeats 4000000 in
set_option maxRecDepth 100000 in
theorem zk_a10 : zk_A0 10 (.lconst 1) := fun _ => ⟨_, rfl, rfl⟩
set_option maxHeartbeats 4000000 in
set_option maxRecDepth 100000 in
theorem zk_a2 : zk_A0 2 (.iconst (-1)) := fun _ => ⟨_, rfl, rfl⟩
set_option maxHeartbeats 4000000 in
set_option maxRecDepth 100000 in
theorem zk_a3 : zk_A0 3 (.iconst 0) := fun _ => ⟨_, rfl, rfl⟩
set_option maxHeartbeats 4000000 in
set_option maxRecDepth 100000 in
theorem zk_a4 : zk_A0 4 (.iconst 1) := fun _ => ⟨_, rfl, rfl⟩
set_option maxHeartbeats 4000000 in
set_option maxRecDepth 100000 in
theorem zk_a5 : zk_A0 5 (.iconst 2) := fun _ => ⟨_, rfl, rfl⟩
set_option maxHeartbeats 4000000 in
set_option maxRecDepth 100000 in
theorem zk_a6 : zk_A0 6 (.iconst 3) := fun _ => ⟨_, rfl, rfl⟩
set_option maxHeartbeats 4000000 in
set_option maxRecDepth 100000 in
theorem zk_a7 : zk_A0 7 (.iconst 4) := fun _ => ⟨_, rfl, rfl⟩
set_option maxHeartbeats 4000000 in
set_option maxRecDepth 100000 in
theorem zk_a8 : zk_A0 8 (.iconst 5) := fun _ => ⟨_, rfl, rfl⟩
set_option maxHeartbeats 4000000 in
set_option maxRecDepth 100000 in
theorem zk_a18 : ∀ n : Nat, zk_A1 18 n (.ldc n) := fun _ _ => ⟨_, rfl, _, rfl, rfl⟩
set_option maxHeartbeats 4000000 in
set_option maxRecDepth 100000 in
theorem zk_a21 : ∀ n : Nat, zk_A1 21 n (.iload n) := fun _ _ => ⟨_, rfl, _, rfl, rfl⟩
set_option maxHeartbeats 4000000 in
set_option maxRecDepth 100000 in
theorem zk_a22 : ∀ n : Nat, zk_A1 22 n (.lload n) := fun _ _ => ⟨_, rfl, _, rfl, rfl⟩
set_option maxHeartbeats 4000000 in
set_option maxRecDepth 100000 in
theorem zk_a25 : ∀ n : Nat, zk_A1 25 n (.aload n) := fun _ _ => ⟨_, rfl, _, rfl, rfl⟩
set_option maxHeartbeats 4000000 in
set_option maxRecDepth 100000 in
theorem zk_a54 : ∀ n : Nat, zk_A1 54 n (.istore n) := fun _ _ => ⟨_, rfl, _, rfl, rfl⟩
set_option maxHeartbeats 4000000 in
set_option maxRecDepth 100000 in
theorem zk_a55 : ∀ n : Nat, zk_A1 55 n (.lstore n) := fun _ _ => ⟨_, rfl, _, rfl, rfl⟩
set_option maxHeartbeats 4000000 in
set_option maxRecDepth 100000 in
theorem zk_a58 : ∀ n : Nat, zk_A1 58 n (.astore n) := fun _ _ => ⟨_, rfl, _, rfl, rfl⟩
set_option maxHeartbeats 4000000 in
set_option maxRecDepth 100000 in
theorem zk_a19 : ∀ n : Nat, zk_A2 19 n (.ldc_w n) := fun _ _ => ⟨_, rfl, _, rfl, rfl⟩
set_option maxHeartbeats 4000000 in
set_option maxRecDepth 100000 in
theorem zk_a20 : ∀ n : Nat, zk_A2 20 n (.ldc2_w n) := fun _ _ => ⟨_, rfl, _, rfl, rfl⟩
set_option maxHeartbeats 4000000 in
set_option maxRecDepth 100000 in
theorem zk_a178 : ∀ n : Nat, zk_A2 178 n (.getstatic n) := fun _ _ => ⟨_, rfl, _, rfl, rfl⟩
set_option maxHeartbeats 4000000 in
set_option maxRecDepth 100000 in
theorem zk_a180 : ∀ n : Nat, zk_A2 180 n (.getfield n) := fun _ _ => ⟨_, rfl, _, rfl, rfl⟩
set_option maxHeartbeats 4000000 in
set_option maxRecDepth 100000 in
theorem zk_a181 : ∀ n : Nat, zk_A2 181 n (.putfield n) := fun _ _ => ⟨_, rfl, _, rfl, rfl⟩
set_option maxHeartbeats 4000000 in
set_option maxRecDepth 100000 in
theorem zk_a182 : ∀ n : Nat, zk_A2 182 n (.invokevirtual n) := fun _ _ => ⟨_, rfl, _, rfl, rfl⟩
set_option maxHeartbeats 4000000 in
set_option maxRecDepth 100000 in
theorem zk_a183 : ∀ n : Nat, zk_A2 183 n (.invokespecial n) := fun _ _ => ⟨_, rfl, _, rfl, rfl⟩
set_option maxHeartbeats 4000000 in
set_option maxRecDepth 100000 in
theorem zk_a184 : ∀ n : Nat, zk_A2 184 n (.invokestatic n) := fun _ _ => ⟨_, rfl, _, rfl, rfl⟩
set_option maxHeartbeats 4000000 in
set_option maxRecDepth 100000 in
theorem zk_a187 : ∀ n : Nat, zk_A2 187 n (.new n) := fun _ _ => ⟨_, rfl, _, rfl, rfl⟩
set_option maxHeartbeats 4000000 in
set_option maxRecDepth 100000 in
theorem zk_a189 : ∀ n : Nat, zk_A2 189 n (.anewarray n) := fun _ _ => ⟨_, rfl, _, rfl, rfl⟩
set_option maxHeartbeats 4000000 in
set_option maxRecDepth 100000 in
theorem zk_a192 : ∀ n : Nat, zk_A2 192 n (.checkcast n) := fun _ _ => ⟨_, rfl, _, rfl, rfl⟩
set_option maxHeartbeats 4000000 in
set_option maxRecDepth 100000 in
theorem zk_a17 : ∀ n : Int, zk_A4 17 n (.sipush n) := fun _ _ => ⟨_, rfl, _, rfl, rfl⟩
set_option maxHeartbeats 4000000 in
set_option maxRecDepth 100000 in
theorem zk_a167 : ∀ n : Int, zk_A4 167 n (.goto n) := fun _ _ => ⟨_, rfl, _, rfl, rfl⟩
set_option maxHeartbeats 4000000 in
set_option maxRecDepth 100000 in
theorem zk_a198 : ∀ n : Int, zk_A4 198 n (.ifnull n) := fun _ _ => ⟨_, rfl, _, rfl, rfl⟩
set_option maxHeartbeats 4000000 in
set_option maxRecDepth 100000 in
theorem zk_a199 : ∀ n : Int, zk_A4 199 n (.ifnonnull n) := fun _ _ => ⟨_, rfl, _, rfl, rfl⟩
set_option maxHeartbeats 4000000 in
set_option maxRecDepth 100000 in
theorem zk_a16 : ∀ n : Int, zk_A3 16 n (.bipush n) := fun _ _ => ⟨_, rfl, _, rfl, rfl⟩
set_option maxHeartbeats 4000000 in
set_option maxRecDepth 100000 in
theorem zk_a132 : ∀ (n : Nat) (c : Int), zk_A5 132 n c (.iinc n c) := fun _ _ _ => ⟨_, rfl, _, rfl, _, rfl, rfl⟩
set_option maxHeartbeats 4000000 in
set_option maxRecDepth 100000 in
theorem zk_a153 : ∀ n : Int, zk_A4 153 n (.ifCond .eq n) := fun _ _ => ⟨_, rfl, _, rfl, rfl⟩
set_option maxHeartbeats 4000000 in
set_option maxRecDepth 100000 in
theorem zk_a154 : ∀ n : Int, zk_A4 154 n (.ifCond .ne n) := fun _ _ => ⟨_, rfl, _, rfl, rfl⟩
set_option maxHeartbeats 4000000 in
set_option maxRecDepth 100000 in
theorem zk_a155 : ∀ n : Int, zk_A4 155 n (.ifCond .lt n) := fun _ _ => ⟨_, rfl, _, rfl, rfl⟩
set_option maxHeartbeats 4000000 in
set_option maxRecDepth 100000 in
theorem zk_a156 : ∀ n : Int, zk_A4 156 n (.ifCond .ge n) := fun _ _ => ⟨_, rfl, _, rfl, rfl⟩
set_option maxHeartbeats 4000000 in
set_option maxRecDepth 100000 in
theorem zk_a157 : ∀ n : Int, zk_A4 157 n (.ifCond .gt n) := fun _ _ => ⟨_, rfl, _, rfl, rfl⟩
set_option maxHeartbeats 4000000 in
set_option maxRecDepth 100000 in
theorem zk_a158 : ∀ n : Int, zk_A4 158 n (.ifCond .le n) := fun _ _ => ⟨_, rfl, _, rfl, rfl⟩
set_option maxHeartbeats 4000000 in
set_option maxRecDepth 100000 in
theorem zk_a159 : ∀ n : Int, zk_A4 159 n (.if_icmp .eq n) := fun _ _ => ⟨_, rfl, _, rfl, rfl⟩
set_option maxHeartbeats 4000000 in
set_option maxRecDepth 100000 in
theorem zk_a160 : ∀ n : Int, zk_A4 160 n (.if_icmp .ne n) := fun _ _ => ⟨_, rfl, _, rfl, rfl⟩
set_option maxHeartbeats 4000000 in
set_option maxRecDepth 100000 in
theorem zk_a161 : ∀ n : Int, zk_A4 161 n (.if_icmp .lt n) := fun _ _ => ⟨_, rfl, _, rfl, rfl⟩
set_option maxHeartbeats 4000000 in
set_option maxRecDepth 100000 in
theorem zk_a162 : ∀ n : Int, zk_A4 162 n (.if_icmp .ge n) := fun _ _ => ⟨_, rfl, _, rfl, rfl⟩
set_option maxHeartbeats 4000000 in
set_option maxRecDepth 100000 in
theorem zk_a163 : ∀ n : Int, zk_A4 163 n (.if_icmp .gt n) := fun _ _ => ⟨_, rfl, _, rfl, rfl⟩
set_option maxHeartbeats 4000000 in
set_option maxRecDepth 100000 in
theorem zk_a164 : ∀ n : Int, zk_A4 164 n (.if_icmp .le n) := fun _ _ => ⟨_, rfl, _, rfl, rfl⟩
set_option maxHeartbeats 4000000 in
set_option maxRecDepth 100000 in
theorem zk_a188_4 : zk_A1 188 4 (.newarray .boolean) := fun _ => ⟨_, rfl, _, rfl, rfl⟩
set_option maxHeartbeats 4000000 in
set_option maxRecDepth 100000 in
theorem zk_a188_5 : zk_A1 188 5 (.newarray .char) := fun _ => ⟨_, rfl, _, rfl, rfl⟩
set_option maxHeartbeats 4000000 in
set_option maxRecDepth 100000 in
theorem zk_a188_8 : zk_A1 188 8 (.newarray .byte) := fun _ => ⟨_, rfl, _, rfl, rfl⟩
set_option maxHeartbeats 4000000 in
set_option maxRecDepth 100000 in
theorem zk_a188_10 : zk_A1 188 10 (.newarray .int) := fun _ => ⟨_, rfl, _, rfl, rfl⟩
set_option maxHeartbeats 4000000 in
set_option maxRecDepth 100000 in
theorem zk_a188_11 : zk_A1 188 11 (.newarray .long) := fun _ => ⟨_, rfl, _, rfl, rfl⟩
def zk_d1 (cc : ByteArray) (q : Nat × Instr × Nat) : Bool := match decode cc q.1 with
  | .error _ => false
  | .ok r => decide (r.1 = q.2.1) && Nat.beq r.2 q.2.2
theorem zk_d1_ok {cc : ByteArray} {q : Nat × Instr × Nat} (h : zk_d1 cc q = true) : decode cc q.1 = .ok q.2 := by
  unfold zk_d1 at h
  split at h
  · cases h
  · rename_i r hr
    obtain ⟨h1, h2⟩ := Bool.and_eq_true_iff.mp h
    have h1 : r.1 = q.2.1 := of_decide_eq_true h1
    have h2 := Nat.eq_of_beq_eq_true h2
    rw [hr]
    obtain ⟨a, b⟩ := r
    obtain ⟨c, d, e⟩ := q
    have h1 : a = d := h1
    have h2 : b = e := h2
    subst h1; subst h2; rfl
def zk_d2 (A : ByteArray) (pc : Nat) (l : List UInt8) (len : Nat) : Instr → Bool
  | .aconst_null => zk_e0 1 len l
  | .iaload => zk_e0 46 len l
  | .laload => zk_e0 47 len l
  | .aaload => zk_e0 50 len l
  | .baload => zk_e0 51 len l
  | .caload => zk_e0 52 len l
  | .iastore => zk_e0 79 len l
  | .lastore => zk_e0 80 len l
  | .aastore => zk_e0 83 len l
  | .bastore => zk_e0 84 len l
  | .castore => zk_e0 85 len l
  | .pop => zk_e0 87 len l
  | .dup => zk_e0 89 len l
  | .dup_x1 => zk_e0 90 len l
  | .dup2 => zk_e0 92 len l
  | .iadd => zk_e0 96 len l
  | .ladd => zk_e0 97 len l
  | .isub => zk_e0 100 len l
  | .lsub => zk_e0 101 len l
  | .imul => zk_e0 104 len l
  | .lmul => zk_e0 105 len l
  | .idiv => zk_e0 108 len l
  | .ldiv => zk_e0 109 len l
  | .irem => zk_e0 112 len l
  | .lrem => zk_e0 113 len l
  | .ineg => zk_e0 116 len l
  | .ishl => zk_e0 120 len l
  | .lshl => zk_e0 121 len l
  | .ishr => zk_e0 122 len l
  | .iushr => zk_e0 124 len l
  | .iand => zk_e0 126 len l
  | .land => zk_e0 127 len l
  | .ior => zk_e0 128 len l
  | .lor => zk_e0 129 len l
  | .ixor => zk_e0 130 len l
  | .lxor => zk_e0 131 len l
  | .i2l => zk_e0 133 len l
  | .l2i => zk_e0 136 len l
  | .i2b => zk_e0 145 len l
  | .i2c => zk_e0 146 len l
  | .lcmp => zk_e0 148 len l
  | .ireturn => zk_e0 172 len l
  | .lreturn => zk_e0 173 len l
  | .areturn => zk_e0 176 len l
  | .return_ => zk_e0 177 len l
  | .arraylength => zk_e0 190 len l
  | .athrow => zk_e0 191 len l
  | .iload_n i => zk_e0 (26 + i.val) len l
  | .lload_n i => zk_e0 (30 + i.val) len l
  | .aload_n i => zk_e0 (42 + i.val) len l
  | .istore_n i => zk_e0 (59 + i.val) len l
  | .lstore_n i => zk_e0 (63 + i.val) len l
  | .astore_n i => zk_e0 (75 + i.val) len l
  | .lconst i => zk_e0 (9 + i.val) len l
  | .iconst i => zk_ile (-1) i && (zk_ile i 5 && zk_e0 (i + 3).toNat len l)
  | .ldc n => zk_e1 18 len n l
  | .iload n => zk_e1 21 len n l
  | .lload n => zk_e1 22 len n l
  | .aload n => zk_e1 25 len n l
  | .istore n => zk_e1 54 len n l
  | .lstore n => zk_e1 55 len n l
  | .astore n => zk_e1 58 len n l
  | .ldc_w n => zk_e2 19 len n l
  | .ldc2_w n => zk_e2 20 len n l
  | .getstatic n => zk_e2 178 len n l
  | .getfield n => zk_e2 180 len n l
  | .putfield n => zk_e2 181 len n l
  | .invokevirtual n => zk_e2 182 len n l
  | .invokespecial n => zk_e2 183 len n l
  | .invokestatic n => zk_e2 184 len n l
  | .new n => zk_e2 187 len n l
  | .anewarray n => zk_e2 189 len n l
  | .checkcast n => zk_e2 192 len n l
  | .sipush n => zk_e4 17 len n l
  | .goto n => zk_e4 167 len n l
  | .ifnull n => zk_e4 198 len n l
  | .ifnonnull n => zk_e4 199 len n l
  | .bipush n => zk_e3 16 len n l
  | .iinc n c => zk_e5 132 len n c l
  | .ifCond .eq n => zk_e4 153 len n l
  | .ifCond .ne n => zk_e4 154 len n l
  | .ifCond .lt n => zk_e4 155 len n l
  | .ifCond .ge n => zk_e4 156 len n l
  | .ifCond .gt n => zk_e4 157 len n l
  | .ifCond .le n => zk_e4 158 len n l
  | .if_icmp .eq n => zk_e4 159 len n l
  | .if_icmp .ne n => zk_e4 160 len n l
  | .if_icmp .lt n => zk_e4 161 len n l
  | .if_icmp .ge n => zk_e4 162 len n l
  | .if_icmp .gt n => zk_e4 163 len n l
  | .if_icmp .le n => zk_e4 164 len n l
  | .newarray .boolean => zk_e1 188 len 4 l
  | .newarray .char => zk_e1 188 len 5 l
  | .newarray .byte => zk_e1 188 len 8 l
  | .newarray .int => zk_e1 188 len 10 l
  | .newarray .long => zk_e1 188 len 11 l
  | ins => zk_d1 A (pc, ins, len)
set_option maxHeartbeats 8000000 in
theorem zk_d2_ok {A : ByteArray} {pc len : Nat} {l : List UInt8} (hl : ∀ j : Nat, l[j]? = A.data.toList[pc + j]?) {ins : Instr} (h : zk_d2 A pc l len ins = true) : decode A pc = .ok (ins, len) := by
  cases ins
  case aconst_null => exact zk_e0_ok zk_a1 hl h
  case iaload => exact zk_e0_ok zk_a46 hl h
  case laload => exact zk_e0_ok zk_a47 hl h
  case aaload => exact zk_e0_ok zk_a50 hl h
  case baload => exact zk_e0_ok zk_a51 hl h
  case caload => exact zk_e0_ok zk_a52 hl h
  case iastore => exact zk_e0_ok zk_a79 hl h
  case lastore => exact zk_e0_ok zk_a80 hl h
  case aastore => exact zk_e0_ok zk_a83 hl h
  case bastore => exact zk_e0_ok zk_a84 hl h
  case castore => exact zk_e0_ok zk_a85 hl h
  case pop => exact zk_e0_ok zk_a87 hl h
  case dup => exact zk_e0_ok zk_a89 hl h
  case dup_x1 => exact zk_e0_ok zk_a90 hl h
  case dup2 => exact zk_e0_ok zk_a92 hl h
  case iadd => exact zk_e0_ok zk_a96 hl h
  case ladd => exact zk_e0_ok zk_a97 hl h
  case isub => exact zk_e0_ok zk_a100 hl h
  case lsub => exact zk_e0_ok zk_a101 hl h
  case imul => exact zk_e0_ok zk_a104 hl h
  case lmul => exact zk_e0_ok zk_a105 hl h
  case idiv => exact zk_e0_ok zk_a108 hl h
  case ldiv => exact zk_e0_ok zk_a109 hl h
  case irem => exact zk_e0_ok zk_a112 hl h
  case lrem => exact zk_e0_ok zk_a113 hl h
  case ineg => exact zk_e0_ok zk_a116 hl h
  case ishl => exact zk_e0_ok zk_a120 hl h
  case lshl => exact zk_e0_ok zk_a121 hl h
  case ishr => exact zk_e0_ok zk_a122 hl h
  case iushr => exact zk_e0_ok zk_a124 hl h
  case iand => exact zk_e0_ok zk_a126 hl h
  case land => exact zk_e0_ok zk_a127 hl h
  case ior => exact zk_e0_ok zk_a128 hl h
  case lor => exact zk_e0_ok zk_a129 hl h
  case ixor => exact zk_e0_ok zk_a130 hl h
  case lxor => exact zk_e0_ok zk_a131 hl h
  case i2l => exact zk_e0_ok zk_a133 hl h
  case l2i => exact zk_e0_ok zk_a136 hl h
  case i2b => exact zk_e0_ok zk_a145 hl h
  case i2c => exact zk_e0_ok zk_a146 hl h
  case lcmp => exact zk_e0_ok zk_a148 hl h
  case ireturn => exact zk_e0_ok zk_a172 hl h
  case lreturn => exact zk_e0_ok zk_a173 hl h
  case areturn => exact zk_e0_ok zk_a176 hl h
  case return_ => exact zk_e0_ok zk_a177 hl h
  case arraylength => exact zk_e0_ok zk_a190 hl h
  case athrow => exact zk_e0_ok zk_a191 hl h
  case iload_n i => exact zk_e0_ok (zk_fin4 (P := fun i => zk_A0 (26 + i.val) (.iload_n i)) zk_a26 zk_a27 zk_a28 zk_a29 i) hl h
  case lload_n i => exact zk_e0_ok (zk_fin4 (P := fun i => zk_A0 (30 + i.val) (.lload_n i)) zk_a30 zk_a31 zk_a32 zk_a33 i) hl h
  case aload_n i => exact zk_e0_ok (zk_fin4 (P := fun i => zk_A0 (42 + i.val) (.aload_n i)) zk_a42 zk_a43 zk_a44 zk_a45 i) hl h
  case istore_n i => exact zk_e0_ok (zk_fin4 (P := fun i => zk_A0 (59 + i.val) (.istore_n i)) zk_a59 zk_a60 zk_a61 zk_a62 i) hl h
  case lstore_n i => exact zk_e0_ok (zk_fin4 (P := fun i => zk_A0 (63 + i.val) (.lstore_n i)) zk_a63 zk_a64 zk_a65 zk_a66 i) hl h
  case astore_n i => exact zk_e0_ok (zk_fin4 (P := fun i => zk_A0 (75 + i.val) (.astore_n i)) zk_a75 zk_a76 zk_a77 zk_a78 i) hl h
  case lconst i => exact zk_e0_ok (zk_fin2b (P := fun i => zk_A0 (9 + i.val) (.lconst i)) zk_a9 zk_a10 i) hl h
  case iconst i =>
    obtain ⟨h1, h⟩ := Bool.and_eq_true_iff.mp h
    obtain ⟨h2, h⟩ := Bool.and_eq_true_iff.mp h
    have h1 := (zk_ile_iff _ _).mp h1
    have h2 := (zk_ile_iff _ _).mp h2
    rcases (show i = -1 ∨ i = 0 ∨ i = 1 ∨ i = 2 ∨ i = 3 ∨ i = 4 ∨ i = 5 by omega) with rfl | rfl | rfl | rfl | rfl | rfl | rfl
    · exact zk_e0_ok zk_a2 hl h
    · exact zk_e0_ok zk_a3 hl h
    · exact zk_e0_ok zk_a4 hl h
    · exact zk_e0_ok zk_a5 hl h
    · exact zk_e0_ok zk_a6 hl h
    · exact zk_e0_ok zk_a7 hl h
    · exact zk_e0_ok zk_a8 hl h
  case ldc n => exact zk_e1_ok (zk_a18 n) hl h
  case iload n => exact zk_e1_ok (zk_a21 n) hl h
  case lload n => exact zk_e1_ok (zk_a22 n) hl h
  case aload n => exact zk_e1_ok (zk_a25 n) hl h
  case istore n => exact zk_e1_ok (zk_a54 n) hl h
  case lstore n => exact zk_e1_ok (zk_a55 n) hl h
  case astore n => exact zk_e1_ok (zk_a58 n) hl h
  case ldc_w n => exact zk_e2_ok (zk_a19 n) hl h
  case ldc2_w n => exact zk_e2_ok (zk_a20 n) hl h
  case getstatic n => exact zk_e2_ok (zk_a178 n) hl h
  case getfield n => exact zk_e2_ok (zk_a180 n) hl h
  case putfield n => exact zk_e2_ok (zk_a181 n) hl h
  case invokevirtual n => exact zk_e2_ok (zk_a182 n) hl h
  case invokespecial n => exact zk_e2_ok (zk_a183 n) hl h
  case invokestatic n => exact zk_e2_ok (zk_a184 n) hl h
  case new n => exact zk_e2_ok (zk_a187 n) hl h
  case anewarray n => exact zk_e2_ok (zk_a189 n) hl h
  case checkcast n => exact zk_e2_ok (zk_a192 n) hl h
  case sipush n => exact zk_e4_ok (zk_a17 n) hl h
  case goto n => exact zk_e4_ok (zk_a167 n) hl h
  case ifnull n => exact zk_e4_ok (zk_a198 n) hl h
  case ifnonnull n => exact zk_e4_ok (zk_a199 n) hl h
  case bipush n => exact zk_e3_ok (zk_a16 n) hl h
  case iinc n c => exact zk_e5_ok (zk_a132 n c) hl h
  case ifCond o n =>
    cases o
    case eq => exact zk_e4_ok (zk_a153 n) hl h
    case ne => exact zk_e4_ok (zk_a154 n) hl h
    case lt => exact zk_e4_ok (zk_a155 n) hl h
    case ge => exact zk_e4_ok (zk_a156 n) hl h
    case gt => exact zk_e4_ok (zk_a157 n) hl h
    case le => exact zk_e4_ok (zk_a158 n) hl h
  case if_icmp o n =>
    cases o
    case eq => exact zk_e4_ok (zk_a159 n) hl h
    case ne => exact zk_e4_ok (zk_a160 n) hl h
    case lt => exact zk_e4_ok (zk_a161 n) hl h
    case ge => exact zk_e4_ok (zk_a162 n) hl h
    case gt => exact zk_e4_ok (zk_a163 n) hl h
    case le => exact zk_e4_ok (zk_a164 n) hl h
  case newarray t =>
    cases t
    case boolean => exact zk_e1_ok zk_a188_4 hl h
    case char => exact zk_e1_ok zk_a188_5 hl h
    case byte => exact zk_e1_ok zk_a188_8 hl h
    case int => exact zk_e1_ok zk_a188_10 hl h
    case long => exact zk_e1_ok zk_a188_11 hl h
    all_goals exact zk_d1_ok (q := (pc, _, len)) h
  all_goals exact zk_d1_ok (q := (pc, _, len)) h
end
