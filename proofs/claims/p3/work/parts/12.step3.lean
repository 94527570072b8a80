/-! ENGINE, 11: the step on the heap -/
noncomputable section
def zk_fd {α : Type} : List (Nat × α) → Nat → Option α
  | [], _ => none
  | q :: r, i => bif Nat.beq q.1 i then some q.2 else zk_fd r i
theorem zk_fd_ok {α : Type} : ∀ {l : List (Nat × α)} {i : Nat} {a : α}, zk_fd l i = some a → (i, a) ∈ l
  | [], _, _, h => by simp [zk_fd] at h
  | q :: r, i, a, h => by
    unfold zk_fd at h
    cases e : Nat.beq q.1 i <;> rw [e] at h
    · exact List.mem_cons_of_mem _ (zk_fd_ok h)
    · have h : some q.2 = some a := h
      cases h
      rw [← Nat.eq_of_beq_eq_true e]; exact List.mem_cons_self
theorem zk_bs0 {α : Type} {b : Bool} {a c : α} (h : (bif b then some a else none) = some c) : b = true ∧ a = c := by
  cases b
  · cases h
  · exact ⟨rfl, Option.some.inj h⟩
def zk_ko (x : zk_S) (y : Nat) : Nat := (zk_lk x.2.2.2.1 y).2.1.toNat
def zk_n0 (x : zk_S) (y : Nat) : Bool := zk_is x y 2 && zk_ieq (zk_lk x.2.2.2.1 y).2.2 0
def zk_gf (KT : List zk_K) (fp : List (Nat × Nat × Nat × Nat)) (x : zk_S) (pc idx : Nat) : Option (Nat × zk_S) := match zk_fd fp idx, x.2.2.1 with
  | some (ci, f, _), y :: r => bif zk_is x y 2 && Nat.beq (zk_kd KT (zk_ko x y)).2.1 ci then (match zk_ff x y f with
      | some q => bif Nat.blt f 1000 then some (pc + 3, zk_st x (q.2.2 :: r)) else none
      | none => match (zk_kd KT (zk_ko x y)).2.2.1[f]? with
        | some t => bif zk_n0 x y && Nat.beq (zk_kd KT (zk_ko x y)).1 0 then some (pc + 3, zk_af (zk_pu x r (zk_rt t) (zk_rr x y t) []) [(y, f, x.1)] [] []) else none
        | none => none) else none
  | _, _ => none
/-- a value of the sort that the field's descriptor has -/
def zk_fc2 (x : zk_S) (z ft : Nat) : Bool := bif Nat.beq ft 0 then zk_is x z 0 else bif Nat.beq ft 1 then zk_is x z 1 else bif Nat.beq ft 2 then zk_su x.2.2.2.1 z (0, 0, 1) else bif Nat.beq ft 4 then false else zk_is x z 2
def zk_ptf (KT : List zk_K) (fp : List (Nat × Nat × Nat × Nat)) (E : List (Nat × Nat)) (x : zk_S) (pc idx : Nat) : Option (Nat × zk_S) := match zk_fd fp idx, x.2.2.1 with
  | some (ci, f, ft), z :: y :: r => (match (zk_kd KT (zk_ko x y)).2.2.1[f]? with
      | some t => bif zk_n0 x y && Nat.beq (zk_kd KT (zk_ko x y)).1 0 && Nat.beq (zk_kd KT (zk_ko x y)).2.1 ci && Nat.beq (zk_kd KT (zk_ko x y)).2.2.2.2.2.2.2 0 && zk_sc x z y t && zk_fc2 x z ft && zk_iq KT x (zk_ko x y) f y z && zk_me E (zk_ko x y) f then
          some (pc + 3, zk_af (zk_ex KT [(zk_ko x y, f)] (zk_st x r) true) [(y, f, z)] [] []) else none
      | none => none)
  | _, _ => none
/-- el 1: a known element is taken, 2: a new one is kept in mind too -/
def zk_al (KT : List zk_K) (x : zk_S) (pc : Nat) (tg : Nat → Bool) (el : Nat) : Option (Nat × zk_S) := match x.2.2.1 with
  | i :: y :: r => (match (zk_kd KT (zk_ko x y)).2.2.1[0]? with
      | some t => bif zk_is x i 0 && zk_n0 x y && !(Nat.beq (zk_kd KT (zk_ko x y)).1 0) && tg (zk_kd KT (zk_ko x y)).2.1 && zk_ix KT x i y then
          (match (bif Nat.beq el 0 then none else x.2.2.2.2.2.2.2.2.1.find? (fun q => Nat.beq q.1 6 && Nat.beq q.2.1 y && zk_eq x i q.2.2.1)) with
          | some q => some (pc + 1, zk_st x (q.2.2.2 :: r))
          | none => some (pc + 1, zk_pu x r (bif zk_kn KT x i y && Nat.beq t.1 2 then (2, t.2.1, 0) else zk_rt t) (zk_rr x y t) (bif Nat.beq el 2 then [(6, y, i, x.1)] else []))) else none
      | none => none)
  | _ => none
/-- tags: 0, 5 (the script) int; 1 long; 2 boolean; 3 char; 4, 6 .. 9 (bytes of Strings) byte; from 10 on references -/
def zk_tgi (g : Nat) : Bool := Nat.beq g 0 || Nat.beq g 5
def zk_tgb (g : Nat) : Bool := Nat.beq g 4 || (Nat.ble 6 g && Nat.ble g 9)
def zk_ali (KT : List zk_K) (x : zk_S) (pc : Nat) : Option (Nat × zk_S) := match x.2.2.1 with
  | i :: y :: r => bif Nat.beq (zk_kd KT (zk_ko x y)).2.2.2.2.2.2.2 1 then
      (match (zk_kd KT (zk_ko x y)).2.2.1[0]? with
      | some t => bif zk_is x i 0 && zk_n0 x y && !(Nat.beq (zk_kd KT (zk_ko x y)).1 0) && zk_tgi (zk_kd KT (zk_ko x y)).2.1 && zk_ix KT x i y then
          (match x.2.2.2.2.2.2.2.2.1.find? (fun q => Nat.beq q.1 3 && Nat.beq q.2.1 (zk_ko x y) && zk_eq x i q.2.2.1) with
            | some q => some (pc + 1, zk_st x (q.2.2.2 :: r))
            | none => some (pc + 1, zk_pu x r (bif zk_kn KT x i y && Nat.beq t.1 2 then (2, t.2.1, 0) else zk_rt t) (zk_rr x y t) [(3, zk_ko x y, i, x.1)])) else none
      | none => none) else zk_al KT x pc zk_tgi 2
  | _ => none
def zk_as (KT : List zk_K) (E : List (Nat × Nat)) (x : zk_S) (pc : Nat) (tag : Nat) (chk : zk_T → Nat → Bool) (isr : Bool) : Option (Nat × zk_S) := match x.2.2.1 with
  | z :: i :: y :: r => (match (zk_kd KT (zk_ko x y)).2.2.1[0]?, (zk_kd KT (zk_ko x y)).2.2.2.2.2.1 with
      | some t, [] => bif zk_is x i 0 && zk_n0 x y && !(Nat.beq (zk_kd KT (zk_ko x y)).1 0) && (isr || Nat.beq (zk_kd KT (zk_ko x y)).2.1 tag) && Nat.beq (zk_kd KT (zk_ko x y)).2.2.2.2.2.2.2 0 && zk_ix KT x i y && zk_me E (zk_ko x y) 0 && chk t z then
          some (pc + 1, zk_ad (zk_af (zk_ex KT [(zk_ko x y, 0)] (zk_st x r) true) [] [] (bif isr && (zk_pc x y i 0 || zk_is2 KT x (fun t => Nat.beq t 0) y i 0) then [(y, i, 1)] else [])) [] [] (bif isr then [(6, y, i, z)] else [])) else none
      | _, _ => none)
  | _ => none
def zk_rchk (KT : List zk_K) (sp : List (Nat × Nat)) (x : zk_S) (t : zk_T) (z : Nat) : Bool := match x.2.2.1 with
  | _ :: _ :: y :: _ => Nat.beq t.1 2 && !(zk_ieq t.2.2 2) && zk_n0 x z && zk_su x.2.2.2.1 z t && sp.any fun q => Nat.beq q.1 (zk_kd KT (zk_ko x y)).2.1 && Nat.beq q.2 (zk_ko x z)
  | _ => false
def zk_sC (KT : List zk_K) (fp : List (Nat × Nat × Nat × Nat)) (sp : List (Nat × Nat)) (E : List (Nat × Nat)) (x : zk_S) (pc : Nat) : Instr → Option (Nat × zk_S)
  | .getfield idx => zk_gf KT fp x pc idx
  | .putfield idx => zk_ptf KT fp E x pc idx
  | .iaload => zk_ali KT x pc
  | .laload => zk_al KT x pc (fun g => Nat.beq g 1) 0
  | .baload => zk_al KT x pc (fun g => Nat.beq g 2 || zk_tgb g) 0
  | .caload => zk_al KT x pc (fun g => Nat.beq g 3) 0
  | .aaload => zk_al KT x pc (fun g => Nat.ble 10 g) 2
  | .iastore => zk_as KT E x pc 0 (fun t z => Nat.beq t.1 0 && zk_su x.2.2.2.1 z t) false
  | .lastore => zk_as KT E x pc 1 (fun t z => Nat.beq t.1 1 && zk_su x.2.2.2.1 z t) false
  | .bastore => zk_as KT E x pc 2 (fun t z => Nat.beq t.1 0 && zk_su x.2.2.2.1 z t && zk_su x.2.2.2.1 z (0, 0, 1)) false
  | .castore => zk_as KT E x pc 3 (fun t z => Nat.beq t.1 0 && zk_su x.2.2.2.1 z t && zk_su x.2.2.2.1 z (0, 0, 65535)) false
  | .aastore => zk_as KT E x pc 0 (zk_rchk KT sp x) true
  | .arraylength => match x.2.2.1 with
    | y :: r => (match x.2.2.2.2.2.2.1.find? (fun q => Nat.beq q.1 y) with
        | some q => bif zk_is x q.2 0 then some (pc + 1, zk_st x (q.2 :: r)) else none
        | none => bif zk_n0 x y && !(Nat.beq (zk_kd KT (zk_ko x y)).1 0) && zk_ile 0 (zk_kd KT (zk_ko x y)).2.2.2.1 && zk_ile (zk_kd KT (zk_ko x y)).2.2.2.2.1 2147483647 then
            some (pc + 1, zk_af (zk_pu x r (0, (zk_kd KT (zk_ko x y)).2.2.2.1, (zk_kd KT (zk_ko x y)).2.2.2.2.1) [] []) [] [(y, x.1)] []) else none)
    | _ => none
  | _ => none
def zk_lenC : Instr → Nat
  | .getfield _ | .putfield _ => 3
  | _ => 1
theorem zk_bne {a : Nat} (h : (!(Nat.beq a 0)) = true) : a ≠ 0 := fun z => by rw [z] at h; exact absurd h (by decide)
theorem zk_isa {s : State} {cA : ClassId} {ty : FieldType} (h : ArrOfT s cA ty) {cell : Cell} (h1 : cell.cls = cA) (h2 : zk_vk cell) : s.isArrayOf cell ty := by
  obtain ⟨-, k, hk, hr⟩ := h 0 (fun _ => .null)
  exact ⟨fun q z => (by have h3 := h2.2; rw [z] at h3; cases h3), k, (by rw [h1]; exact hk), hr⟩
theorem zk_unk {cell : Cell} (h : zk_vk cell) : cell.vm ≠ .unknown := h.1
theorem zk_nb {a : Int32} (h1 : 0 ≤ a.toInt) (h2 : a.toInt ≤ 1) : narrow .boolean (.int a) = .int a := by
  have : a = 0 ∨ a = 1 := by
    rcases (show a.toInt = 0 ∨ a.toInt = 1 by omega) with e | e
    · left; exact Int32.toInt_inj.mp e
    · right; exact Int32.toInt_inj.mp e
  rcases this with e | e <;> subst e <;> rfl
theorem zk_nby {a : Int32} (h1 : 0 ≤ a.toInt) (h2 : a.toInt ≤ 1) : narrow .byte (.int a) = .int a := by
  have : a = 0 ∨ a = 1 := by
    rcases (show a.toInt = 0 ∨ a.toInt = 1 by omega) with e | e
    · left; exact Int32.toInt_inj.mp e
    · right; exact Int32.toInt_inj.mp e
  rcases this with e | e <;> subst e <;> rfl
theorem zk_nch {a : Int32} (h1 : 0 ≤ a.toInt) (h2 : a.toInt ≤ 65535) : narrow .char (.int a) = .int a := by
  have e : a = nI a.toInt.toNat := Int32.toInt_inj.mp (by rw [nI_toInt (by omega)]; omega)
  rw [e]
  exact (pk_charN (by omega)).1
section ZS
variable {p : Program} {l : Launch} {e : Env} {R : Room} {s : State} {m : MethodId} {args : Array Value} {below : List Frame} {meth : Method} {c : Code} {Q : State → Prop} {KT : List zk_K} {D : zk_D} {base : Nat} {Hb : Heap} {n0 nL : Nat} {v0 : Nat → Value} {E : List (Nat × Nat)} {G0 : Nat → Nat} {H0 : Heap} {cc : ByteArray}
variable {cells slots pc : Nat} {x : zk_S} {fp : List (Nat × Nat × Nat × Nat)} {sp : List (Nat × Nat)} {AT : List FieldType}
/-- an array of the tag takes a reference of the kind -/
def zk_sok (p : Program) (l : Launch) (e : Env) (R : Room) (s : State) (m : MethodId) (args : Array Value) (below : List Frame) (meth : Method) (c : Code) (Q : State → Prop) (KT : List zk_K) (D : zk_D) (cc : ByteArray) (tag kz : Nat) : Prop :=
  ∀ {H : Heap} {locs : List Loc} {cells slots pc : Nat} {ls : Array Slot} {rv : List Value} {a b : Nat} {j : Int32} {cell cv : Cell}, H[a]? = some cell → cell.cls = D.2.2.1 tag → zk_vk cell → ¬ (j < 0 ∨ cell.slots.size ≤ j.toNatClampNeg) → H[b]? = some cv → zk_vk cv → ((zk_kd KT kz).1 = 0 → cv.cls = D.1 (zk_kd KT kz).2.1) → ((zk_kd KT kz).1 ≠ 0 → cv.cls = D.2.2.1 (zk_kd KT kz).2.1) → decode cc pc = .ok (.aastore, 1) →
    (∀ H' : Heap, H'[a]? = some (cell.setSlot j.toNatClampNeg (.ref b)) → H'.size = H.size → (∀ q : Nat, q ≠ a → H'[q]? = H[q]?) → W p l e R s m args below meth c H' (locs ++ [⟨a, j.toNatClampNeg⟩]) cells slots Q (F0 m (pc + 1) ls rv)) → W p l e R s m args below meth c H locs cells slots Q (F0 m pc ls (.ref b :: .int j :: .ref a :: rv))
theorem zk_n0_ok {y : Nat} (h : zk_n0 x y = true) : (zk_lk x.2.2.2.1 y).1 = 2 ∧ (zk_lk x.2.2.2.1 y).2.2 = 0 := by
  obtain ⟨h1, h2⟩ := Bool.and_eq_true_iff.mp h
  exact ⟨zk_is_eq h1, (zk_ieq_iff _ _).mp h2⟩
theorem zt_al {tg : Nat → Bool} {el : Nat} {o : Nat × zk_S} (h : zk_al KT x pc tg el = some o)
    (row : ∀ {H : Heap} {locs : List Loc} {ls : Array Slot} {rv : List Value} {a tag : Nat} {j : Int32} {cell : Cell} {w : Value}, tg tag = true → (∃ k, (zk_kd KT k).1 ≠ 0 ∧ (zk_kd KT k).2.1 = tag) → H[a]? = some cell → cell.cls = D.2.2.1 tag → zk_vk cell → ¬ (j < 0 ∨ cell.slots.size ≤ j.toNatClampNeg) → cell.slots[j.toNatClampNeg]? = some w → W p l e R s m args below meth c H locs cells slots Q (F0 m (pc + 1) ls (w :: rv)) → W p l e R s m args below meth c H locs cells slots Q (F0 m pc ls (.int j :: .ref a :: rv)))
    (kk : zk_G p l e R s m args below meth c Q KT D base Hb n0 nL v0 E G0 H0 cells slots o.1 o.2) : zk_G p l e R s m args below meth c Q KT D base Hb n0 nL v0 E G0 H0 cells slots pc x := by
  unfold zk_al at h
  split at h
  · rename_i i y r hs
    split at h
    · rename_i t ht
      cases e : zk_is x i 0 && zk_n0 x y && !(Nat.beq (zk_kd KT (zk_ko x y)).1 0) && tg (zk_kd KT (zk_ko x y)).2.1 && zk_ix KT x i y <;> rw [e] at h
      · cases h
      · simp only [Bool.and_eq_true] at e
        obtain ⟨⟨⟨⟨e1, e2⟩, e3⟩, e4⟩, e5⟩ := e
        obtain ⟨n1, n2⟩ := zk_n0_ok e2
        simp only [cond_true] at h
        split at h
        · rename_i q hq
          cases el0 : Nat.beq el 0 <;> rw [el0] at hq
          · have hq : x.2.2.2.2.2.2.2.2.1.find? (fun q => Nat.beq q.1 6 && Nat.beq q.2.1 y && zk_eq x i q.2.2.1) = some q := hq
            cases h
            have hm := List.mem_of_find?_eq_some hq
            have hc := List.find?_some hq
            simp only [Bool.and_eq_true] at hc
            obtain ⟨⟨c1, c2⟩, c3⟩ := hc
            have c1 := Nat.eq_of_beq_eq_true c1
            have c2 := Nat.eq_of_beq_eq_true c2
            have hm : (6, y, q.2.2.1, q.2.2.2) ∈ x.2.2.2.2.2.2.2.2.1 := by rw [← c1, ← c2]; exact hm
            exact zs_ald3 (k := zk_ko x y) hm (fun hF => zk_eq_ok hF c3) hs (zk_is_eq e1) n1 n2 rfl (zk_bne e3) e5 (fun h1 h2 h3 h4 h5 k => row e4 ⟨_, zk_bne e3, rfl⟩ h1 h2 h3 h4 h5 k) kk
          · cases hq
        · cases h
          refine zs_ald (k := zk_ko x y) ?_ hs (zk_is_eq e1) n1 n2 rfl (zk_bne e3) ht e5 (fun h1 h2 h3 h4 h5 k => row e4 ⟨_, zk_bne e3, rfl⟩ h1 h2 h3 h4 h5 k) kk
          cases Nat.beq el 2
          · exact Or.inl rfl
          · exact Or.inr (Or.inl rfl)
    · cases h
  · cases h
theorem zt_ali {o : Nat × zk_S} (h : zk_ali KT x pc = some o)
    (row : ∀ {H : Heap} {locs : List Loc} {ls : Array Slot} {rv : List Value} {a tag : Nat} {j : Int32} {cell : Cell} {w : Value}, zk_tgi tag = true → H[a]? = some cell → cell.cls = D.2.2.1 tag → zk_vk cell → ¬ (j < 0 ∨ cell.slots.size ≤ j.toNatClampNeg) → cell.slots[j.toNatClampNeg]? = some w → W p l e R s m args below meth c H locs cells slots Q (F0 m (pc + 1) ls (w :: rv)) → W p l e R s m args below meth c H locs cells slots Q (F0 m pc ls (.int j :: .ref a :: rv)))
    (kk : zk_G p l e R s m args below meth c Q KT D base Hb n0 nL v0 E G0 H0 cells slots o.1 o.2) : zk_G p l e R s m args below meth c Q KT D base Hb n0 nL v0 E G0 H0 cells slots pc x := by
  unfold zk_ali at h
  split at h
  · rename_i i y r hs
    cases er : Nat.beq (zk_kd KT (zk_ko x y)).2.2.2.2.2.2.2 1 <;> rw [er] at h
    · exact zt_al (tg := zk_tgi) h (fun ht _ h1 h2 h3 h4 h5 k => row ht h1 h2 h3 h4 h5 k) kk
    · have hro := Nat.eq_of_beq_eq_true er
      simp only [cond_true] at h
      split at h
      · rename_i t ht
        cases e : zk_is x i 0 && zk_n0 x y && !(Nat.beq (zk_kd KT (zk_ko x y)).1 0) && zk_tgi (zk_kd KT (zk_ko x y)).2.1 && zk_ix KT x i y <;> rw [e] at h
        · cases h
        · simp only [Bool.and_eq_true] at e
          obtain ⟨⟨⟨⟨e1, e2⟩, e3⟩, e4⟩, e5⟩ := e
          obtain ⟨n1, n2⟩ := zk_n0_ok e2
          simp only [cond_true] at h
          split at h
          · rename_i q hq
            cases h
            have hm := List.mem_of_find?_eq_some hq
            have hc := List.find?_some hq
            simp only [Bool.and_eq_true] at hc
            obtain ⟨⟨c1, c2⟩, c3⟩ := hc
            have c1 := Nat.eq_of_beq_eq_true c1
            have c2 := Nat.eq_of_beq_eq_true c2
            have hm : (3, zk_ko x y, q.2.2.1, q.2.2.2) ∈ x.2.2.2.2.2.2.2.2.1 := by rw [← c1, ← c2]; exact hm
            exact zs_ald2 (k := zk_ko x y) hro hm (fun hF => zk_eq_ok hF c3) hs (zk_is_eq e1) n1 n2 rfl (zk_bne e3) e5 (fun h1 h2 h3 h4 h5 k => row e4 h1 h2 h3 h4 h5 k) kk
          · cases h
            exact zs_ald (k := zk_ko x y) (Or.inr (Or.inr ⟨rfl, hro⟩)) hs (zk_is_eq e1) n1 n2 rfl (zk_bne e3) ht e5 (fun h1 h2 h3 h4 h5 k => row e4 h1 h2 h3 h4 h5 k) kk
      · cases h
  · cases h
theorem zt_as {tag : Nat} {chk : zk_T → Nat → Bool} {isr : Bool} {o : Nat × zk_S} {nw : Value → Value} (hkt : zk_kt KT) (hnw : isr = true → ∀ w, nw w = w) (h : zk_as KT E x pc tag chk isr = some o)
    (hw : ∀ (t : zk_T) (z i y : Nat) (r : List Nat) (G : Nat → Nat) (H : Heap) (v : Nat → Value) (a : Nat), x.2.2.1 = z :: i :: y :: r → chk t z = true → zk_F KT D G H v x → v y = .ref a → zk_ct G a (nw (v z)) t ∧ nw (v z) ≠ .null)
    (row : ∀ {t : zk_T} {z i y : Nat} {r : List Nat} {G : Nat → Nat} {H : Heap} {v : Nat → Value} {locs : List Loc} {ls : Array Slot} {rv : List Value} {a : Nat} {j : Int32} {cell : Cell}, x.2.2.1 = z :: i :: y :: r → chk t z = true → (isr = true ∨ (zk_kd KT (zk_ko x y)).2.1 = tag) → zk_hp KT D base Hb G H → zk_F KT D G H v x → H[a]? = some cell → cell.cls = D.2.2.1 (zk_kd KT (zk_ko x y)).2.1 → zk_vk cell → ¬ (j < 0 ∨ cell.slots.size ≤ j.toNatClampNeg) →
      (∀ H' : Heap, H'[a]? = some (cell.setSlot j.toNatClampNeg (nw (v z))) → H'.size = H.size → (∀ q : Nat, q ≠ a → H'[q]? = H[q]?) → W p l e R s m args below meth c H' (locs ++ [⟨a, j.toNatClampNeg⟩]) cells slots Q (F0 m (pc + 1) ls rv)) → W p l e R s m args below meth c H locs cells slots Q (F0 m pc ls (v z :: .int j :: .ref a :: rv)))
    (kk : zk_G p l e R s m args below meth c Q KT D base Hb n0 nL v0 E G0 H0 cells slots o.1 o.2) : zk_G p l e R s m args below meth c Q KT D base Hb n0 nL v0 E G0 H0 cells slots pc x := by
  unfold zk_as at h
  split at h
  · rename_i z i y r hs
    split at h
    · rename_i t ht hni
      cases e : zk_is x i 0 && zk_n0 x y && !(Nat.beq (zk_kd KT (zk_ko x y)).1 0) && (isr || Nat.beq (zk_kd KT (zk_ko x y)).2.1 tag) && Nat.beq (zk_kd KT (zk_ko x y)).2.2.2.2.2.2.2 0 && zk_ix KT x i y && zk_me E (zk_ko x y) 0 && chk t z <;> rw [e] at h
      · cases h
      · cases h
        simp only [Bool.and_eq_true] at e
        obtain ⟨⟨⟨⟨⟨⟨⟨e1, e2⟩, e3⟩, e4⟩, e5⟩, e6⟩, e7⟩, e8⟩ := e
        obtain ⟨n1, n2⟩ := zk_n0_ok e2
        refine zs_ast (k := zk_ko x y) (nw := nw) hkt hs (zk_is_eq e1) n1 n2 rfl (zk_bne e3) (Nat.eq_of_beq_eq_true e5) hni ht e6 e7 (fun G H v a hF ha => hw t z i y r G H v a hs e8 hF ha) ?_ (ms := bif isr then [(6, y, i, z)] else []) ?_ (fun hp hF h1 h2 h3 h4 k => row hs e8 ?_ hp hF h1 h2 h3 h4 k) kk
        · cases eb : isr && (zk_pc x y i 0 || zk_is2 KT x (fun t => Nat.beq t 0) y i 0)
          · exact Or.inl rfl
          · exact Or.inr ⟨rfl, (Bool.and_eq_true_iff.mp eb).2⟩
        · cases eb : isr
          · exact Or.inl rfl
          · exact Or.inr ⟨rfl, hnw eb⟩
        · rcases Bool.or_eq_true_iff.mp e4 with q | q
          · exact Or.inl q
          · exact Or.inr (Nat.eq_of_beq_eq_true q)
    · cases h
  · cases h
set_option maxHeartbeats 4000000 in
theorem zt_C (hx : p.tables.exec = Jvm.exec) (hb : c.code = cc) (hkt : zk_kt KT) (hdj : zk_dj KT D) (hA : ∀ (tag : Nat) (ty : FieldType), AT[tag]? = some ty → ArrOfT s (D.2.2.1 tag) ty) (hA0 : AT[0]? = some .int) (hA1 : AT[1]? = some .long) (hA2 : AT[2]? = some .boolean) (hA3 : AT[3]? = some .char) (hA4 : AT[4]? = some .byte) (hAi : AT[5]? = some .int) (hAb : ∀ g, zk_tgb g = true → AT[g]? = some .byte) (hA5 : ∀ tag : Nat, 10 ≤ tag → ∀ ty, AT[tag]? = some ty → ty.isReference = true) (hAK : ∀ k, (zk_kd KT k).1 ≠ 0 → ∃ ty, AT[(zk_kd KT k).2.1]? = some ty)
    (hfp : ∀ q ∈ fp, zk_gok p l e R s m args below meth c Q D cc q.1 q.2.1 q.2.2.1 ∧ zk_pok p l e R s m args below meth c Q D cc q.1 q.2.1 q.2.2.1 q.2.2.2) (hsp : ∀ q ∈ sp, zk_sok p l e R s m args below meth c Q KT D cc q.1 q.2)
    {ins : Instr} {len : Nat} {o : Nat × zk_S} (hATk : ∀ tag : Nat, (∃ k, (zk_kd KT k).1 ≠ 0 ∧ (zk_kd KT k).2.1 = tag) → ∃ ty, AT[tag]? = some ty) (h : zk_sC KT fp sp E x pc ins = some o) (hlen : len = zk_lenC ins) (hdg : decode cc pc = .ok (ins, len)) (kk : zk_G p l e R s m args below meth c Q KT D base Hb n0 nL v0 E G0 H0 cells slots o.1 o.2) : zk_G p l e R s m args below meth c Q KT D base Hb n0 nL v0 E G0 H0 cells slots pc x := by
  subst hlen
  have hb1 : ∀ {g : Nat}, Nat.beq g 0 = true → ArrOfT s (D.2.2.1 g) .int := fun {g} z => by rw [Nat.eq_of_beq_eq_true z]; exact hA 0 _ hA0
  cases ins
  case getfield idx =>
    have h : zk_gf KT fp x pc idx = some o := h
    unfold zk_gf at h
    split at h
    · rename_i ci f ft y r hfd hs
      have hmem := hfp _ (zk_fd_ok hfd)
      cases e : zk_is x y 2 && Nat.beq (zk_kd KT (zk_ko x y)).2.1 ci <;> rw [e] at h
      · cases h
      · obtain ⟨e1, e2⟩ := Bool.and_eq_true_iff.mp e
        simp only [cond_true] at h
        split at h
        · rename_i q hq
          obtain ⟨hfr, h⟩ := zk_bs0 h
          subst h
          exact zs_get1 hfr hmem.1 hs (zk_ff_ok hq) (zk_is_eq e1) (Nat.eq_of_beq_eq_true e2) hdg kk
        · split at h
          · rename_i t ht
            cases e3 : zk_n0 x y && Nat.beq (zk_kd KT (zk_ko x y)).1 0 <;> rw [e3] at h
            · cases h
            · cases h
              obtain ⟨e4, e5⟩ := Bool.and_eq_true_iff.mp e3
              obtain ⟨n1, n2⟩ := zk_n0_ok e4
              exact zs_get2 hmem.1 hs n1 n2 (Nat.eq_of_beq_eq_true e5) (Nat.eq_of_beq_eq_true e2) ht hdg kk
          · cases h
    · cases h
  case putfield idx =>
    have h : zk_ptf KT fp E x pc idx = some o := h
    unfold zk_ptf at h
    split at h
    · rename_i ci f ft z y r hfd hs
      have hmem := hfp _ (zk_fd_ok hfd)
      split at h
      · rename_i t ht
        cases ea : zk_n0 x y && Nat.beq (zk_kd KT (zk_ko x y)).1 0 && Nat.beq (zk_kd KT (zk_ko x y)).2.1 ci && Nat.beq (zk_kd KT (zk_ko x y)).2.2.2.2.2.2.2 0 && zk_sc x z y t && zk_fc2 x z ft && zk_iq KT x (zk_ko x y) f y z && zk_me E (zk_ko x y) f <;> rw [ea] at h
        · cases h
        · cases h
          simp only [Bool.and_eq_true] at ea
          obtain ⟨⟨⟨⟨⟨⟨⟨e1, e2⟩, e3⟩, e4⟩, e5⟩, e6⟩, e7⟩, e8⟩ := ea
          obtain ⟨n1, n2⟩ := zk_n0_ok e1
          refine zs_put (k := zk_ko x y) hkt hdj hmem.2 hs n1 n2 rfl (Nat.eq_of_beq_eq_true e2) (Nat.eq_of_beq_eq_true e3) (Nat.eq_of_beq_eq_true e4) ht e5 (fun G w hw => ?_) e7 e8 hdg kk
          unfold zk_fc2 at e6
          unfold zk_fv
          cases f0 : Nat.beq ft 0
          · rw [f0] at e6
            have g0 : ¬ ft = 0 := fun q => by rw [q] at f0; cases f0
            rw [if_neg g0]
            cases f1 : Nat.beq ft 1
            · rw [f1] at e6
              have g1 : ¬ ft = 1 := fun q => by rw [q] at f1; cases f1
              rw [if_neg g1]
              cases f2 : Nat.beq ft 2
              · rw [f2] at e6
                have g2 : ¬ ft = 2 := fun q => by rw [q] at f2; cases f2
                rw [if_neg g2]
                cases f4 : Nat.beq ft 4
                case true => rw [f4] at e6; simp at e6
                rw [f4] at e6
                have g4 : ¬ ft = 4 := fun q => by rw [q] at f4; cases f4
                rw [if_neg g4]
                rcases zk_rn hw (zk_is_eq e6) with q | q
                · exact Or.inr q
                · exact Or.inl q
              · rw [f2] at e6
                rw [if_pos (Nat.eq_of_beq_eq_true f2)]
                have e6 : zk_su x.2.2.2.1 z (0, 0, 1) = true := e6
                exact zk_su_tv (t := (0, 0, 1)) hw e6
            · rw [f1] at e6
              rw [if_pos (Nat.eq_of_beq_eq_true f1)]
              obtain ⟨a, q, -⟩ := zk_gl hw (zk_is_eq e6)
              exact ⟨a, q⟩
          · rw [f0] at e6
            rw [if_pos (Nat.eq_of_beq_eq_true f0)]
            obtain ⟨a, q, -⟩ := zk_gi hw (zk_is_eq e6)
            exact ⟨a, q⟩
      · cases h
    · cases h
  case iaload => exact zt_ali h (fun ht h1 h2 h3 h4 h5 k => by
    rcases Bool.or_eq_true_iff.mp ht with ht | ht
    · exact W.iald hx hb h1 (zk_isa (hA 0 _ hA0) (by rw [← Nat.eq_of_beq_eq_true ht]; exact h2) h3) (zk_unk h3) h4 h5 rfl rfl hdg k
    · exact W.iald hx hb h1 (zk_isa (hA 5 _ hAi) (by rw [← Nat.eq_of_beq_eq_true ht]; exact h2) h3) (zk_unk h3) h4 h5 rfl rfl hdg k) kk
  case laload => exact zt_al (tg := fun g => Nat.beq g 1) (el := 0) h (fun ht _ h1 h2 h3 h4 h5 k => W.lald hx hb h1 (zk_isa (hA 1 _ hA1) (by rw [← Nat.eq_of_beq_eq_true ht]; exact h2) h3) (zk_unk h3) h4 h5 rfl rfl hdg k) kk
  case caload => exact zt_al (tg := fun g => Nat.beq g 3) (el := 0) h (fun ht _ h1 h2 h3 h4 h5 k => W.cald hx hb h1 (zk_isa (hA 3 _ hA3) (by rw [← Nat.eq_of_beq_eq_true ht]; exact h2) h3) (zk_unk h3) h4 h5 rfl rfl hdg k) kk
  case baload => exact zt_al (tg := fun g => Nat.beq g 2 || zk_tgb g) (el := 0) h (fun ht _ h1 h2 h3 h4 h5 k => by
    rcases Bool.or_eq_true_iff.mp ht with ht | ht
    · exact W.zald hx hb h1 (zk_isa (hA 2 _ hA2) (by rw [← Nat.eq_of_beq_eq_true ht]; exact h2) h3) (zk_unk h3) h4 h5 rfl rfl hdg k
    · exact W.bald hx hb h1 (zk_isa (hA _ _ (hAb _ ht)) h2 h3) (zk_unk h3) h4 h5 rfl rfl hdg k) kk
  case aaload => exact zt_al (tg := fun g => Nat.ble 10 g) (el := 2) h (fun ht hk h1 h2 h3 h4 h5 k => by
    obtain ⟨ty, hty⟩ := hATk _ hk
    exact W.aald hx hb h1 (zk_isa (hA _ _ hty) h2 h3) (hA5 _ (by simpa using ht) _ hty) (zk_unk h3) h4 h5 rfl rfl hdg k) kk
  case iastore =>
    refine zt_as (tag := 0) (chk := fun t z => Nat.beq t.1 0 && zk_su x.2.2.2.1 z t) (isr := false) (nw := id) hkt (fun _ _ => rfl) h (fun t z i y r G H v a hs hc hF ha => ?_) (fun {t z i y r G H v locs ls rv a j cell} hs hc htag hp hF h1 h2 h3 h4 k => ?_) kk
    · obtain ⟨c1, c2⟩ := Bool.and_eq_true_iff.mp hc
      have hv := zk_su_ok hF c2
      obtain ⟨w, ew, -⟩ := zk_gi hv (Nat.eq_of_beq_eq_true c1)
      exact ⟨⟨hv, fun q => by rw [Nat.eq_of_beq_eq_true c1] at q; cases q⟩, by show v z ≠ _; rw [ew]; exact fun q => by cases q⟩
    · obtain ⟨c1, c2⟩ := Bool.and_eq_true_iff.mp hc
      obtain ⟨w, ew, -⟩ := zk_gi (zk_su_ok hF c2) (Nat.eq_of_beq_eq_true c1)
      rcases htag with q | q
      · cases q
      · rw [q] at h2
        simp only [id, ew] at k ⊢
        exact W.iast hx hb h1 (zk_isa (hA 0 _ hA0) h2 h3) (zk_unk h3) h4 rfl rfl hdg k
  case lastore =>
    refine zt_as (tag := 1) (chk := fun t z => Nat.beq t.1 1 && zk_su x.2.2.2.1 z t) (isr := false) (nw := id) hkt (fun _ _ => rfl) h (fun t z i y r G H v a hs hc hF ha => ?_) (fun {t z i y r G H v locs ls rv a j cell} hs hc htag hp hF h1 h2 h3 h4 k => ?_) kk
    · obtain ⟨c1, c2⟩ := Bool.and_eq_true_iff.mp hc
      have hv := zk_su_ok hF c2
      obtain ⟨w, ew, -⟩ := zk_gl hv (Nat.eq_of_beq_eq_true c1)
      exact ⟨⟨hv, fun q => by rw [Nat.eq_of_beq_eq_true c1] at q; cases q⟩, by show v z ≠ _; rw [ew]; exact fun q => by cases q⟩
    · obtain ⟨c1, c2⟩ := Bool.and_eq_true_iff.mp hc
      obtain ⟨w, ew, -⟩ := zk_gl (zk_su_ok hF c2) (Nat.eq_of_beq_eq_true c1)
      rcases htag with q | q
      · cases q
      · rw [q] at h2
        simp only [id, ew] at k ⊢
        exact W.last hx hb h1 (zk_isa (hA 1 _ hA1) h2 h3) (zk_unk h3) h4 rfl rfl hdg k
  case bastore =>
    refine zt_as (tag := 2) (chk := fun t z => Nat.beq t.1 0 && zk_su x.2.2.2.1 z t && zk_su x.2.2.2.1 z (0, 0, 1)) (isr := false) (nw := id) hkt (fun _ _ => rfl) h (fun t z i y r G H v a hs hc hF ha => ?_) (fun {t z i y r G H v locs ls rv a j cell} hs hc htag hp hF h1 h2 h3 h4 k => ?_) kk
    · obtain ⟨hc, c3⟩ := Bool.and_eq_true_iff.mp hc
      obtain ⟨c1, c2⟩ := Bool.and_eq_true_iff.mp hc
      have hv := zk_su_ok hF c2
      obtain ⟨w, ew, -⟩ := zk_gi hv (Nat.eq_of_beq_eq_true c1)
      exact ⟨⟨hv, fun q => by rw [Nat.eq_of_beq_eq_true c1] at q; cases q⟩, by show v z ≠ _; rw [ew]; exact fun q => by cases q⟩
    · obtain ⟨hc, c3⟩ := Bool.and_eq_true_iff.mp hc
      obtain ⟨w, ew, w1, w2⟩ := zk_gi (zk_su_ok hF c3) rfl
      rcases htag with q | q
      · cases q
      · rw [q] at h2
        simp only [id, ew] at k ⊢
        exact W.zast hx hb h1 (zk_isa (hA 2 _ hA2) h2 h3) (zk_unk h3) h4 rfl rfl hdg (fun H' q1 q2 q3 => k H' (by rw [zk_nb w1 w2] at q1; exact q1) q2 q3)
  case castore =>
    refine zt_as (tag := 3) (chk := fun t z => Nat.beq t.1 0 && zk_su x.2.2.2.1 z t && zk_su x.2.2.2.1 z (0, 0, 65535)) (isr := false) (nw := id) hkt (fun _ _ => rfl) h (fun t z i y r G H v a hs hc hF ha => ?_) (fun {t z i y r G H v locs ls rv a j cell} hs hc htag hp hF h1 h2 h3 h4 k => ?_) kk
    · obtain ⟨hc, c3⟩ := Bool.and_eq_true_iff.mp hc
      obtain ⟨c1, c2⟩ := Bool.and_eq_true_iff.mp hc
      have hv := zk_su_ok hF c2
      obtain ⟨w, ew, -⟩ := zk_gi hv (Nat.eq_of_beq_eq_true c1)
      exact ⟨⟨hv, fun q => by rw [Nat.eq_of_beq_eq_true c1] at q; cases q⟩, by show v z ≠ _; rw [ew]; exact fun q => by cases q⟩
    · obtain ⟨hc, c3⟩ := Bool.and_eq_true_iff.mp hc
      obtain ⟨w, ew, w1, w2⟩ := zk_gi (zk_su_ok hF c3) rfl
      rcases htag with q | q
      · cases q
      · rw [q] at h2
        simp only [id, ew] at k ⊢
        exact W.cast hx hb h1 (zk_isa (hA 3 _ hA3) h2 h3) (zk_unk h3) h4 rfl rfl hdg (fun H' q1 q2 q3 => k H' (by rw [zk_nch w1 w2] at q1; exact q1) q2 q3)
  case aastore =>
    refine zt_as (tag := 0) (chk := zk_rchk KT sp x) (isr := true) (nw := id) hkt (fun _ _ => rfl) h (fun t z i y r G H v a hs hc hF ha => ?_) (fun {t z i y r G H v locs ls rv a j cell} hs hc htag hp hF h1 h2 h3 h4 k => ?_) kk
    · unfold zk_rchk at hc
      rw [hs] at hc
      simp only [Bool.and_eq_true] at hc
      obtain ⟨⟨⟨⟨c1, c2⟩, c3⟩, c4⟩, c5⟩ := hc
      obtain ⟨n1, n2⟩ := zk_n0_ok c3
      obtain ⟨b, eb, -⟩ := zk_gr (zk_F_ty hF z) n1 n2
      refine ⟨⟨zk_su_ok hF c4, fun _ q => by rw [q] at c2; exact absurd c2 (by decide)⟩, by show v z ≠ _; rw [eb]; exact fun q => by cases q⟩
    · unfold zk_rchk at hc
      rw [hs] at hc
      simp only [Bool.and_eq_true] at hc
      obtain ⟨⟨⟨⟨c1, c2⟩, c3⟩, c4⟩, c5⟩ := hc
      obtain ⟨n1, n2⟩ := zk_n0_ok c3
      obtain ⟨b, eb, gb, gb0⟩ := zk_gr (zk_F_ty hF z) n1 n2
      obtain ⟨q, hq, c5⟩ := List.any_eq_true.mp c5
      obtain ⟨d1, d2⟩ := Bool.and_eq_true_iff.mp c5
      have hsk : zk_sok p l e R s m args below meth c Q KT D cc q.1 q.2 := hsp q hq
      rw [Nat.eq_of_beq_eq_true d1, Nat.eq_of_beq_eq_true d2] at hsk
      obtain ⟨-, cv, kv, ok, -⟩ := hp.2.2 b gb0
      simp only [id, eb] at k ⊢
      have gk : G b = zk_ko x z := gb
      rw [gk] at ok
      exact hsk h1 h2 h3 h4 kv ok.1.1 (fun q => (ok.2.1 q).1) (fun q => (ok.2.2 q).1) hdg k
  case arraylength =>
    unfold zk_sC at h; dsimp only at h
    have row : ∀ {G : Nat → Nat} {H : Heap} {locs : List Loc} {ls : Array Slot} {rv : List Value} {a : Nat} {cell : Cell}, zk_hp KT D base Hb G H → H[a]? = some cell → G a ≠ 0 → (zk_kd KT (G a)).1 ≠ 0 → W p l e R s m args below meth c H locs cells slots Q (F0 m (pc + 1) ls (.int cell.slots.size.toInt32 :: rv)) → W p l e R s m args below meth c H locs cells slots Q (F0 m pc ls (.ref a :: rv)) := by
      intro G H locs ls rv a cell hp h1 hg hs k
      obtain ⟨-, cell', r1, r2, -⟩ := hp.2.2 a hg
      rw [h1] at r1; cases r1
      obtain ⟨ty, hty⟩ := hAK _ hs
      exact W.alen hx hb h1 (zk_isa (hA _ _ hty) (r2.2.2 hs).1 r2.1.1) rfl rfl rfl hdg k
    split at h
    · rename_i y r hs
      split at h
      · rename_i q hq
        cases e : zk_is x q.2 0 <;> rw [e] at h
        · cases h
        · cases h
          exact zs_alen1 hs (zk_find_mem hq) (zk_is_eq e) (fun hp h1 hg hs k => row hp h1 hg hs k) kk
      · cases e : zk_n0 x y && !(Nat.beq (zk_kd KT (zk_ko x y)).1 0) && zk_ile 0 (zk_kd KT (zk_ko x y)).2.2.2.1 && zk_ile (zk_kd KT (zk_ko x y)).2.2.2.2.1 2147483647 <;> rw [e] at h
        · cases h
        · cases h
          simp only [Bool.and_eq_true] at e
          obtain ⟨⟨⟨e1, e2⟩, e3⟩, e4⟩ := e
          obtain ⟨n1, n2⟩ := zk_n0_ok e1
          exact zs_alen2 (k := zk_ko x y) hs n1 n2 rfl (zk_bne e2) ((zk_ile_iff _ _).mp e3) ((zk_ile_iff _ _).mp e4) (fun hp h1 hg hs k => row hp h1 hg hs k) kk
    · cases h
  all_goals cases h
end ZS
end
