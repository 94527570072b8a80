/-! ENGINE, 13: the run, and a method's contract out of it -/
noncomputable section
/-- a measure: c + x - y, a list of them from the left -/
abbrev zk_M : Type := Int × Option Nat × Option Nat
def zk_ov (v : Nat → Value) : Option Nat → Int | some y => zk_i (v y) | none => 0
def zk_mv (v : Nat → Value) (q : zk_M) : Nat := (q.1 + zk_ov v q.2.1 - zk_ov v q.2.2).toNat
def zk_lt : Nat → List Nat → List Nat → Prop
  | 0, _, _ => False
  | n + 1, a, b => a.headD 0 < b.headD 0 ∨ (a.headD 0 = b.headD 0 ∧ zk_lt n a.tail b.tail)
theorem zk_lt_acc : ∀ n l, Acc (zk_lt n) l
  | 0, l => ⟨_, fun y h => absurd h id⟩
  | n + 1, l => by
    have key : ∀ k : Nat, ∀ t : List Nat, Acc (zk_lt n) t → ∀ l : List Nat, l.headD 0 = k → l.tail = t → Acc (zk_lt (n + 1)) l := by
      intro k
      induction k using Nat.strongRecOn with
      | _ k ihk =>
        intro t ht
        induction ht with
        | intro t _ iht =>
          intro l h1 h2
          refine ⟨_, fun y hy => ?_⟩
          rcases hy with hy | ⟨e, hy⟩
          · rw [h1] at hy
            exact ihk _ hy y.tail (zk_lt_acc n _) y rfl rfl
          · rw [h2] at hy
            exact iht y.tail hy y (e.trans h1) rfl
    exact key _ _ (zk_lt_acc n _) l rfl rfl
/-- the symbols of b (read by rho) go down from those of a -/
def zk_om (rho : List Nat) : Option Nat → Option Nat | some y => some (zk_r rho y) | none => none
def zk_q1 (x : zk_S) : Option Nat → Option Nat → Int → Bool
  | some a, some b, c => zk_le x.2.2.2.1 x.2.2.2.2.1 3 a b c
  | none, none, c => zk_ile 0 c
  | none, some b, c => (match zk_lo (zk_lk x.2.2.2.1 b) with | some l => zk_ile 0 (l + c) | none => false)
  | some a, none, c => (match zk_hi (zk_lk x.2.2.2.1 a) with | some h => zk_ile h c | none => false)
theorem zk_q1_ok {KT : List zk_K} {D : zk_D} {G : Nat → Nat} {H : Heap} {v : Nat → Value} {x : zk_S} (hF : zk_F KT D G H v x) {a b : Option Nat} {c : Int} (h : zk_q1 x a b c = true) : zk_ov v a ≤ zk_ov v b + c := by
  match a, b, h with
  | some a, some b, h => exact zk_F_le (k := 3) hF h
  | none, none, h => have := (zk_ile_iff _ _).mp h; simp only [zk_ov]; omega
  | none, some b, h =>
    have h : (match zk_lo (zk_lk x.2.2.2.1 b) with | some l => zk_ile 0 (l + c) | none => false) = true := h
    cases e : zk_lo (zk_lk x.2.2.2.1 b) with
    | none => rw [e] at h; cases h
    | some l =>
      rw [e] at h
      have := (zk_ile_iff _ _).mp h
      have := zk_lo_ok (zk_F_ty hF b) e
      simp only [zk_ov]; omega
  | some a, none, h =>
    have h : (match zk_hi (zk_lk x.2.2.2.1 a) with | some h => zk_ile h c | none => false) = true := h
    cases e : zk_hi (zk_lk x.2.2.2.1 a) with
    | none => rw [e] at h; cases h
    | some l =>
      rw [e] at h
      have := (zk_ile_iff _ _).mp h
      have := zk_hi_ok (zk_F_ty hF a) e
      simp only [zk_ov]; omega
/-- b ≤ a + d -/
def zk_m1 (x : zk_S) (a b : zk_M) (rho : List Nat) (d : Int) : Bool :=
  let z := d + a.1 - b.1
  (zk_q1 x (zk_om rho b.2.1) a.2.1 0 && zk_q1 x a.2.2 (zk_om rho b.2.2) z) || (zk_q1 x (zk_om rho b.2.1) a.2.1 z && zk_q1 x a.2.2 (zk_om rho b.2.2) 0)
theorem zk_om_ov {v : Nat → Value} {rho : List Nat} (o : Option Nat) : zk_ov v (zk_om rho o) = zk_ov (fun y => v (zk_r rho y)) o := by cases o <;> rfl
theorem zk_m1_ok {KT : List zk_K} {D : zk_D} {G : Nat → Nat} {H : Heap} {v : Nat → Value} {x : zk_S} (hF : zk_F KT D G H v x) {a b : zk_M} {rho : List Nat} {d : Int} (h : zk_m1 x a b rho d = true) :
    b.1 + zk_ov (fun y => v (zk_r rho y)) b.2.1 - zk_ov (fun y => v (zk_r rho y)) b.2.2 ≤ a.1 + zk_ov v a.2.1 - zk_ov v a.2.2 + d := by
  rw [← zk_om_ov, ← zk_om_ov]
  rcases Bool.or_eq_true_iff.mp h with h | h <;> obtain ⟨h1, h2⟩ := Bool.and_eq_true_iff.mp h <;> have h1 := zk_q1_ok hF h1 <;> have h2 := zk_q1_ok hF h2 <;> omega
def zk_ml (x : zk_S) (rho : List Nat) : List zk_M → List zk_M → Bool
  | a :: as, b :: bs => (zk_m1 x a b rho (-1) && zk_q1 x a.2.2 a.2.1 (a.1 - 1)) || (zk_m1 x a b rho 0 && zk_ml x rho as bs)
  | _, _ => false
theorem zk_ml_ok {KT : List zk_K} {D : zk_D} {G : Nat → Nat} {H : Heap} {v : Nat → Value} {x : zk_S} (hF : zk_F KT D G H v x) {rho : List Nat} : ∀ {as bs : List zk_M} {n : Nat}, as.length ≤ n → zk_ml x rho as bs = true → zk_lt n (bs.map (zk_mv fun y => v (zk_r rho y))) (as.map (zk_mv v))
  | [], bs, n, hn, h => by simp [zk_ml] at h
  | a :: as, [], n, hn, h => by simp [zk_ml] at h
  | a :: as, b :: bs, 0, hn, h => by simp at hn
  | a :: as, b :: bs, n + 1, hn, h => by
    rcases Bool.or_eq_true_iff.mp h with h | h
    · obtain ⟨h1, h2⟩ := Bool.and_eq_true_iff.mp h
      have h1 := zk_m1_ok hF h1
      have h2 := zk_q1_ok hF h2
      left
      show zk_mv _ b < zk_mv v a
      unfold zk_mv; omega
    · obtain ⟨h1, h2⟩ := Bool.and_eq_true_iff.mp h
      have h1 := zk_m1_ok hF h1
      have h3 := zk_ml_ok hF (n := n) (by simpa using hn) h2
      have h4 : zk_mv (fun y => v (zk_r rho y)) b ≤ zk_mv v a := by unfold zk_mv; omega
      rcases Nat.lt_or_eq_of_le h4 with h5 | h5
      · exact Or.inl h5
      · exact Or.inr ⟨h5, h3⟩
/-- a head: its place, state, measures, what has been made till there -/
abbrev zk_Hd : Type := Nat × zk_S × List zk_M × Nat × Nat
/-- the pool: fields, allowed stores, new objects, new arrays by place, pushed constants by place, calls by place, becoming by place -/
abbrev zk_P : Type := List (Nat × Nat × Nat × Nat) × List (Nat × Nat) × List (Nat × Nat × List Nat) × List (Nat × Nat × Nat × Nat) × List (Nat × Nat × zk_T) × List (Nat × zk_C) × List (Nat × List (Nat × Option Nat))
def zk_ar (KT : List zk_K) (mc ms : Nat) (x : zk_S) (cells slots : Nat) (k d : Nat) : Option (Nat × Nat × zk_S) := match x.2.2.1 with
  | z :: r => (match (zk_kd KT k).2.2.1[0]?, (zk_kd KT k).2.2.2.2.2.1 with
      | some t, [] => bif Nat.beq (zk_kd KT k).2.2.2.2.2.2.2 0 && zk_is x z 0 && !(Nat.beq k 0) && !(Nat.beq (zk_kd KT k).1 0) && zk_dk d t && zk_ile 0 (zk_lk x.2.2.2.1 z).2.1 && zk_ile (zk_kd KT k).2.2.2.1 (zk_lk x.2.2.2.1 z).2.1 && zk_ile (zk_lk x.2.2.2.1 z).2.2 (zk_kd KT k).2.2.2.2.1 && Nat.ble (cells + 1) mc && Nat.ble (slots + (zk_lk x.2.2.2.1 z).2.2.toNat) ms then
          some (cells + 1, slots + (zk_lk x.2.2.2.1 z).2.2.toNat, (x.1 + 1, x.2.1, x.1 :: r, (x.1, 2, (k : Int), 0) :: x.2.2.2.1, x.2.2.2.2.1, x.2.2.2.2.2.1, (x.1, z) :: x.2.2.2.2.2.2.1, x.2.2.2.2.2.2.2.1, (bif Nat.beq d 0 then [(11, x.1, 0, 0)] else []) ++ x.2.2.2.2.2.2.2.2.1, some x.1)) else none
      | _, _ => none)
  | _ => none
def zk_sN (KT : List zk_K) (np : List (Nat × Nat × List Nat)) (mc ms : Nat) (x : zk_S) (cells slots pc : Nat) : Instr → Option (Nat × Nat × Nat × zk_S)
  | .new idx => (match zk_fd np idx with
      | some (k, df) => (match (zk_kd KT k).2.2.2.2.2.1 with
        | [] => bif Nat.beq (zk_kd KT k).2.2.2.2.2.2.2 0 && !(Nat.beq k 0) && Nat.beq (zk_kd KT k).1 0 && Nat.beq (zk_kd KT k).2.2.1.length df.length && (((zk_kd KT k).2.2.1.zip df).all fun q => zk_dk q.2 q.1) && Nat.ble (cells + 1) mc && Nat.ble (slots + df.length) ms then some (cells + 1, slots + df.length, pc + 3, zk_nw KT x k df) else none
        | _ => none)
      | none => none)
  | _ => none
def zk_jp (KT : List zk_K) (nP : Nat) (A : Option (List zk_M)) (cells slots : Nat) (x : zk_S) (h : zk_S × List zk_M × Nat × Nat) : Bool :=
  let rho := zk_fr h.1 x nP
  zk_ck KT h.1 x rho && zk_cl h.1 x rho nP && (match A with | none => true | some a => zk_ml x rho a h.2.1) && Nat.ble cells h.2.2.1 && Nat.ble slots h.2.2.2
/-- the first contract of a call's place that fits -/
def zk_fc1 (KT : List zk_K) (E : List (Nat × Nat)) (x : zk_S) : List (Nat × zk_C) → Nat → Option (zk_C × List zk_S)
  | [], _ => none
  | q :: r, pc => bif Nat.beq q.1 pc then (match zk_cal KT E q.2.2.2.2.1 q.2.2.2.2.2 x 0 0 q.2 with
    | some outs => some (q.2, outs)
    | none => zk_fc1 KT E x r pc) else zk_fc1 KT E x r pc
theorem zk_fc1_ok {KT : List zk_K} {E : List (Nat × Nat)} {x : zk_S} : ∀ {l : List (Nat × zk_C)} {pc : Nat} {C : zk_C} {outs : List zk_S}, zk_fc1 KT E x l pc = some (C, outs) → (pc, C) ∈ l ∧ zk_cal KT E C.2.2.2.1 C.2.2.2.2 x 0 0 C = some outs
  | [], _, _, _, h => by cases h
  | q :: r, pc, C, outs, h => by
    unfold zk_fc1 at h
    cases e : Nat.beq q.1 pc <;> rw [e] at h
    · obtain ⟨h1, h2⟩ := zk_fc1_ok h
      exact ⟨List.mem_cons_of_mem _ h1, h2⟩
    · simp only [cond_true] at h
      split at h
      · rename_i o ho
        cases h
        refine ⟨?_, ho⟩
        rw [← Nat.eq_of_beq_eq_true e]
        exact List.mem_cons_self
      · obtain ⟨h1, h2⟩ := zk_fc1_ok h
        exact ⟨List.mem_cons_of_mem _ h1, h2⟩
theorem zk_cal_room {KT : List zk_K} {E : List (Nat × Nat)} {mc ms : Nat} {x : zk_S} {cells slots : Nat} {C : zk_C} {outs : List zk_S} (h : zk_cal KT E C.2.2.2.1 C.2.2.2.2 x 0 0 C = some outs) (h1 : Nat.ble (cells + C.2.2.2.1) mc = true) (h2 : Nat.ble (slots + C.2.2.2.2) ms = true) : zk_cal KT E mc ms x cells slots C = some outs := by
  unfold zk_cal at h ⊢
  obtain ⟨e, h⟩ := zk_bs1 h
  subst h
  simp only [Bool.and_eq_true] at e
  obtain ⟨⟨e1, e2⟩, e3⟩ := e
  have : ∀ b : Bool, b = true → ∀ o : Option (List zk_S), (bif b then o else none) = o := fun b hb o => by rw [hb]; rfl
  refine this _ ?_ _
  simp only [Bool.and_eq_true]
  exact ⟨⟨e1, h1⟩, h2⟩
/-- the run from a place -/
def zk_run (KT : List zk_K) (P : zk_P) (cc : ByteArray) (nL : Nat) (C : zk_C) (rt : Option FieldType) (hd : List zk_Hd) (A : Option (List zk_M)) : Nat → Bool → Nat → Nat → Nat → zk_S → Bool
  | 0, _, _, _, _, _ => false
  | k + 1, first, cells, slots, pc, x =>
    match first, zk_fd hd pc with
    | false, some h => zk_jp KT C.1.1 A cells slots x h
    | _, _ =>
      match zk_rts KT C.2.2.1 x ((zk_fd P.2.2.2.2.2.2 pc).getD []) with
      | none => false
      | some x =>
        match zk_fd P.2.2.2.2.1 pc with
        | some (len, t) => zk_run KT P cc nL C rt hd A k false cells slots (pc + len) (zk_pu x x.2.2.1 t [] [])
        | none =>
          match zk_fc1 KT C.2.2.1 x P.2.2.2.2.2.1 pc with
          | some (Cc, outs) => Nat.ble (cells + Cc.2.2.2.1) C.2.2.2.1 && Nat.ble (slots + Cc.2.2.2.2) C.2.2.2.2 && outs.all fun o => zk_run KT P cc nL C rt hd A k false (cells + Cc.2.2.2.1) (slots + Cc.2.2.2.2) (pc + 3) o
          | none =>
            match zk_fd P.2.2.2.1 pc with
            | some (len, kk, d) => (match zk_ar KT C.2.2.2.1 C.2.2.2.2 x cells slots kk d with
              | some o => zk_run KT P cc nL C rt hd A k false o.1 o.2.1 (pc + len) o.2.2
              | none => false)
            | none =>
              match decode cc pc with
              | .error _ => false
              | .ok (ins, len) =>
                match zk_sA nL x pc ins with
                | some o => Nat.beq len (zk_lenA ins) && zk_run KT P cc nL C rt hd A k false cells slots o.1 o.2
                | none =>
                  match zk_sB x pc ins with
                  | some outs => (Nat.beq (zk_lenB ins) 0 || Nat.beq len (zk_lenB ins)) && outs.all fun o => zk_run KT P cc nL C rt hd A k false cells slots o.1 o.2
                  | none =>
                    match zk_sC KT P.1 P.2.1 C.2.2.1 x pc ins with
                    | some o => Nat.beq len (zk_lenC ins) && zk_run KT P cc nL C rt hd A k false cells slots o.1 o.2
                    | none =>
                      match zk_sN KT P.2.2.1 C.2.2.2.1 C.2.2.2.2 x cells slots pc ins with
                      | some o => Nat.beq len 3 && zk_run KT P cc nL C rt hd A k false o.1 o.2.1 o.2.2.1 o.2.2.2
                      | none => Nat.beq len 1 && Nat.ble cells C.2.2.2.1 && Nat.ble slots C.2.2.2.2 && zk_sR KT C rt x ins
section ZR
variable {p : Program} {l : Launch} {e : Env} {R : Room} {s : State} {m : MethodId} {args : Array Value} {below : List Frame} {meth : Method} {c : Code} {Q : State → Prop} {KT : List zk_K} {D : zk_D} {base : Nat} {Hb : Heap} {n0 nL : Nat} {v0 : Nat → Value} {E : List (Nat × Nat)} {G0 : Nat → Nat} {H0 : Heap} {cc : ByteArray}
variable {P : zk_P} {AT : List FieldType} {C : zk_C}
/-- a constant's site -/
def zk_kok (p : Program) (l : Launch) (e : Env) (R : Room) (s : State) (m : MethodId) (args : Array Value) (below : List Frame) (meth : Method) (c : Code) (Q : State → Prop) (KT : List zk_K) (D : zk_D) (base : Nat) (Hb : Heap) (pc len : Nat) (t : zk_T) : Prop :=
  ∃ w : Value, (∀ (G : Nat → Nat) (H : Heap), zk_hp KT D base Hb G H → zk_tv G w t) ∧ ∀ {G : Nat → Nat} {H : Heap} {locs : List Loc} {cells slots : Nat} {ls : Array Slot} {rv : List Value}, zk_hp KT D base Hb G H → W p l e R s m args below meth c H locs cells slots Q (F0 m (pc + len) ls (w :: rv)) → W p l e R s m args below meth c H locs cells slots Q (F0 m pc ls rv)
/-- a new array's site -/
def zk_nak (p : Program) (l : Launch) (e : Env) (R : Room) (s : State) (m : MethodId) (args : Array Value) (below : List Frame) (meth : Method) (c : Code) (Q : State → Prop) (D : zk_D) (pc len tag d : Nat) : Prop :=
  ∀ {H : Heap} {locs : List Loc} {cells slots : Nat} {ls : Array Slot} {rv : List Value} {w : Int32}, ¬ w < 0 → w.toNatClampNeg ≤ 1048576 → cells + 1 ≤ R.cells → slots + w.toNatClampNeg ≤ R.slots →
    (∀ (H' : Heap) (cell : Cell), H'[H.size]? = some cell → cell.cls = D.2.2.1 tag → cell.vm = .none → cell.slots.size = w.toNatClampNeg → (∀ (j : Nat) (u : Value), cell.slots[j]? = some u → u = zk_dv d) → H'.size = H.size + 1 → (∀ q : Nat, q < H.size → H'[q]? = H[q]?) →
      W p l e R s m args below meth c H' locs (cells + 1) (slots + w.toNatClampNeg) Q (F0 m (pc + len) ls (.ref H.size :: rv))) → W p l e R s m args below meth c H locs cells slots Q (F0 m pc ls (.int w :: rv))
/-- all that the pool says, in this method -/
def zk_ok (p : Program) (l : Launch) (e : Env) (R : Room) (s : State) (m : MethodId) (args : Array Value) (below : List Frame) (meth : Method) (c : Code) (Q : State → Prop) (KT : List zk_K) (D : zk_D) (base : Nat) (Hb : Heap) (nL : Nat) (cc : ByteArray) (P : zk_P) (ms : Nat) : Prop :=
  (∀ q ∈ P.1, zk_gok p l e R s m args below meth c Q D cc q.1 q.2.1 q.2.2.1 ∧ zk_pok p l e R s m args below meth c Q D cc q.1 q.2.1 q.2.2.1 q.2.2.2) ∧
  (∀ q ∈ P.2.1, zk_sok p l e R s m args below meth c Q KT D cc q.1 q.2) ∧
  (∀ q ∈ P.2.2.1, zk_nok p l e R s m args below meth c Q D cc q.1 (zk_kd KT q.2.1).2.1 q.2.2) ∧
  (∀ q ∈ P.2.2.2.1, zk_nak p l e R s m args below meth c Q D q.1 q.2.1 (zk_kd KT q.2.2.1).2.1 q.2.2.2) ∧ (P.2.2.2.1 ≠ [] → ms ≤ 1048576) ∧
  (∀ q ∈ P.2.2.2.2.1, zk_kok p l e R s m args below meth c Q KT D base Hb q.1 q.2.1 q.2.2) ∧
  (∀ q ∈ P.2.2.2.2.2.1, ∃ ins, decode cc q.1 = .ok (ins, 3) ∧ zk_cok p l e R s m args below meth c Q KT D base Hb nL cc ins q.2)
/-- what the kinds and the arrays' tags must keep, in this state -/
def zk_wd (s : State) (KT : List zk_K) (D : zk_D) (AT : List FieldType) : Prop :=
  zk_kt KT ∧ zk_dj KT D ∧ (∀ (tag : Nat) (ty : FieldType), AT[tag]? = some ty → ArrOfT s (D.2.2.1 tag) ty) ∧ AT[0]? = some .int ∧ AT[1]? = some .long ∧ AT[2]? = some .boolean ∧ AT[3]? = some .char ∧ AT[4]? = some .byte ∧ AT[5]? = some .int ∧ (∀ g, zk_tgb g = true → AT[g]? = some .byte) ∧ (∀ tag : Nat, 10 ≤ tag → ∀ ty, AT[tag]? = some ty → ty.isReference = true) ∧ (∀ k, (zk_kd KT k).1 ≠ 0 → ∃ ty, AT[(zk_kd KT k).2.1]? = some ty)
set_option maxHeartbeats 4000000 in
theorem zk_run_ok (hx : p.tables.exec = Jvm.exec) (hb : c.code = cc) {rt : Option FieldType} {hd : List zk_Hd} {A : Option (List zk_M)} {vP : Nat → Value} {B : List Nat} {N : Nat} (hw : zk_wd s KT D AT) (hok : zk_ok p l e R s m args below meth c Q KT D base Hb nL cc P C.2.2.2.2) (hR1 : R.cells = C.2.2.2.1) (hR2 : R.slots = C.2.2.2.2) (hn : C.1.1 ≤ n0) (hv : ∀ y, y < C.1.1 → v0 y = vP y) (hE : C.2.2.1 = E) (hr : meth.sig.returnType = rt) (hlocks : meth.locks = false) (hQ : ∀ t : State, MQ below (zk_Qf KT D base Hb C vP G0 H0) args s C.2.2.2.1 C.2.2.2.2 (fun q => base ≤ q) t → Q t)
    (hA : ∀ a, A = some a → a.length ≤ N ∧ (∀ v : Nat → Value, (∀ y, y < n0 → v y = v0 y) → a.map (zk_mv v) = B))
    (hJ : ∀ q ∈ hd, ∀ (G : Nat → Nat) (H : Heap) (locs : List Loc) (ls : Array Slot) (vs : List Value) (v' : Nat → Value), zk_hp KT D base Hb G H → zk_ev KT D E G0 H0 G H → (∀ z ∈ locs, base ≤ z.base) → zk_F KT D G H v' q.2.1 → zk_LS C.1.1 vP nL ls vs v' q.2.1 → (A = none ∨ zk_lt N (q.2.2.1.map (zk_mv v')) B) → W p l e R s m args below meth c H locs q.2.2.2.1 q.2.2.2.2 Q (F0 m q.1 ls vs)) :
    ∀ (k : Nat) (first : Bool) (cells slots pc : Nat) (x : zk_S), zk_run KT P cc nL C rt hd A k first cells slots pc x = true → zk_G p l e R s m args below meth c Q KT D base Hb n0 nL v0 E G0 H0 cells slots pc x := by
  obtain ⟨hkt, hdj, hA1, hT0, hT1, hT2, hT3, hT4, hTi, hTb, hT5, hTk⟩ := hw
  obtain ⟨ok1, ok2, ok3, ok4, ok4b, ok5, ok6⟩ := hok
  intro k
  induction k with
  | zero => intro first cells slots pc x h; simp [zk_run] at h
  | succ k ih =>
    intro first cells slots pc x h
    unfold zk_run at h
    split at h
    · rename_i hq
      have hmem := zk_fd_ok hq
      rename_i hh _
      unfold zk_jp at h
      simp only [Bool.and_eq_true] at h
      obtain ⟨⟨⟨⟨c1, c2⟩, c3⟩, c4⟩, c5⟩ := h
      intro G H locs ls vs v hp he hl hF hL
      refine W.widen (by simpa using c4) (by simpa using c5) (hJ _ hmem G H locs ls vs _ hp he hl (zk_ck_ok hp hF c1) (zk_cl_ok hF (zk_LS_weak hL hn hv) c2) ?_)
      cases hAe : A with
      | none => exact Or.inl rfl
      | some a =>
        right
        rw [hAe] at c3
        obtain ⟨a1, a2⟩ := hA a hAe
        have hpre : ∀ y, y < n0 → v y = v0 y := by
          obtain ⟨n', loc', stk', rest'⟩ := x
          exact hL.2.1
        rw [← a2 v hpre]
        exact zk_ml_ok hF a1 c3
    · split at h
      · cases h
      · rename_i x1 hx1
        refine zt_rts hkt (by rw [hE] at hx1; exact hx1) ?_
        split at h
        · rename_i len t hs
          obtain ⟨w, w1, w2⟩ := ok5 _ (zk_fd_ok hs)
          intro G H locs ls vs v hp he hl hF hL
          obtain ⟨q1, hlt⟩ := zk_LS_stk hL
          subst q1
          exact w2 hp (ih _ _ _ _ _ h G H locs ls _ _ hp he hl (zk_F_up hF (w1 G H hp) (fun q hq => by simp at hq) (fun q hq => by simp at hq)) (zk_LS_up hL hlt))
        · split at h
          · rename_i Cc outs hs
            obtain ⟨hs, ho⟩ := zk_fc1_ok hs
            simp only [Bool.and_eq_true] at h
            obtain ⟨⟨r1, r2⟩, h⟩ := h
            obtain ⟨ins, i1, i2⟩ := ok6 _ hs
            have ho := zk_cal_room ho r1 r2
            exact zt_cal hkt hR1 hR2 i2 i1 (by rw [hE] at ho; exact ho) (fun o hm => ih _ _ _ _ _ (List.all_eq_true.mp h o hm))
          · split at h
            · rename_i len kk d hs
              split at h
              · rename_i o ho
                have row : zk_nak p l e R s m args below meth c Q D pc len (zk_kd KT kk).2.1 d := ok4 _ (zk_fd_ok hs)
                unfold zk_ar at ho
                split at ho
                · rename_i z r hst
                  split at ho
                  · rename_i t ht hni
                    obtain ⟨e, ho⟩ := zk_bs1 ho
                    subst ho
                    simp only [Bool.and_eq_true] at e
                    obtain ⟨⟨⟨⟨⟨⟨⟨⟨⟨c0, c1⟩, c2⟩, c3⟩, c4⟩, c5⟩, c6⟩, c7⟩, c8⟩, c9⟩ := e
                    have c8 : cells + 1 ≤ C.2.2.2.1 := by simpa using c8
                    have c9 : slots + (zk_lk x1.2.2.2.1 z).2.2.toNat ≤ C.2.2.2.2 := by simpa using c9
                    have ok4b := ok4b (fun e => by rw [e] at hs; cases hs)
                    exact zs_newa (k := kk) (d := d) hkt (Nat.eq_of_beq_eq_true c0) hst (zk_is_eq c1) (zk_bne c2) (zk_bne c3) rfl hni ht c4 ((zk_ile_iff _ _).mp c5) ((zk_ile_iff _ _).mp c6) ((zk_ile_iff _ _).mp c7) (by rw [hR1]; exact c8) (by rw [hR2]; exact c9) (fun h0 h1 h2 k => row h0 (by omega) (by rw [hR1]; exact c8) h2 k) (ih _ _ _ _ _ h)
                  · cases ho
                · cases ho
              · cases h
            · split at h
              · cases h
              · rename_i ins len hdg
                split at h
                · rename_i o ho
                  obtain ⟨l1, l2⟩ := Bool.and_eq_true_iff.mp h
                  exact zt_A hx hb ho (Nat.eq_of_beq_eq_true l1) hdg (ih _ _ _ _ _ l2)
                · split at h
                  · rename_i outs ho
                    obtain ⟨l1, l2⟩ := Bool.and_eq_true_iff.mp h
                    refine zt_B hx hb ho (fun hne => ?_) hdg (fun o hm => ih _ _ _ _ _ (List.all_eq_true.mp l2 o hm))
                    rcases Bool.or_eq_true_iff.mp l1 with q | q
                    · exact absurd (Nat.eq_of_beq_eq_true q) hne
                    · exact Nat.eq_of_beq_eq_true q
                  · split at h
                    · rename_i o ho
                      obtain ⟨l1, l2⟩ := Bool.and_eq_true_iff.mp h
                      exact zt_C hx hb hkt hdj hA1 hT0 hT1 hT2 hT3 hT4 hTi hTb hT5 hTk ok1 ok2 (fun tag ⟨k, k1, k2⟩ => by rw [← k2]; exact hTk k k1) (by rw [hE] at ho; exact ho) (Nat.eq_of_beq_eq_true l1) hdg (ih _ _ _ _ _ l2)
                    · split at h
                      · rename_i o ho
                        obtain ⟨l1, l2⟩ := Bool.and_eq_true_iff.mp h
                        have l1 := Nat.eq_of_beq_eq_true l1
                        subst l1
                        unfold zk_sN at ho
                        split at ho
                        · rename_i idx
                          split at ho
                          · rename_i k' df hfd
                            split at ho
                            · rename_i hni
                              obtain ⟨e, ho⟩ := zk_bs1 ho
                              subst ho
                              simp only [Bool.and_eq_true] at e
                              obtain ⟨⟨⟨⟨⟨⟨c0, c1⟩, c2⟩, c3⟩, c4⟩, c5⟩, c6⟩ := e
                              exact zs_new hkt (Nat.eq_of_beq_eq_true c0) (ok3 _ (zk_fd_ok hfd)) (zk_bne c1) (Nat.eq_of_beq_eq_true c2) rfl hni (Nat.eq_of_beq_eq_true c3) c4 (by rw [hR1]; simpa using c5) (by rw [hR2]; simpa using c6) hdg (ih _ _ _ _ _ l2)
                            · cases ho
                          · cases ho
                        · cases ho
                      · simp only [Bool.and_eq_true] at h
                        obtain ⟨⟨⟨l1, l2⟩, l3⟩, l4⟩ := h
                        have l1 := Nat.eq_of_beq_eq_true l1
                        subst l1
                        exact zt_R hx hb hn hv hE hr hlocks hQ (by simpa using l2) (by simpa using l3) l4 hdg
/-- the locals with which a method begins -/
def zk_l0 (tys : List (Nat × zk_T)) : Nat → List Nat → List (Nat × Nat)
  | _, [] => []
  | i, y :: r => (i, y) :: zk_l0 tys (bif Nat.beq (zk_lk tys y).1 1 then i + 2 else i + 1) r
def zk_x0 (C : zk_C) : zk_S := (C.1.1, zk_l0 C.1.2.2.2.1 0 C.1.2.2.1, [], C.1.2.2.2)
theorem zk_l0_ok {KT : List zk_K} {D : zk_D} {G : Nat → Nat} {H : Heap} {v : Nat → Value} {x : zk_S} (hF : zk_F KT D G H v x) : ∀ (i : Nat) (ys : List Nat), (∀ y ∈ ys, Nat.beq (zk_lk x.2.2.2.1 y).1 0 || Nat.beq (zk_lk x.2.2.2.1 y).1 2 || Nat.beq (zk_lk x.2.2.2.1 y).1 1) → (zk_l0 x.2.2.2.1 i ys).map (fun q => (q.1, v q.2)) = lv_args i (ys.map v) ∧ ∀ q ∈ zk_l0 x.2.2.2.1 i ys, q.2 ∈ ys
  | _, [], _ => ⟨rfl, fun q hq => by simp [zk_l0] at hq⟩
  | i, y :: r, h => by
    have hy := h y List.mem_cons_self
    have hcat : (if (v y).category = 2 then i + 2 else i + 1) = (bif Nat.beq (zk_lk x.2.2.2.1 y).1 1 then i + 2 else i + 1) := by
      cases e : Nat.beq (zk_lk x.2.2.2.1 y).1 1
      · rw [e] at hy
        have : (v y).category = 1 := zk_cat (zk_F_ty hF y) (by simpa using hy)
        rw [this]; rfl
      · obtain ⟨a, ea, -⟩ := zk_gl (zk_F_ty hF y) (Nat.eq_of_beq_eq_true e)
        rw [ea]; rfl
    obtain ⟨i1, i2⟩ := zk_l0_ok hF (bif Nat.beq (zk_lk x.2.2.2.1 y).1 1 then i + 2 else i + 1) r (fun z hz => h z (List.mem_cons_of_mem _ hz))
    refine ⟨?_, fun q hq => ?_⟩
    · show (i, v y) :: _ = (i, v y) :: lv_args (if (v y).category = 2 then i + 2 else i + 1) (r.map v)
      rw [hcat, ← i1]
    · rcases List.mem_cons.mp hq with rfl | hq
      · exact List.mem_cons_self
      · exact List.mem_cons_of_mem _ (i2 q hq)
/-- all that is to be decided for a method -/
def zk_chk (KT : List zk_K) (P : zk_P) (cc : ByteArray) (nL : Nat) (C : zk_C) (rt : Option FieldType) (hd xs : List zk_Hd) (fuel N : Nat) : Bool :=
  (C.1.2.2.1.all fun y => Nat.blt y C.1.1 && (Nat.beq (zk_lk C.1.2.2.2.1 y).1 0 || Nat.beq (zk_lk C.1.2.2.2.1 y).1 2 || Nat.beq (zk_lk C.1.2.2.2.1 y).1 1)) &&
  Nat.ble ((C.1.2.2.1.map fun y => bif Nat.beq (zk_lk C.1.2.2.2.1 y).1 1 then 2 else 1).sum) nL &&
  zk_run KT P cc nL C rt (hd ++ xs) none fuel false 0 0 0 (zk_x0 C) &&
  hd.all fun q => Nat.ble q.2.2.1.length N && (q.2.2.1.all fun z => (match z.2.1 with | some y => Nat.blt y q.2.1.1 | none => true) && (match z.2.2 with | some y => Nat.blt y q.2.1.1 | none => true)) && Nat.ble C.1.1 q.2.1.1 && zk_run KT P cc nL C rt (hd ++ xs) (some q.2.2.1) fuel true q.2.2.2.1 q.2.2.2.2 q.1 q.2.1
end ZR
end
