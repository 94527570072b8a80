/-! ENGINE, 14: contracts of methods, and calls by them -/
noncomputable section
theorem zk_sl_len {KT : List zk_K} {D : zk_D} {G : Nat → Nat} {H : Heap} {v : Nat → Value} {x : zk_S} (hF : zk_F KT D G H v x) : ∀ (ys : List Nat), (∀ y ∈ ys, Nat.beq (zk_lk x.2.2.2.1 y).1 0 || Nat.beq (zk_lk x.2.2.2.1 y).1 2 || Nat.beq (zk_lk x.2.2.2.1 y).1 1) → (lg_sl (ys.map v)).length = (ys.map fun y => bif Nat.beq (zk_lk x.2.2.2.1 y).1 1 then 2 else 1).sum
  | [], _ => rfl
  | y :: r, h => by
    have hy := h y List.mem_cons_self
    have ih := zk_sl_len hF r (fun z hz => h z (List.mem_cons_of_mem _ hz))
    have hcat : (if (v y).category = 2 then [Slot.val (v y), Slot.second] else [Slot.val (v y)]).length = (bif Nat.beq (zk_lk x.2.2.2.1 y).1 1 then 2 else 1) := by
      cases e : Nat.beq (zk_lk x.2.2.2.1 y).1 1
      · rw [e] at hy
        have : (v y).category = 1 := zk_cat (zk_F_ty hF y) (by simpa using hy)
        rw [this]; rfl
      · obtain ⟨a, ea, -⟩ := zk_gl (zk_F_ty hF y) (Nat.eq_of_beq_eq_true e)
        rw [ea]; rfl
    rw [List.map_cons, List.map_cons, List.sum_cons, ← ih, ← hcat]
    unfold lg_sl
    rw [List.flatMap_cons, List.length_append]
theorem zk_mv_eq {v v' : Nat → Value} {n : Nat} {q : zk_M} (h : ((match q.2.1 with | some y => Nat.blt y n | none => true) && (match q.2.2 with | some y => Nat.blt y n | none => true)) = true) (hv : ∀ y, y < n → v' y = v y) : zk_mv v' q = zk_mv v q := by
  obtain ⟨c, a, b⟩ := q
  obtain ⟨h1, h2⟩ := Bool.and_eq_true_iff.mp h
  unfold zk_mv
  have e1 : zk_ov v' a = zk_ov v a := by
    cases a with
    | none => rfl
    | some y => simp only [zk_ov]; rw [hv y (by simpa using h1)]
  have e2 : zk_ov v' b = zk_ov v b := by
    cases b with
    | none => rfl
    | some y => simp only [zk_ov]; rw [hv y (by simpa using h2)]
  simp only [e1, e2]
section ZM
variable {p : Program} {l : Launch} {e : Env} {R : Room} {s : State} {m : MethodId} {args : Array Value} {below : List Frame} {meth : Method} {c : Code} {Q : State → Prop} {KT : List zk_K} {D : zk_D} {base : Nat} {Hb : Heap} {n0 nL : Nat} {v0 : Nat → Value} {E : List (Nat × Nat)} {G0 : Nat → Nat} {H0 : Heap} {cc : ByteArray}
variable {P : zk_P} {AT : List FieldType} {C : zk_C}
set_option maxHeartbeats 4000000 in
theorem zk_whole (hx : p.tables.exec = Jvm.exec) (hb : c.code = cc) {rt : Option FieldType} {hd xs : List zk_Hd} {fuel N : Nat} {v : Nat → Value} (hw : zk_wd s KT D AT) (hok : zk_ok p l e R s m args below meth c Q KT D base Hb nL cc P C.2.2.2.2) (hR1 : R.cells = C.2.2.2.1) (hR2 : R.slots = C.2.2.2.2) (hr : meth.sig.returnType = rt) (hlocks : meth.locks = false) (hQ : ∀ t : State, MQ below (zk_Qf KT D base Hb C v G0 H0) args s C.2.2.2.1 C.2.2.2.2 (fun q => base ≤ q) t → Q t)
    (hchk : zk_chk KT P cc nL C rt hd xs fuel N = true) (hX : ∀ q ∈ xs, ∀ (G : Nat → Nat) (H : Heap) (locs : List Loc) (ls : Array Slot) (vs : List Value) (v' : Nat → Value), zk_hp KT D base Hb G H → zk_ev KT D C.2.2.1 G0 H0 G H → (∀ z ∈ locs, base ≤ z.base) → zk_F KT D G H v' q.2.1 → zk_LS C.1.1 v nL ls vs v' q.2.1 → W p l e R s m args below meth c H locs q.2.2.2.1 q.2.2.2.2 Q (F0 m q.1 ls vs)) (hp : zk_hp KT D base Hb G0 H0) (hF : zk_F KT D G0 H0 v C.1) : W p l e R s m args below meth c H0 [] 0 0 Q (entryFrame m (C.1.2.2.1.map v).toArray nL) := by
  unfold zk_chk at hchk
  simp only [Bool.and_eq_true, List.all_eq_true] at hchk
  obtain ⟨⟨⟨k1, k2⟩, k3⟩, k4⟩ := hchk
  have heads : ∀ b : List Nat, ∀ q ∈ hd ++ xs, ∀ (G : Nat → Nat) (H : Heap) (locs : List Loc) (ls : Array Slot) (vs : List Value) (v' : Nat → Value), zk_hp KT D base Hb G H → zk_ev KT D C.2.2.1 G0 H0 G H → (∀ z ∈ locs, base ≤ z.base) → zk_F KT D G H v' q.2.1 → zk_LS C.1.1 v nL ls vs v' q.2.1 → q.2.2.1.map (zk_mv v') = b → W p l e R s m args below meth c H locs q.2.2.2.1 q.2.2.2.2 Q (F0 m q.1 ls vs) := by
    intro b
    induction zk_lt_acc N b with
    | intro b _ ih =>
      intro q hq G H locs ls vs v' hp' he' hl' hF' hL' hb'
      rcases List.mem_append.mp hq with hq | hq
      case inr => exact hX q hq G H locs ls vs v' hp' he' hl' hF' hL'
      obtain ⟨⟨⟨j1, j2⟩, j3⟩, j4⟩ := k4 q hq
      have j3 : C.1.1 ≤ q.2.1.1 := by simpa using j3
      have hLn : zk_LS q.2.1.1 v' nL ls vs v' q.2.1 := by
        obtain ⟨pq, ⟨n, loc, stk, rest⟩, rq⟩ := q
        exact ⟨Nat.le_refl _, fun _ _ => rfl, hL'.2.2⟩
      have hvp : ∀ y, y < C.1.1 → v' y = v y := by
        obtain ⟨pq, ⟨n, loc, stk, rest⟩, rq⟩ := q
        exact hL'.2.1
      exact zk_run_ok (n0 := q.2.1.1) (v0 := v') (vP := v) (A := some q.2.2.1) (B := b) (N := N) (E := C.2.2.1) (G0 := G0) (H0 := H0) hx hb hw hok hR1 hR2 j3 hvp rfl hr hlocks hQ
        (fun a ha => by
          cases ha
          refine ⟨by simpa using j1, fun v'' hv'' => ?_⟩
          rw [← hb']
          exact List.map_congr_left fun z hz => zk_mv_eq (by rw [Bool.and_eq_true]; exact j2 z hz) hv'')
        (fun q' hq' G' H' locs' ls' vs' v'' a1 a2 a3 a4 a5 a6 => by
          rcases a6 with a6 | a6
          · cases a6
          · exact ih _ a6 q' hq' G' H' locs' ls' vs' v'' a1 a2 a3 a4 a5 rfl)
        fuel true _ _ _ _ j4 G H locs ls vs v' hp' he' hl' hF' hLn
  have hargs : ∀ y ∈ C.1.2.2.1, Nat.beq (zk_lk C.1.2.2.2.1 y).1 0 || Nat.beq (zk_lk C.1.2.2.2.1 y).1 2 || Nat.beq (zk_lk C.1.2.2.2.1 y).1 1 := fun y hy => by
    have := (k1 y hy).2
    exact this
  have hlen : (lg_sl (C.1.2.2.1.map v)).length ≤ nL := by
    rw [zk_sl_len hF _ hargs]; simpa using k2
  rw [lg_entry_eq]
  have hl0 := lv_entry (C.1.2.2.1.map v) hlen
  obtain ⟨l1, l2⟩ := zk_l0_ok hF 0 C.1.2.2.1 hargs
  refine zk_run_ok (n0 := C.1.1) (v0 := v) (vP := v) (A := none) (B := []) (N := N) (E := C.2.2.1) (G0 := G0) (H0 := H0) hx hb hw hok hR1 hR2 (Nat.le_refl _) (fun _ _ => rfl) rfl hr hlocks hQ (fun a ha => by cases ha)
    (fun q' hq' G' H' locs' ls' vs' v'' a1 a2 a3 a4 a5 _ => heads _ q' hq' G' H' locs' ls' vs' v'' a1 a2 a3 a4 a5 rfl)
    fuel false 0 0 0 (zk_x0 C) k3 G0 H0 [] _ _ v hp zk_ev_rf (fun q hq => by cases hq) ?_ ?_
  · unfold zk_x0
    obtain ⟨⟨n, loc, stk, tys, rel, fld, len, pf, msc, la⟩, rC⟩ := C
    exact hF
  · unfold zk_x0
    refine ⟨Nat.le_refl _, fun _ _ => rfl, ?_, fun q hq => ?_, rfl, fun y hy => by cases hy⟩
    · rw [l1]; exact hl0
    · have := (k1 _ (l2 q hq)).1
      simpa using this
end ZM
/-- a contract's start: the arguments, the heap, what is known of the tables -/
def zk_Pc (C : zk_C) (v : Nat → Value) (H : Heap) (K : State → Prop) : Array Value → State → Prop := fun a U => a = (C.1.2.2.1.map v).toArray ∧ U.heap = H ∧ K U
def zk_Km (K : State → Prop) : Prop := (∀ (U : State) (g : JFrame) (mk : MethodId) (a : Array Value), K U → K (U.calling g mk a)) ∧ ∀ s U : State, s.WarmedH U.vm → K s → K U
/-- the method y keeps the contract C -/
def zk_Met (l : Launch) (KT : List zk_K) (D : zk_D) (base : Nat) (Hb : Heap) (K : State → Prop) (y : MethodName) (ws : List Jvm.Cond) (rm : Room) (C : zk_C) : Prop :=
  rm.cells = C.2.2.2.1 ∧ rm.slots = C.2.2.2.2 ∧ ∀ (v : Nat → Value) (G : Nat → Nat) (H : Heap), zk_hp KT D base Hb G H → zk_F KT D G H v C.1 → Met l y ws rm (zk_Pc C v H K) (zk_Qf KT D base Hb C v G H) C.2.2.2.1 C.2.2.2.2 (fun q => base ≤ q)
theorem zk_met {l : Launch} {KT : List zk_K} {D : zk_D} {base : Nat} {Hb : Heap} {K : State → Prop} {y : MethodName} {ws ws' : List Jvm.Cond} {rm : Room} {C : zk_C} {cc : ByteArray} {nL : Nat} {rt : Option FieldType} {P : zk_P} {AT : List FieldType} {hd xs : List zk_Hd} {fuel N : Nat}
    (hy : plainName y.cls = true) (hws : ws = Jvm.Cond.code y cc nL rt :: ws') (hrm1 : rm.cells = C.2.2.2.1) (hrm2 : rm.slots = C.2.2.2.2) (hchk : zk_chk KT P cc nL C rt hd xs fuel N = true) (hwd : ∀ s : State, K s → zk_wd s KT D AT)
    (hok : ∀ (p : Program) (e : Env) (s : State) (m : MethodId) (args : Array Value) (below : List Frame) (meth : Method) (c : Code) (s₁ : State) (Q : State → Prop), BodyLoose p l y (headSpec ws rm) cc nL rt e s m args below meth c s₁ → c.maxLocals = nL → K s → zk_ok p l e (headSpec ws rm).room s m args below meth c Q KT D base Hb nL cc P C.2.2.2.2)
    (hX : ∀ (p : Program) (e : Env) (s : State) (m : MethodId) (args : Array Value) (below : List Frame) (meth : Method) (c : Code) (s₁ : State) (v : Nat → Value) (G0 : Nat → Nat) (H0 : Heap), BodyLoose p l y (headSpec ws rm) cc nL rt e s m args below meth c s₁ → c.maxLocals = nL → K s → args = (C.1.2.2.1.map v).toArray → zk_hp KT D base Hb G0 H0 → zk_F KT D G0 H0 v C.1 → ∀ q ∈ xs, ∀ (G : Nat → Nat) (H : Heap) (locs : List Loc) (ls : Array Slot) (vs : List Value) (v' : Nat → Value), zk_hp KT D base Hb G H → zk_ev KT D C.2.2.1 G0 H0 G H → (∀ z ∈ locs, base ≤ z.base) → zk_F KT D G H v' q.2.1 → zk_LS C.1.1 v nL ls vs v' q.2.1 → W p l e (headSpec ws rm).room s m args below meth c H locs q.2.2.2.1 q.2.2.2.2 (MQ below (zk_Qf KT D base Hb C v G0 H0) args s C.2.2.2.1 C.2.2.2.2 (fun q => base ≤ q)) (F0 m q.1 ls vs)) : zk_Met l KT D base Hb K y ws rm C := by
  refine ⟨hrm1, hrm2, fun v G H hp hF => ?_⟩
  refine Met.ofW (cc := cc) (maxL := nL) (ret := rt) hy hws ?_
  intro p e s m args below meth c s₁ B hml hv
  obtain ⟨ha, hh, hK⟩ := hv
  have := zk_whole (G0 := G) (H0 := H) (v := v) (Q := MQ below (zk_Qf KT D base Hb C v G H) args s C.2.2.2.1 C.2.2.2.2 (fun q => base ≤ q)) B.exec B.bytes (hwd s hK) (hok p e s m args below meth c s₁ _ B hml hK) hrm1 hrm2 B.returns B.notSynchronized (fun t h => h) hchk (hX p e s m args below meth c s₁ v G H B hml hK ha hp hF) hp hF
  rw [hh, ha] at *
  exact this
section ZI
variable {p : Program} {l : Launch} {e : Env} {R : Room} {s : State} {m : MethodId} {args : Array Value} {below : List Frame} {meth : Method} {c : Code} {Q : State → Prop} {KT : List zk_K} {D : zk_D} {base : Nat} {Hb : Heap} {n0 nL : Nat} {v0 : Nat → Value} {E : List (Nat × Nat)} {G0 : Nat → Nat} {H0 : Heap} {cc : ByteArray}
theorem zk_go {C : zk_C} {v : Nat → Value} {G : Nat → Nat} {H : Heap} {locs : List Loc} {cells slots pc : Nat} {ls : Array Slot} {st0 rest : List Value} {a : Array Value} (hr : va_Run p l e R s m args below meth c H locs cells slots C.2.2.2.1 C.2.2.2.2 (F0 m pc ls st0) rest (zk_Qf KT D base Hb C v G H a) (fun q => base ≤ q)) (hl : ∀ q ∈ locs, base ≤ q.base)
    (kk : ∀ (o : Option Value) (H' : Heap) (locs' : List Loc), zk_Qc KT D base Hb C v G H o H' → (∀ q ∈ locs', base ≤ q.base) → W p l e R s m args below meth c H' locs' (cells + C.2.2.2.1) (slots + C.2.2.2.2) Q (F0 m (pc + 3) ls (o.toList ++ rest))) : W p l e R s m args below meth c H locs cells slots Q (F0 m pc ls st0) := by
  intro T hT X
  obtain ⟨w, st₀, t, T', L, h0, X', hL, e1, e2, ⟨ov, hv, hq⟩, st⟩ := hr T hT X
  cases hv
  obtain ⟨t2, a1, b1⟩ := kk w T'.heap (locs ++ L) (by rw [e1]; exact hq) (fun q hq' => (List.mem_append.mp hq').elim (hl q) (hL q)) T' rfl X'
  exact ⟨t2, st t2 a1, b1⟩
theorem zk_blind {C : zk_C} {v : Nat → Value} {H : Heap} {K : State → Prop} (hKm : zk_Km K) : FrameBlind (zk_Pc C v H K) := fun a U g mk h => ⟨h.1, h.2.1, hKm.1 U g mk a h.2.2⟩
variable {K : State → Prop} {y : MethodName} {ws : List Jvm.Cond} {rm : Room} {C : zk_C} {bytes : ByteArray} {maxL n index : Nat} {ret : Option FieldType} {own Cn host : String} {Ts : List Jvm.Cond} {y0 : Nat} {ys : List Nat}
theorem zk_cokV (hx : p.tables.exec = Jvm.exec) (hb : c.code = cc) (hml : c.maxLocals = nL) (hown : s.vm.findClass own = some m.cls) (hts : ∀ w ∈ Ts, w.before args s = true) (hK : K s) (hKm : zk_Km K) (hM : zk_Met l KT D base Hb K y ws rm C) (cw : CallW R s args own Cn index y bytes maxL ret ws rm C.2.2.2.1 C.2.2.2.2 n) (hst : C.1.2.2.1 = y0 :: ys) (hn : ys.length = n) (h1 : (zk_lk C.1.2.2.2.1 y0).1 = 2) (h2 : (zk_lk C.1.2.2.2.1 y0).2.2 = 0) (h3 : (zk_kd KT (zk_lk C.1.2.2.2.1 y0).2.1.toNat).1 = 0) (h4 : s.vm.findClass Cn = some (D.1 (zk_kd KT (zk_lk C.1.2.2.2.1 y0).2.1.toNat).2.1)) : zk_cok p l e R s m args below meth c Q KT D base Hb nL cc (.invokevirtual index) C := by
  intro G H v locs cells slots pc ls rv hp hF hl hc hs hcat hsz hdg kk
  obtain ⟨b, eb, gb, gb0⟩ := zk_gr (zk_F_ty hF y0) h1 h2
  obtain ⟨-, cell, k1, k2, -⟩ := hp.2.2 b gb0
  have hsort : (zk_kd KT (G b)).1 = 0 := by rw [gb]; exact h3
  have hcls := (k2.2.1 hsort).1
  rw [gb] at hcls
  have hst2 : (C.1.2.2.1.map v).reverse ++ rv = (ys.map v).reverse ++ .ref b :: rv := by
    rw [hst, List.map_cons, eb]; simp
  rw [hst2]
  exact zk_go (va_runV (As := ys.map v) (rest := rv) ⟨hx, hb, hml, hown, hts⟩ (hM.2.2 v G H hp hF) cw ⟨zk_blind hKm, ⟨cell, k1, k2.1.1.2, by rw [h4, hcls]⟩, fun U hU hW => ⟨by rw [hst, List.map_cons, eb], hU, hKm.2 s U hW hK⟩⟩ rfl (by rw [List.length_map]; exact hn) hsz rfl (lv_room hcat) hdg ⟨hc, hs⟩) hl kk
theorem zk_cokVN (hx : p.tables.exec = Jvm.exec) (hb : c.code = cc) (hml : c.maxLocals = nL) (hown : s.vm.findClass own = some m.cls) (hts : ∀ w ∈ Ts, w.before args s = true) (hK : K s) (hKm : zk_Km K) (hM : zk_Met l KT D base Hb K y ws rm C) (cw : va_CN R s args own index y host bytes maxL ret ws rm C.2.2.2.1 C.2.2.2.2 n ∧ (Jvm.Cond.instanceMethod y).before args s = true ∧ (Jvm.Cond.selects Cn y y).before args s = true) (hst : C.1.2.2.1 = y0 :: ys) (hn : ys.length = n) (h1 : (zk_lk C.1.2.2.2.1 y0).1 = 2) (h2 : (zk_lk C.1.2.2.2.1 y0).2.2 = 0) (h3 : (zk_kd KT (zk_lk C.1.2.2.2.1 y0).2.1.toNat).1 = 0) (h4 : s.vm.findClass Cn = some (D.1 (zk_kd KT (zk_lk C.1.2.2.2.1 y0).2.1.toNat).2.1)) : zk_cok p l e R s m args below meth c Q KT D base Hb nL cc (.invokevirtual index) C := by
  intro G H v locs cells slots pc ls rv hp hF hl hc hs hcat hsz hdg kk
  obtain ⟨b, eb, gb, gb0⟩ := zk_gr (zk_F_ty hF y0) h1 h2
  obtain ⟨-, cell, k1, k2, -⟩ := hp.2.2 b gb0
  have hsort : (zk_kd KT (G b)).1 = 0 := by rw [gb]; exact h3
  have hcls := (k2.2.1 hsort).1
  rw [gb] at hcls
  have hst2 : (C.1.2.2.1.map v).reverse ++ rv = (ys.map v).reverse ++ .ref b :: rv := by
    rw [hst, List.map_cons, eb]; simp
  rw [hst2]
  exact zk_go (va_runVN (As := ys.map v) (rest := rv) ⟨hx, hb, hml, hown, hts⟩ (hM.2.2 v G H hp hF) cw ⟨zk_blind hKm, ⟨cell, k1, k2.1.1.2, by rw [h4, hcls]⟩, fun U hU hW => ⟨by rw [hst, List.map_cons, eb], hU, hKm.2 s U hW hK⟩⟩ rfl (by rw [List.length_map]; exact hn) hsz rfl (lv_room hcat) hdg ⟨hc, hs⟩) hl kk
theorem zk_cokS (hx : p.tables.exec = Jvm.exec) (hb : c.code = cc) (hml : c.maxLocals = nL) (hown : s.vm.findClass own = some m.cls) (hts : ∀ w ∈ Ts, w.before args s = true) (hK : K s) (hKm : zk_Km K) (hM : zk_Met l KT D base Hb K y ws rm C) (cw : CallB R s args own index y bytes maxL ret ws rm C.2.2.2.1 C.2.2.2.2 n ∧ (Jvm.Cond.static y).before args s = true) (hn : C.1.2.2.1.length = n) : zk_cok p l e R s m args below meth c Q KT D base Hb nL cc (.invokestatic index) C := by
  intro G H v locs cells slots pc ls rv hp hF hl hc hs hcat hsz hdg kk
  exact zk_go (va_runS (As := C.1.2.2.1.map v) (rest := rv) ⟨hx, hb, hml, hown, hts⟩ (hM.2.2 v G H hp hF) cw ⟨zk_blind hKm, fun U hU hW => ⟨rfl, hU, hKm.2 s U hW hK⟩⟩ rfl (by rw [List.length_map]; exact hn) hsz rfl (lv_room hcat) hdg ⟨hc, hs⟩) hl kk
theorem zk_cokSN (hx : p.tables.exec = Jvm.exec) (hb : c.code = cc) (hml : c.maxLocals = nL) (hown : s.vm.findClass own = some m.cls) (hts : ∀ w ∈ Ts, w.before args s = true) (hK : K s) (hKm : zk_Km K) (hM : zk_Met l KT D base Hb K y ws rm C) (cw : va_CN R s args own index y host bytes maxL ret ws rm C.2.2.2.1 C.2.2.2.2 n ∧ (Jvm.Cond.static y).before args s = true ∧ True) (hn : C.1.2.2.1.length = n) : zk_cok p l e R s m args below meth c Q KT D base Hb nL cc (.invokestatic index) C := by
  intro G H v locs cells slots pc ls rv hp hF hl hc hs hcat hsz hdg kk
  exact zk_go (va_runSN (As := C.1.2.2.1.map v) (rest := rv) ⟨hx, hb, hml, hown, hts⟩ (hM.2.2 v G H hp hF) cw ⟨zk_blind hKm, fun U hU hW => ⟨rfl, hU, hKm.2 s U hW hK⟩⟩ rfl (by rw [List.length_map]; exact hn) hsz rfl (lv_room hcat) hdg ⟨hc, hs⟩) hl kk
theorem zk_cokI (hx : p.tables.exec = Jvm.exec) (hb : c.code = cc) (hml : c.maxLocals = nL) (hown : s.vm.findClass own = some m.cls) (hts : ∀ w ∈ Ts, w.before args s = true) (hK : K s) (hKm : zk_Km K) (hM : zk_Met l KT D base Hb K y ws rm C) (cw : CallB R s args own index y bytes maxL none ws rm C.2.2.2.1 C.2.2.2.2 n ∧ y.name = "<init>" ∧ (Jvm.Cond.instanceMethod y).before args s = true) (hst : C.1.2.2.1 = y0 :: ys) (hn : ys.length = n) (h1 : (zk_lk C.1.2.2.2.1 y0).1 = 2) (h2 : (zk_lk C.1.2.2.2.1 y0).2.2 = 0) : zk_cok p l e R s m args below meth c Q KT D base Hb nL cc (.invokespecial index) C := by
  intro G H v locs cells slots pc ls rv hp hF hl hc hs hcat hsz hdg kk
  obtain ⟨b, eb, gb, gb0⟩ := zk_gr (zk_F_ty hF y0) h1 h2
  have hst2 : (C.1.2.2.1.map v).reverse ++ rv = (ys.map v).reverse ++ .ref b :: rv := by
    rw [hst, List.map_cons, eb]; simp
  rw [hst2]
  exact zk_go (va_runI (As := ys.map v) (rest := rv) ⟨hx, hb, hml, hown, hts⟩ (hM.2.2 v G H hp hF) cw ⟨zk_blind hKm, fun U hU hW => ⟨by rw [hst, List.map_cons, eb], hU, hKm.2 s U hW hK⟩⟩ rfl (by rw [List.length_map]; exact hn) hsz rfl (lv_room hcat) hdg ⟨hc, hs⟩) hl kk
theorem zk_cokIN (hx : p.tables.exec = Jvm.exec) (hb : c.code = cc) (hml : c.maxLocals = nL) (hown : s.vm.findClass own = some m.cls) (hts : ∀ w ∈ Ts, w.before args s = true) (hK : K s) (hKm : zk_Km K) (hM : zk_Met l KT D base Hb K y ws rm C) (cw : va_CN R s args own index y host bytes maxL none ws rm C.2.2.2.1 C.2.2.2.2 n ∧ y.name = "<init>" ∧ (Jvm.Cond.instanceMethod y).before args s = true) (hst : C.1.2.2.1 = y0 :: ys) (hn : ys.length = n) (h1 : (zk_lk C.1.2.2.2.1 y0).1 = 2) (h2 : (zk_lk C.1.2.2.2.1 y0).2.2 = 0) : zk_cok p l e R s m args below meth c Q KT D base Hb nL cc (.invokespecial index) C := by
  intro G H v locs cells slots pc ls rv hp hF hl hc hs hcat hsz hdg kk
  obtain ⟨b, eb, gb, gb0⟩ := zk_gr (zk_F_ty hF y0) h1 h2
  have hst2 : (C.1.2.2.1.map v).reverse ++ rv = (ys.map v).reverse ++ .ref b :: rv := by
    rw [hst, List.map_cons, eb]; simp
  rw [hst2]
  exact zk_go (va_runIN (As := ys.map v) (rest := rv) ⟨hx, hb, hml, hown, hts⟩ (hM.2.2 v G H hp hF) cw ⟨zk_blind hKm, fun U hU hW => ⟨by rw [hst, List.map_cons, eb], hU, hKm.2 s U hW hK⟩⟩ rfl (by rw [List.length_map]; exact hn) hsz rfl (lv_room hcat) hdg ⟨hc, hs⟩) hl kk
end ZI
end
