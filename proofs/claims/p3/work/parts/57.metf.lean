/-! A METHOD'S CONTRACT where the type's name is one of those with natives of their own, but no row is the method's -/
theorem zk_ofWF {l : Launch} {y : MethodName} {ws ws' : List Jvm.Cond} {rm : Room} {Pc : Array Value → State → Prop} {Qc : Array Value → State → Outcome → State → Prop} {mc ms : Nat} {free : Addr → Prop} {cc : ByteArray} {maxL : Nat} {ret : Option FieldType}
    (hy : plainFor y = true) (hw : ws = Jvm.Cond.code y cc maxL ret :: ws')
    (body : ∀ p e s m args below meth c s₁, BodyLoose p l y (headSpec ws rm) cc maxL ret e s m args below meth c s₁ → c.maxLocals = maxL → Pc args s →
      W p l e (headSpec ws rm).room s m args below meth c s.heap [] 0 0 (MQ below Qc args s mc ms free) (entryFrame m args maxL)) : Met l y ws rm Pc Qc mc ms free := by
  refine MetFree.of_bodyRF (code := cc) (maxLocals := maxL) (ret := ret) hy ?_ ?_
  · intro args s m h hn
    obtain ⟨meth, c, h1, h2, h3, h4, h5, h6, -, -⟩ := Cond.code_spec hn (atoms_spec (ws := ws) h _ (by rw [hw]; exact List.mem_cons_self))
    exact ⟨meth, c, h1, h2, h3, h4, h5, h6⟩
  · intro p e s m args below meth c s₁ B hml hP _ hst
    have hh0 : s₁.heap = s.heap := by rw [B.state]; rfl
    obtain ⟨t, a1, o, b1, b2, b3⟩ := body p e s m args below meth c s₁ B hml hP s₁ hh0 (Stand.of_body B)
    exact ⟨t, o, hst.trans a1, b1, b2, ⟨b3.1, b3.2⟩⟩
theorem zk_metF {l : Launch} {KT : List zk_K} {D : zk_D} {base : Nat} {Hb : Heap} {K : State → Prop} {y : MethodName} {ws ws' : List Jvm.Cond} {rm : Room} {C : zk_C} {cc : ByteArray} {nL : Nat} {rt : Option FieldType} {P : zk_P} {AT : List FieldType} {hd xs : List zk_Hd} {fuel N : Nat}
    (hy : plainFor y = true) (hws : ws = Jvm.Cond.code y cc nL rt :: ws') (hrm1 : rm.cells = C.2.2.2.1) (hrm2 : rm.slots = C.2.2.2.2) (hchk : zk_chk KT P cc nL C rt hd xs fuel N = true) (hwd : ∀ s : State, K s → zk_wd s KT D AT)
    (hok : ∀ (p : Program) (e : Env) (s : State) (m : MethodId) (args : Array Value) (below : List Frame) (meth : Method) (c : Code) (s₁ : State) (Q : State → Prop), BodyLoose p l y (headSpec ws rm) cc nL rt e s m args below meth c s₁ → c.maxLocals = nL → K s → zk_ok p l e (headSpec ws rm).room s m args below meth c Q KT D base Hb nL cc P C.2.2.2.2)
    (hX : ∀ (p : Program) (e : Env) (s : State) (m : MethodId) (args : Array Value) (below : List Frame) (meth : Method) (c : Code) (s₁ : State) (v : Nat → Value) (G0 : Nat → Nat) (H0 : Heap), BodyLoose p l y (headSpec ws rm) cc nL rt e s m args below meth c s₁ → c.maxLocals = nL → K s → args = (C.1.2.2.1.map v).toArray → zk_hp KT D base Hb G0 H0 → zk_F KT D G0 H0 v C.1 → ∀ q ∈ xs, ∀ (G : Nat → Nat) (H : Heap) (locs : List Loc) (ls : Array Slot) (vs : List Value) (v' : Nat → Value), zk_hp KT D base Hb G H → zk_ev KT D C.2.2.1 G0 H0 G H → (∀ z ∈ locs, base ≤ z.base) → zk_F KT D G H v' q.2.1 → zk_LS C.1.1 v nL ls vs v' q.2.1 → W p l e (headSpec ws rm).room s m args below meth c H locs q.2.2.2.1 q.2.2.2.2 (MQ below (zk_Qf KT D base Hb C v G0 H0) args s C.2.2.2.1 C.2.2.2.2 (fun q => base ≤ q)) (F0 m q.1 ls vs)) : zk_Met l KT D base Hb K y ws rm C := by
  refine ⟨hrm1, hrm2, fun v G H hp hF => ?_⟩
  refine zk_ofWF (cc := cc) (maxL := nL) (ret := rt) hy hws ?_
  intro p e s m args below meth c s₁ B hml hv
  obtain ⟨ha, hh, hK⟩ := hv
  have := zk_whole (G0 := G) (H0 := H) (v := v) (Q := MQ below (zk_Qf KT D base Hb C v G H) args s C.2.2.2.1 C.2.2.2.2 (fun q => base ≤ q)) B.exec B.bytes (hwd s hK) (hok p e s m args below meth c s₁ _ B hml hK) hrm1 hrm2 B.returns B.notSynchronized (fun t h => h) hchk (hX p e s m args below meth c s₁ v G H B hml hK ha hp hF) hp hF
  rw [hh, ha] at *
  exact this
