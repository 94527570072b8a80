/-! GLUE, 1: rows of the pool out of the tables' words -/
noncomputable section
/-- Object.<init> on an object of the kind k -/
def zk_oC (k : Nat) : zk_C := ((1, [], [0], [(0, (2, (k : Int), 0))], [], [], [], [], [], none), [(1, [], [], [], [], [], [], [], [], none)], [], 0, 0)
def zg_ft : Nat → FieldType → Bool
  | 0, .int => true
  | 1, .long => true
  | 2, .boolean => true
  | 3, .object _ => true
  | 3, .array _ => true
  | _, _ => false
theorem zg_fv_ok {ft : Nat} {ty : FieldType} {w : Value} (h : zg_ft ft ty = true) (hv : zk_fv ft w) : narrow ty w = w ∧ fits ty w = true := by
  unfold zk_fv at hv
  match ft, ty, h, hv with
  | 0, .int, _, ⟨a, e⟩ => subst e; exact ⟨rfl, rfl⟩
  | 1, .long, _, ⟨a, e⟩ => subst e; exact ⟨rfl, rfl⟩
  | 2, .boolean, _, ⟨a, e, a1, a2⟩ =>
    subst e
    have : a = 0 ∨ a = 1 := by
      rcases (show a.toInt = 0 ∨ a.toInt = 1 by omega) with e | e
      · left; exact Int32.toInt_inj.mp e
      · right; exact Int32.toInt_inj.mp e
    rcases this with e | e <;> subst e <;> exact ⟨rfl, rfl⟩
  | 3, .object _, _, h => rcases h with h | ⟨a, h⟩ <;> subst h <;> exact ⟨rfl, rfl⟩
  | 3, .array _, _, h => rcases h with h | ⟨a, h⟩ <;> subst h <;> exact ⟨rfl, rfl⟩
section GL
variable {p : Program} {l : Launch} {e : Env} {R : Room} {s : State} {m : MethodId} {args : Array Value} {below : List Frame} {meth : Method} {c : Code} {Q : State → Prop} {KT : List zk_K} {D : zk_D} {base : Nat} {Hb : Heap} {n0 nL : Nat} {v0 : Nat → Value} {E : List (Nat × Nat)} {G0 : Nat → Nat} {H0 : Heap} {cc : ByteArray}
variable {Ts : List Jvm.Cond} {own C : String} {T : u_T} {N ci idx f ft : Nat}
theorem zg_gok (S : CallFix p m c cc nL s args Ts own) (hKn : u_Kn s C T N (D.1 ci) (D.2.1 ci)) (hin : ∀ w ∈ u_ws C T N, w ∈ Ts) (hf : f < N) (hl : Jvm.Cond.fieldLink own idx (T f).1 (T f).2.1 (T f).2.2.1 ∈ Ts) : zk_gok p l e R s m args below meth c Q D cc idx ci f := by
  intro H locs cells slots pc ls rv a cell w h1 h2 h3 h4 hdg k
  obtain ⟨hx, hb, hml, hown, hts⟩ := S
  obtain ⟨hS, hfc, kC, hkC, hkind⟩ := hKn
  obtain ⟨cf, kf, fi, fd, hi, hsl⟩ := hS f hf
  exact W.getf hx hb hown (hts _ hl) hi (u_facts hfc hkC (u_lays hts hin hf) hi).1 h1 h3.1 (by rw [hsl]; exact h4) rfl rfl hdg k
theorem zg_gokS {nm d : String} (S : CallFix p m c cc nL s args Ts own) (hS : ∃ (cf : ClassId) (k : Class) (i : Nat) (fd : Field), s.fieldFound? C nm d = some (cf, k, i, fd) ∧ fd.isStatic = false ∧ fd.slot = D.2.1 ci f) (hl : Jvm.Cond.fieldLink own idx C nm d ∈ Ts) : zk_gok p l e R s m args below meth c Q D cc idx ci f := by
  intro H locs cells slots pc ls rv a cell w h1 h2 h3 h4 hdg k
  obtain ⟨hx, hb, hml, hown, hts⟩ := S
  obtain ⟨cf, kf, fi, fd, hi, hst, hsl⟩ := hS
  exact W.getf hx hb hown (hts _ hl) hi hst h1 h3.1 (by rw [hsl]; exact h4) rfl rfl hdg k
theorem zg_pok {ty : FieldType} (S : CallFix p m c cc nL s args Ts own) (hKn : u_Kn s C T N (D.1 ci) (D.2.1 ci)) (hin : ∀ w ∈ u_ws C T N, w ∈ Ts) (hf : f < N) (hl : Jvm.Cond.fieldLink own idx (T f).1 (T f).2.1 (T f).2.2.1 ∈ Ts) (hfin : (T f).2.2.2 = false) (hd : parseFieldDescriptor (T f).2.2.1 = some ty) (hft : zg_ft ft ty = true) : zk_pok p l e R s m args below meth c Q D cc idx ci f ft := by
  intro H locs cells slots pc ls rv a cell w w0 h1 h2 h3 h4 hv hdg k
  obtain ⟨hx, hb, hml, hown, hts⟩ := S
  obtain ⟨hS, hfc, kC, hkC, hkind⟩ := hKn
  obtain ⟨cf, kf, fi, fd, hi, hsl⟩ := hS f hf
  have hlay := hts _ (hin _ (u_in_lay hf))
  unfold u_lay at hlay
  rw [if_neg (by rw [hfin]; decide)] at hlay
  obtain ⟨n1, n2⟩ := zg_fv_ok hft hv
  have hst := (u_facts hfc hkC (u_lays hts hin hf) hi).1
  have h6 := u_store hfc hkC hkind hlay hi hd n1 n2
  refine W.putK hx hb (f := fd) ⟨hown, hts _ hl, ⟨_, _, _, hi⟩, hst⟩ (by rw [h2]; exact h6) h1 h3 (by rw [hsl]; exact k2_hasslot h4) rfl rfl hdg fun H' e1 e2 e3 => ?_
  rw [hsl] at e1 ⊢
  exact k H' e1 e2 e3
theorem zg_pokF {ty : FieldType} (S : CallFix p m c cc nL s args Ts own) (hKn : u_Kn s C T N (D.1 ci) (D.2.1 ci)) (hin : ∀ w ∈ u_ws C T N, w ∈ Ts) (hf : f < N) (hl : Jvm.Cond.fieldLink own idx (T f).1 (T f).2.1 (T f).2.2.1 ∈ Ts) (hfin : (T f).2.2.2 = true) (hin2 : meth.name = "<init>") (hdecl : (T f).1 = own) (hd : parseFieldDescriptor (T f).2.2.1 = some ty) (hft : zg_ft ft ty = true) : zk_pok p l e R s m args below meth c Q D cc idx ci f ft := by
  intro H locs cells slots pc ls rv a cell w w0 h1 h2 h3 h4 hv hdg k
  obtain ⟨hx, hb, hml, hown, hts⟩ := S
  obtain ⟨hS, hfc, kC, hkC, hkind⟩ := hKn
  obtain ⟨cf, kf, fi, fd, hi, hsl⟩ := hS f hf
  have hlay := hts _ (hin _ (u_in_lay hf))
  unfold u_lay at hlay
  rw [if_pos hfin] at hlay
  obtain ⟨n1, n2⟩ := zg_fv_ok hft hv
  have hst := (u_facts hfc hkC (u_lays hts hin hf) hi).1
  have hcf : m.cls = cf := by
    obtain ⟨_, _, c', _, _, _, -, -, hf', -, -, -, hown2, -⟩ := Cond.laysFinal_spec hlay
    have e1 : c' = cf := by have := hi.symm.trans hf'; simp at this; exact this.1.symm
    rw [hdecl] at hown2
    rw [← e1]; exact Option.some.inj (hown.symm.trans hown2)
  have h6 := u_fits hfc hkC hkind (Or.inr hlay) hi hd n1 n2
  refine W.putFinK hx hb hown (hts _ hl) hi hst hcf hin2 (by rw [h2]; exact h6) h1 h3 (by rw [hsl]; exact k2_hasslot h4) rfl rfl hdg fun H' e1 e2 e3 => ?_
  rw [hsl] at e1 ⊢
  exact k H' e1 e2 e3
theorem zg_pok4 : zk_pok p l e R s m args below meth c Q D cc idx ci f 4 := by
  intro H locs cells slots pc ls rv a cell w w0 h1 h2 h3 h4 hv
  exact absurd hv (by simp [zk_fv])
theorem zg_nok {df : List Nat} (ty : Nat → FieldType) (S : CallFix p m c cc nL s args Ts own) (hKn : u_Kn s C T N (D.1 ci) (D.2.1 ci)) (hin : ∀ w ∈ u_ws C T N, w ∈ Ts) (hty : ∀ k, k < N → parseFieldDescriptor (T k).2.2.1 = some (ty k)) (h1 : Jvm.Cond.classLink own idx C ∈ Ts) (h2 : Jvm.Cond.instantiable C N ∈ Ts) (h3 : Jvm.Cond.initialized C ∈ Ts) (hN : df.length = N) (hdf : ((List.range N).all fun j => decide (defaultValue (ty j) = zk_dv (df.getD j 0))) = true) : zk_nok p l e R s m args below meth c Q D cc idx ci df := by
  intro H locs cells slots pc ls rv hc hs hdg k
  obtain ⟨hx, hb, hml, hown, hts⟩ := S
  rw [hN] at hs k
  refine W.newcK hx hb hown (hts _ h1) (hts _ h2) (hts _ h3) rfl hdg hc hs hKn.2.1 rfl fun H' kC hkC e1 e2 e3 => ?_
  obtain ⟨cell, q1, q2, q3, q4⟩ := u_born ty hts hin hKn hkC e1 hty
  refine k H' cell q1 q2 q3 (fun j d hd => ?_) e2 e3
  have hj : j < N := by rw [← hN]; exact (List.getElem?_eq_some_iff.mp hd).1
  have := of_decide_eq_true (List.all_eq_true.mp hdf j (List.mem_range.mpr hj))
  rw [List.getD_eq_getElem?_getD, hd] at this
  rw [q4 j hj]; exact congrArg some this
theorem zg_push {H : Heap} {cA : ClassId} {n d : Nat} {u0 : Value} (hd : u0 = zk_dv d) : ∃ cell : Cell, (H.push { cls := cA, slots := Array.replicate n u0, vm := .none } : Heap)[H.size]? = some cell ∧ cell.cls = cA ∧ cell.vm = .none ∧ cell.slots.size = n ∧ (∀ (j : Nat) (u : Value), cell.slots[j]? = some u → u = zk_dv d) ∧ (H.push { cls := cA, slots := Array.replicate n u0, vm := .none } : Heap).size = H.size + 1 ∧ ∀ q : Nat, q < H.size → (H.push { cls := cA, slots := Array.replicate n u0, vm := .none } : Heap)[q]? = H[q]? := by
  refine ⟨{ cls := cA, slots := Array.replicate n u0, vm := .none }, Array.getElem?_push_size, rfl, rfl, Array.size_replicate, fun j u hu => ?_, by simp, fun q hq => ?_⟩
  · have hu : (Array.replicate n u0)[j]? = some u := hu
    rw [Array.getElem?_replicate] at hu
    split at hu
    · cases hu; exact hd
    · cases hu
  · rw [Array.getElem?_push, if_neg (Nat.ne_of_lt hq)]
theorem zg_nak {atype : ArrayType} {pc tag d : Nat} (S : CallFix p m c cc nL s args Ts own) (hA : s.vm.findClass ("[" ++ (newarray.typeOf atype).toString) = some (D.2.2.1 tag)) (hw : Jvm.Cond.arrayClass (newarray.typeOf atype) ∈ Ts) (hdg : decode cc pc = .ok (.newarray atype, 2)) (hd : defaultValue (newarray.typeOf atype) = zk_dv d) (hcb : Nat.ble (componentBytes (newarray.typeOf atype)) 8 = true) : zk_nak p l e R s m args below meth c Q D pc 2 tag d := by
  intro H locs cells slots ls rv w h0 h1 h2 h3 k
  obtain ⟨hx, hb, hml, hown, hts⟩ := S
  have hcb := Nat.le_of_ble_eq_true hcb
  refine W.newa hx hb (hts _ hw) rfl hdg rfl h0 (Nat.le_trans (Nat.mul_le_mul h1 hcb) (by decide)) h2 h3 fun cA kA comp f1 f2 f3 => ?_
  have hcA : cA = D.2.2.1 tag := Option.some.inj (f1.symm.trans hA)
  obtain ⟨cell, g1, g2, g3, g4, g5, g6, g7⟩ := zg_push (H := H) (cA := cA) (n := w.toNatClampNeg) hd
  exact k _ cell g1 (g2.trans hcA) g3 g4 g5 g6 g7
theorem zg_nakR {pc tag d : Nat} (S : CallFix p m c cc nL s args Ts own) (hA : s.vm.findClass ("[" ++ (FieldType.object C).toString) = some (D.2.2.1 tag)) (hcl : Jvm.Cond.classLink own idx C ∈ Ts) (hov : (Jvm.Cond.arrayOver (.object C)).before args s = true) (hdg : decode cc pc = .ok (.anewarray idx, 3)) (hd : Value.null = zk_dv d) : zk_nak p l e R s m args below meth c Q D pc 3 tag d := by
  intro H locs cells slots ls rv w h0 h1 h2 h3 k
  obtain ⟨hx, hb, hml, hown, hts⟩ := S
  refine W.anew hx hb hown (hts _ hcl) hov rfl hdg rfl h0 (Nat.le_trans (Nat.mul_le_mul_right _ h1) (by decide)) h2 h3 fun cA kA comp f1 f2 f3 f4 => ?_
  have hcA : cA = D.2.2.1 tag := Option.some.inj (f1.symm.trans hA)
  obtain ⟨cell, g1, g2, g3, g4, g5, g6, g7⟩ := zg_push (H := H) (cA := cA) (n := w.toNatClampNeg) hd
  exact k _ cell g1 (g2.trans hcA) g3 g4 g5 g6 g7
theorem zg_nakA {t : FieldType} {pc tag d : Nat} (S : CallFix p m c cc nL s args Ts own) (hA : s.vm.findClass ("[" ++ (FieldType.array t).toString) = some (D.2.2.1 tag)) (hcl : Jvm.Cond.classLink own idx (FieldType.array t).toString ∈ Ts) (hov : (Jvm.Cond.arrayOver (.array t)).before args s = true) (hdg : decode cc pc = .ok (.anewarray idx, 3)) (hd : Value.null = zk_dv d) : zk_nak p l e R s m args below meth c Q D pc 3 tag d := by
  intro H locs cells slots ls rv w h0 h1 h2 h3 k
  obtain ⟨hx, hb, hml, hown, hts⟩ := S
  refine W.anewA hx hb hown (hts _ hcl) hov rfl hdg rfl h0 (Nat.le_trans (Nat.mul_le_mul_right _ h1) (by decide)) h2 h3 fun cA kA comp f1 f2 f3 f4 => ?_
  have hcA : cA = D.2.2.1 tag := Option.some.inj (f1.symm.trans hA)
  obtain ⟨cell, g1, g2, g3, g4, g5, g6, g7⟩ := zg_push (H := H) (cA := cA) (n := w.toNatClampNeg) hd
  exact k _ cell g1 (g2.trans hcA) g3 g4 g5 g6 g7
theorem zg_asg (vm : Vm) (c : ClassId) : vm.assignable c c = true := by
  show vm.assignableAux (255 + 1) c c = true
  rw [Vm.assignableAux]
  simp only [beq_self_eq_true, Bool.true_or]
theorem zg_sokR {tag kz : Nat} (S : CallFix p m c cc nL s args Ts own) (hA : s.vm.findClass ("[" ++ (FieldType.object C).toString) = some (D.2.2.1 tag)) (hov : (Jvm.Cond.arrayOver (.object C)).before args s = true) (hcl : s.vm.findClass C = some (D.1 ci)) (hk : (zk_kd KT kz).1 = 0) (hci : (zk_kd KT kz).2.1 = ci) : zk_sok p l e R s m args below meth c Q KT D cc tag kz := by
  intro H locs cells slots pc ls rv a b j cell cv h1 h2 h3 h4 h5 h6 h7 h8 hdg k
  obtain ⟨comp, cA, kA, q1, -, q3, q4, q5⟩ := Cond.arrayOver_spec hov
  have e1 : cA = D.2.2.1 tag := Option.some.inj (q5.symm.trans hA)
  have e2 : comp = D.1 ci := Option.some.inj (q1.symm.trans hcl)
  obtain ⟨kC, hkC, -⟩ := Vm.findClass_spec q1
  have hcv : cv.cls = comp := by rw [h7 hk, hci, e2]
  exact W.aast S.1 S.2.1 h1 (fun q z => by have h := h3.2; rw [z] at h; cases h) h3.1 (by rw [h2, ← e1]; exact q3) q4 rfl hkC ⟨fun z => h4 (Or.inl z), Nat.lt_of_not_le fun z => h4 (Or.inr z)⟩ h5 (fun q z => by have h := h6.2; rw [z] at h; cases h) (by rw [hcv]; exact hkC) (by rw [hcv]; exact zg_asg _ _) rfl rfl hdg k
theorem zg_sokA {t : FieldType} {tag kz g : Nat} (S : CallFix p m c cc nL s args Ts own) (hA : s.vm.findClass ("[" ++ (FieldType.array t).toString) = some (D.2.2.1 tag)) (hov : (Jvm.Cond.arrayOver (.array t)).before args s = true) (hcl : s.vm.findClass (FieldType.array t).toString = some (D.2.2.1 g)) (hk : (zk_kd KT kz).1 ≠ 0) (hci : (zk_kd KT kz).2.1 = g) : zk_sok p l e R s m args below meth c Q KT D cc tag kz := by
  intro H locs cells slots pc ls rv a b j cell cv h1 h2 h3 h4 h5 h6 h7 h8 hdg k
  obtain ⟨comp, cA, kA, q1, -, q3, q4, q5⟩ := arrayOverA_spec hov
  have e1 : cA = D.2.2.1 tag := Option.some.inj (q5.symm.trans hA)
  have e2 : comp = D.2.2.1 g := Option.some.inj (q1.symm.trans hcl)
  obtain ⟨kC, hkC, -⟩ := Vm.findClass_spec q1
  have hcv : cv.cls = comp := by rw [h8 hk, hci, e2]
  exact W.aast S.1 S.2.1 h1 (fun q z => by have h := h3.2; rw [z] at h; cases h) h3.1 (by rw [h2, ← e1]; exact q3) q4 rfl hkC ⟨fun z => h4 (Or.inl z), Nat.lt_of_not_le fun z => h4 (Or.inr z)⟩ h5 (fun q z => by have h := h6.2; rw [z] at h; cases h) (by rw [hcv]; exact hkC) (by rw [hcv]; exact zg_asg _ _) rfl rfl hdg k
theorem zg_tvi {G : Nat → Nat} {v : Int32} {i : Int} (h : v.toInt = i) : zk_tv G (.int v) (0, i, i) := ⟨v, rfl, by show i ≤ v.toInt; omega, by show v.toInt ≤ i; omega⟩
theorem zg_tvl {G : Nat → Nat} {v : Int64} {i : Int} (h : v.toInt = i) : zk_tv G (.long v) (1, i, i) := ⟨v, rfl, by show i ≤ v.toInt; omega, by show v.toInt ≤ i; omega⟩
theorem zg_kokI {pc : Nat} {v : Int32} {i : Int} (S : CallFix p m c cc nL s args Ts own) (hw : Jvm.Cond.constant own idx v ∈ Ts) (hi : v.toInt = i) (hdg : decode cc pc = .ok (.ldc idx, 2)) : zk_kok p l e R s m args below meth c Q KT D base Hb pc 2 (0, i, i) :=
  ⟨.int v, fun G H _ => zg_tvi hi, fun {G H locs cells slots ls rv} hp k => lv_ldc S.1 S.2.1 S.2.2.2.1 (S.2.2.2.2 _ hw) hdg k⟩
theorem zg_kokW {pc : Nat} {v : Int32} {i : Int} (S : CallFix p m c cc nL s args Ts own) (hw : Jvm.Cond.constant own idx v ∈ Ts) (hi : v.toInt = i) (hdg : decode cc pc = .ok (.ldc_w idx, 3)) : zk_kok p l e R s m args below meth c Q KT D base Hb pc 3 (0, i, i) :=
  ⟨.int v, fun G H _ => zg_tvi hi, fun {G H locs cells slots ls rv} hp k => lv_ldcw S.1 S.2.1 S.2.2.2.1 (S.2.2.2.2 _ hw) hdg k⟩
theorem zg_kokL {pc : Nat} {v : Int64} {i : Int} (S : CallFix p m c cc nL s args Ts own) (hw : Jvm.Cond.constantLong own idx v ∈ Ts) (hi : v.toInt = i) (hdg : decode cc pc = .ok (.ldc2_w idx, 3)) : zk_kok p l e R s m args below meth c Q KT D base Hb pc 3 (1, i, i) :=
  ⟨.long v, fun G H _ => zg_tvl hi, fun {G H locs cells slots ls rv} hp k => lv_ldc2 S.1 S.2.1 S.2.2.2.1 (S.2.2.2.2 _ hw) hdg k⟩
theorem zg_kokS {pc k : Nat} {tx : String} (S : CallFix p m c cc nL s args Ts own) (hR : vk_R own idx tx (D.2.2.2.1 k) s) (hro : (zk_kd KT k).2.2.2.2.2.2.2 = 1) (hk : k ≠ 0) (hdg : decode cc pc = .ok (.ldc idx, 2)) : zk_kok p l e R s m args below meth c Q KT D base Hb pc 2 (2, (k : Int), 0) :=
  ⟨.ref (D.2.2.2.1 k), fun G H hp => Or.inl ⟨_, rfl, by rw [hp.1.2.1 k hro], by rw [hp.1.2.1 k hro]; exact hk⟩, fun {G H locs cells slots ls rv} hp kk => va_ldcS S.1 S.2.1 S.2.2.2.1 hR hdg kk⟩
theorem zg_kokG {pc : Nat} {n d : String} {v : Int32} {i : Int} (S : CallFix p m c cc nL s args Ts own) (hZ : va_Z C n d (.int v) (fun a => base ≤ a) s Hb) (hl : Jvm.Cond.fieldLink own idx C n d ∈ Ts) (hi : v.toInt = i) (hdg : decode cc pc = .ok (.getstatic idx, 3)) : zk_kok p l e R s m args below meth c Q KT D base Hb pc 3 (0, i, i) := by
  refine ⟨.int v, fun G H _ => zg_tvi hi, fun {G H locs cells slots ls rv} hp kk => ?_⟩
  obtain ⟨cf, kf, fi, fd, a, cell, h1, h2, h3, h4, h5, h6, h7, h8⟩ := hZ
  obtain ⟨hx, hb, hml, hown, hts⟩ := S
  exact W.gets hx hb hown (hts _ hl) h1 h2 h3 h4 (by rw [hp.2.1 a (Nat.not_le.mp h8)]; exact h5) (fun e => by rw [e] at h6; cases h6) h7 rfl hdg kk
/-- the contract's receiver: an object of a type -/
def zg_vb (KT : List zk_K) (C : zk_C) (n ci : Nat) : Bool := match C.1.2.2.1 with
  | y0 :: ys => Nat.beq (zk_lk C.1.2.2.2.1 y0).1 2 && zk_ieq (zk_lk C.1.2.2.2.1 y0).2.2 0 && Nat.beq (zk_kd KT (zk_lk C.1.2.2.2.1 y0).2.1.toNat).1 0 && Nat.beq (zk_kd KT (zk_lk C.1.2.2.2.1 y0).2.1.toNat).2.1 ci && Nat.beq ys.length n
  | [] => false
theorem zg_vb_ok {C : zk_C} {n ci : Nat} (h : zg_vb KT C n ci = true) : ∃ y0 ys, C.1.2.2.1 = y0 :: ys ∧ ys.length = n ∧ (zk_lk C.1.2.2.2.1 y0).1 = 2 ∧ (zk_lk C.1.2.2.2.1 y0).2.2 = 0 ∧ (zk_kd KT (zk_lk C.1.2.2.2.1 y0).2.1.toNat).1 = 0 ∧ (zk_kd KT (zk_lk C.1.2.2.2.1 y0).2.1.toNat).2.1 = ci := by
  unfold zg_vb at h
  split at h
  · rename_i y0 ys e
    simp only [Bool.and_eq_true] at h
    obtain ⟨⟨⟨⟨h1, h2⟩, h3⟩, h4⟩, h5⟩ := h
    exact ⟨y0, ys, e, Nat.eq_of_beq_eq_true h5, Nat.eq_of_beq_eq_true h1, (zk_ieq_iff _ _).mp h2, Nat.eq_of_beq_eq_true h3, Nat.eq_of_beq_eq_true h4⟩
  · cases h
/-- a method's descriptor takes n arguments -/
def zg_dm (y : MethodName) (n : Nat) : Prop := y.cls ≠ "java/lang/invoke/MethodHandle" ∧ y.cls ≠ "java/lang/invoke/VarHandle" ∧ (parseMethodDescriptor y.desc).map (fun d => d.parameters.length) = some n
variable {K : State → Prop} {y : MethodName} {rm : Room} {C : zk_C} {bytes : ByteArray} {maxL n pc index : Nat} {ret : Option FieldType} {tb : List Jvm.Cond} {w0 : Jvm.Cond}
/-- words that are all good, behind a code word -/
def zg_all (tb : List Jvm.Cond) : Prop := ∀ w ∈ tb, goodWord w = true
theorem zg_in {ws : List Jvm.Cond} {big : List Jvm.Cond} (ha : zg_all tb) (hb : ∀ w ∈ tb, w ∈ big) (h : ∀ w ∈ ws, w ∈ tb) : GoodIn big ws := fun w hw => ⟨hb w (h w hw), good_of_word (ha w (h w hw))⟩
theorem zg_code {w : Jvm.Cond} (h : w ∈ tb) : ∀ w' ∈ w :: tb, w' ∈ tb := fun w' h' => (List.mem_cons.mp h').elim (fun e => e ▸ h) id
theorem zg_callV {big : List Jvm.Cond} (hbig : ∀ w ∈ tb, w ∈ big) (ha : zg_all tb) (S : CallFix p m c cc nL s args big own) (hK : K s) (hKm : zk_Km K) (hM : zk_Met l KT D base Hb K y (.code y bytes maxL ret :: tb) rm C) (a1 : Jvm.Cond.methodLink own index y ∈ tb) (hy : (Jvm.Cond.instanceMethod y ∈ tb ∧ Jvm.Cond.selects y.cls y y ∈ tb ∧ Jvm.Cond.initialized y.cls ∈ tb ∧ Jvm.Cond.code y bytes maxL ret ∈ tb) ∧ zg_dm y n) (hv : zg_vb KT C n ci = true) (hcl : s.vm.findClass y.cls = some (D.1 ci)) (hR : Nat.ble (rm.frames + 1) R.frames = true ∧ Nat.ble (8 + (maxL + 11) + rm.locals) R.locals = true) (hdg : decode cc pc = .ok (.invokevirtual index, 3)) : ∃ ins, decode cc pc = .ok (ins, 3) ∧ zk_cok p l e R s m args below meth c Q KT D base Hb nL cc ins C := by
  obtain ⟨⟨b1, b2, b3, b4⟩, d1, d2, d3⟩ := hy
  obtain ⟨y0, ys, v1, v2, v3, v4, v5, v6⟩ := zg_vb_ok hv
  obtain ⟨hx, hb, hml, hown, hts⟩ := S
  refine ⟨_, hdg, zk_cokV (Cn := y.cls) hx hb hml hown hts hK hKm hM (cwV n hts (fun w hw => ?_) rfl hM.1 hM.2.1 ⟨rfl, d1, d2, d3⟩ ⟨Nat.le_of_ble_eq_true hR.1, Nat.le_of_ble_eq_true hR.2⟩) v1 v2 v3 v4 v5 (by rw [v6]; exact hcl)⟩
  have : w ∈ tb := by
    unfold wsV at hw
    rcases List.mem_append.mp hw with hw | hw
    · simp only [List.mem_cons, List.not_mem_nil, or_false] at hw
      rcases hw with rfl | rfl | rfl | rfl
      · exact a1
      · exact b1
      · exact b2
      · exact b3
    · exact zg_code b4 w hw
  exact ⟨hbig w this, good_of_word (ha w this)⟩
theorem zg_callS {big : List Jvm.Cond} (hbig : ∀ w ∈ tb, w ∈ big) (ha : zg_all tb) (S : CallFix p m c cc nL s args big own) (hK : K s) (hKm : zk_Km K) (hM : zk_Met l KT D base Hb K y (.code y bytes maxL ret :: tb) rm C) (a1 : Jvm.Cond.methodLink own index y ∈ tb) (hy : (Jvm.Cond.static y ∈ tb ∧ Jvm.Cond.initialized y.cls ∈ tb ∧ Jvm.Cond.code y bytes maxL ret ∈ tb) ∧ zg_dm y n) (hn : Nat.beq C.1.2.2.1.length n = true) (hR : Nat.ble (rm.frames + 1) R.frames = true ∧ Nat.ble (8 + (maxL + 11) + rm.locals) R.locals = true) (hdg : decode cc pc = .ok (.invokestatic index, 3)) : ∃ ins, decode cc pc = .ok (ins, 3) ∧ zk_cok p l e R s m args below meth c Q KT D base Hb nL cc ins C := by
  obtain ⟨⟨b1, b3, b4⟩, d1, d2, d3⟩ := hy
  obtain ⟨hx, hb, hml, hown, hts⟩ := S
  exact ⟨_, hdg, zk_cokS hx hb hml hown hts hK hKm hM ⟨callB_of n hts (zg_in ha hbig (zg_code b4)) rfl hM.1 hM.2.1 (hts _ (hbig _ b3)) (hts _ (hbig _ a1)) ⟨d1, d2, d3⟩ ⟨Nat.le_of_ble_eq_true hR.1, Nat.le_of_ble_eq_true hR.2⟩, hts _ (hbig _ b1)⟩ (Nat.eq_of_beq_eq_true hn)⟩
theorem zg_callI {big : List Jvm.Cond} (hbig : ∀ w ∈ tb, w ∈ big) (ha : zg_all tb) (S : CallFix p m c cc nL s args big own) (hK : K s) (hKm : zk_Km K) (hM : zk_Met l KT D base Hb K y (.code y bytes maxL none :: tb) rm C) (a1 : Jvm.Cond.methodLink own index y ∈ tb) (hy : (Jvm.Cond.instanceMethod y ∈ tb ∧ Jvm.Cond.initialized y.cls ∈ tb ∧ Jvm.Cond.code y bytes maxL none ∈ tb) ∧ zg_dm y n) (hnm : y.name = "<init>") (hv : zg_vb KT C n ci = true) (hR : Nat.ble (rm.frames + 1) R.frames = true ∧ Nat.ble (8 + (maxL + 11) + rm.locals) R.locals = true) (hdg : decode cc pc = .ok (.invokespecial index, 3)) : ∃ ins, decode cc pc = .ok (ins, 3) ∧ zk_cok p l e R s m args below meth c Q KT D base Hb nL cc ins C := by
  obtain ⟨⟨b1, b3, b4⟩, d1, d2, d3⟩ := hy
  obtain ⟨y0, ys, v1, v2, v3, v4, v5, v6⟩ := zg_vb_ok hv
  obtain ⟨hx, hb, hml, hown, hts⟩ := S
  exact ⟨_, hdg, zk_cokI hx hb hml hown hts hK hKm hM (cwI n hts (zg_in ha hbig (zg_code b4)) rfl hM.1 hM.2.1 (hts _ (hbig _ b3)) (hts _ (hbig _ a1)) (hts _ (hbig _ b1)) hnm ⟨d1, d2, d3⟩ ⟨Nat.le_of_ble_eq_true hR.1, Nat.le_of_ble_eq_true hR.2⟩) v1 v2 v3 v4⟩
theorem zg_callIN {host : String} {big : List Jvm.Cond} (hbig : ∀ w ∈ tb, w ∈ big) (ha : zg_all tb) (S : CallFix p m c cc nL s args big own) (hK : K s) (hKm : zk_Km K) (hM : zk_Met l KT D base Hb K y (.code y bytes maxL none :: tb) rm C) (a1 : va_Nw (.methodLinkNest own index y host) s) (hy : (Jvm.Cond.instanceMethod y ∈ tb ∧ Jvm.Cond.initialized y.cls ∈ tb ∧ Jvm.Cond.code y bytes maxL none ∈ tb) ∧ zg_dm y n) (hnm : y.name = "<init>") (hv : zg_vb KT C n ci = true) (hR : Nat.ble (rm.frames + 1) R.frames = true ∧ Nat.ble (8 + (maxL + 11) + rm.locals) R.locals = true) (hdg : decode cc pc = .ok (.invokespecial index, 3)) : ∃ ins, decode cc pc = .ok (ins, 3) ∧ zk_cok p l e R s m args below meth c Q KT D base Hb nL cc ins C := by
  obtain ⟨⟨b1, b3, b4⟩, d1, d2, d3⟩ := hy
  obtain ⟨y0, ys, v1, v2, v3, v4, v5, v6⟩ := zg_vb_ok hv
  obtain ⟨hx, hb, hml, hown, hts⟩ := S
  exact ⟨_, hdg, zk_cokIN hx hb hml hown hts hK hKm hM ⟨va_cnB n hts (zg_in ha hbig (zg_code b4)) rfl hM.1 hM.2.1 a1 (hts _ (hbig _ b3)) ⟨d1, d2, d3⟩ ⟨Nat.le_of_ble_eq_true hR.1, Nat.le_of_ble_eq_true hR.2⟩, hnm, hts _ (hbig _ b1)⟩ v1 v2 v3 v4⟩
theorem zg_callO {k : Nat} (S : CallFix p m c cc nL s args Ts own) (a1 : Jvm.Cond.methodLink own index objectInit ∈ Ts) (a2 : Jvm.Cond.instanceMethod objectInit ∈ Ts) (a3 : Jvm.Cond.code objectInit ⟨#[0xb1]⟩ 1 none ∈ Ts) (hR : Nat.ble 1 R.frames = true ∧ Nat.ble 20 R.locals = true) (hdg : decode cc pc = .ok (.invokespecial index, 3)) : ∃ ins, decode cc pc = .ok (ins, 3) ∧ zk_cok p l e R s m args below meth c Q KT D base Hb nL cc ins (zk_oC k) := by
  obtain ⟨hx, hb, hml, hown, hts⟩ := S
  refine ⟨_, hdg, ?_⟩
  intro G H v locs cells slots pc ls rv hp hF hl hc hs hcat hsz hdg kk
  have hR1 := Nat.le_of_ble_eq_true hR.1
  have hR2 := Nat.le_of_ble_eq_true hR.2
  obtain ⟨b, eb, -⟩ := zk_gr (zk_F_ty hF 0) rfl rfl
  have e0 : (((zk_oC k).1.2.2.1.map v).reverse ++ rv) = .ref b :: rv := by
    show [v 0].reverse ++ rv = _
    rw [eb]; rfl
  rw [e0]
  refine W.objInit hx hb hown (hts _ a1) (hts _ a2) (hts _ a3) rfl (by rw [hml]; exact hsz) rfl hdg hR1 (by show 2 * 0 + _ + 12 ≤ _; omega) ?_
  refine kk none H locs ⟨G, v, (1, [], [], [], [], [], [], [], [], none), List.mem_singleton.mpr rfl, rfl, Nat.zero_le _, (fun y hy => by cases hy), Nat.le_refl _, fun _ _ => rfl, hp, zk_ev_rf, ⟨(fun q hq => by cases hq), (fun q hq => by cases hq), (fun q hq => by cases hq), (fun q hq => by cases hq), (fun q hq => by cases hq), (fun q hq => by cases hq), (fun x hx => by cases hx)⟩⟩ hl
end GL
/-- the table of kinds, decided -/
def zg_ktb (KT : List zk_K) : Bool := !(Nat.beq (zk_kd KT 0).2.2.2.2.2.2.2 1) && (List.range KT.length).all fun k => let j := zk_fin KT k
  Nat.beq (zk_kd KT j).1 (zk_kd KT k).1 && Nat.beq (zk_kd KT j).2.1 (zk_kd KT k).2.1 && Nat.beq (zk_kd KT j).2.2.1.length (zk_kd KT k).2.2.1.length && Nat.beq (zk_fin KT j) j && Nat.beq (zk_kd KT j).2.2.2.2.2.2.2 (zk_kd KT k).2.2.2.2.2.2.2 && (zk_kd KT k).2.2.1.all fun t => !(Nat.beq t.1 2) || Nat.beq (zk_fin KT t.2.1.toNat) t.2.1.toNat
theorem zg_kt_ok {KT : List zk_K} (h0 : zk_kd KT 0 = zk_K0) (h : zg_ktb KT = true) : zk_kt KT := by
  unfold zg_ktb at h
  obtain ⟨-, h2⟩ := Bool.and_eq_true_iff.mp h
  refine ⟨by rw [h0]; decide, fun k => ?_⟩
  by_cases hk : k < KT.length
  · have := List.all_eq_true.mp h2 k (List.mem_range.mpr hk)
    simp only [Bool.and_eq_true] at this
    obtain ⟨⟨⟨⟨⟨a1, a2⟩, a3⟩, a4⟩, a5⟩, a6⟩ := this
    refine ⟨Nat.eq_of_beq_eq_true a1, Nat.eq_of_beq_eq_true a2, Nat.eq_of_beq_eq_true a3, Nat.eq_of_beq_eq_true a4, Nat.eq_of_beq_eq_true a5, fun t ht e => ?_⟩
    have := List.all_eq_true.mp a6 t ht
    rw [e] at this
    exact Nat.eq_of_beq_eq_true (by simpa using this)
  · have e : zk_kd KT k = zk_K0 := by
      unfold zk_kd
      rw [List.getD_eq_getElem?_getD, List.getElem?_eq_none (Nat.le_of_not_lt hk)]; rfl
    have ef : zk_fin KT k = 0 := by unfold zk_fin; rw [e]; rfl
    have ef0 : zk_fin KT 0 = 0 := by unfold zk_fin; rw [h0]; rfl
    rw [ef, e, h0]
    refine ⟨rfl, rfl, rfl, ef0, rfl, fun t ht => ?_⟩
    cases ht
theorem zg_dj_ok {KT : List zk_K} {D : zk_D} {N : Nat → Nat} (hN : ((List.range KT.length).all fun k => !(Nat.beq (zk_kd KT k).1 0) || Nat.ble (zk_kd KT k).2.2.1.length (N (zk_kd KT k).2.1)) = true) (h : ∀ ci x y, x < N ci → y < N ci → x ≠ y → D.2.1 ci x ≠ D.2.1 ci y) : zk_dj KT D := by
  intro k x y h1 h2 h3 h4
  have hk : k < KT.length := by
    rcases Nat.lt_or_ge k KT.length with q | q
    · exact q
    · exfalso
      have e : zk_kd KT k = zk_K0 := by
        unfold zk_kd
        rw [List.getD_eq_getElem?_getD, List.getElem?_eq_none q]; rfl
      rw [e] at h1; exact absurd h1 (by decide)
  have := List.all_eq_true.mp hN k (List.mem_range.mpr hk)
  rw [h1] at this
  have this : (zk_kd KT k).2.2.1.length ≤ N (zk_kd KT k).2.1 := by simpa using this
  exact h _ x y (by omega) (by omega) h4
section GL2
variable {p : Program} {l : Launch} {e : Env} {R : Room} {s : State} {m : MethodId} {args : Array Value} {below : List Frame} {meth : Method} {c : Code} {Q : State → Prop} {KT : List zk_K} {D : zk_D} {base : Nat} {Hb : Heap} {n0 nL : Nat} {v0 : Nat → Value} {E : List (Nat × Nat)} {G0 : Nat → Nat} {H0 : Heap} {cc : ByteArray}
variable {Ts : List Jvm.Cond} {own C : String} {T : u_T} {N ci idx f ft : Nat} {O nm d : String} {fin : Bool} {ty : FieldType}
theorem zg_gok' (S : CallFix p m c cc nL s args Ts own) (hKn : u_Kn s C T N (D.1 ci) (D.2.1 ci)) (hin : ∀ w ∈ u_ws C T N, w ∈ Ts) (hf : Nat.blt f N = true) (hT : T f = (O, nm, d, fin) ∧ parseFieldDescriptor d = some ty) (hl : Jvm.Cond.fieldLink own idx O nm d ∈ Ts) : zk_gok p l e R s m args below meth c Q D cc idx ci f :=
  zg_gok S hKn hin (by simpa using hf) (by rw [hT.1]; exact hl)
theorem zg_gp4 (S : CallFix p m c cc nL s args Ts own) (hKn : u_Kn s C T N (D.1 ci) (D.2.1 ci)) (hin : ∀ w ∈ u_ws C T N, w ∈ Ts) (hf : Nat.blt f N = true) (hT : T f = (O, nm, d, fin) ∧ parseFieldDescriptor d = some ty) (hl : Jvm.Cond.fieldLink own idx O nm d ∈ Ts) : zk_gok p l e R s m args below meth c Q D cc idx ci f ∧ zk_pok p l e R s m args below meth c Q D cc idx ci f 4 :=
  ⟨zg_gok' S hKn hin hf hT hl, zg_pok4⟩
theorem zg_gp (S : CallFix p m c cc nL s args Ts own) (hKn : u_Kn s C T N (D.1 ci) (D.2.1 ci)) (hin : ∀ w ∈ u_ws C T N, w ∈ Ts) (hf : Nat.blt f N = true) (hT : T f = (O, nm, d, false) ∧ parseFieldDescriptor d = some ty) (hl : Jvm.Cond.fieldLink own idx O nm d ∈ Ts) (hft : zg_ft ft ty = true) : zk_gok p l e R s m args below meth c Q D cc idx ci f ∧ zk_pok p l e R s m args below meth c Q D cc idx ci f ft :=
  ⟨zg_gok' S hKn hin hf hT hl, zg_pok S hKn hin (by simpa using hf) (by rw [hT.1]; exact hl) (by rw [hT.1]) (by rw [hT.1]; exact hT.2) hft⟩
theorem zg_gpF (S : CallFix p m c cc nL s args Ts own) (hKn : u_Kn s C T N (D.1 ci) (D.2.1 ci)) (hin : ∀ w ∈ u_ws C T N, w ∈ Ts) (hf : Nat.blt f N = true) (hin2 : meth.name = "<init>") (hT : T f = (own, nm, d, true) ∧ parseFieldDescriptor d = some ty) (hl : Jvm.Cond.fieldLink own idx own nm d ∈ Ts) (hft : zg_ft ft ty = true) : zk_gok p l e R s m args below meth c Q D cc idx ci f ∧ zk_pok p l e R s m args below meth c Q D cc idx ci f ft :=
  ⟨zg_gok' S hKn hin hf hT hl, zg_pokF S hKn hin (by simpa using hf) (by rw [hT.1]; exact hl) (by rw [hT.1]) hin2 (by rw [hT.1]) (by rw [hT.1]; exact hT.2) hft⟩
end GL2
end
