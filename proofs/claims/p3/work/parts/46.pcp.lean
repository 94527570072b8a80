/-! BY HAND: clone and arraycopy of rows, over any heap -/
section ZC1
variable {p : Program} {l : Launch} {e : Env} {R : Room} {s : State} {m : MethodId} {args : Array Value} {below : List Frame} {meth : Method} {c : Code} {H : Heap} {locs : List Loc} {cells slots : Nat} {Q : State → Prop}
variable {cc : ByteArray} {pc : Nat} {ls : Array Slot} {rest : List Value}
theorem zq_vmk {cell : Cell} (h : zk_vk cell) : (∀ k, cell.vm ≠ .statics k) ∧ cell.vm ≠ .unknown := ⟨fun k z => (by have h2 := h.2; rw [z] at h2; cases h2), h.1⟩
theorem zq_clone (hexec : p.tables.exec = Jvm.exec) (hb : c.code = cc) (hml : c.maxLocals = ls.size) {own ad : String} {index : Nat} (hown : s.vm.findClass own = some m.cls)
    (hlink : (Cond.methodLink own index ⟨ad, "clone", "()Ljava/lang/Object;"⟩).before args s = true) (hsame : (Cond.sameMethod ad "java/lang/Object" "clone" "()Ljava/lang/Object;").before args s = true)
    (hnat : (Cond.native ⟨"java/lang/Object", "clone", "()Ljava/lang/Object;"⟩).before args s = true) (hinst : (Cond.instanceMethod ⟨"java/lang/Object", "clone", "()Ljava/lang/Object;"⟩).before args s = true)
    (hsel : (Cond.selects ad ⟨ad, "clone", "()Ljava/lang/Object;"⟩ ⟨"java/lang/Object", "clone", "()Ljava/lang/Object;"⟩).before args s = true) (hcl : (Cond.castable ad "java/lang/Cloneable").before args s = true)
    {cA : ClassId} {ty : FieldType} {a : Nat} {cell : Cell} (hA : ArrOfT s cA ty) (hnm : s.vm.findClass ad = some cA) (hc : H[a]? = some cell) (hcc : cell.cls = cA) (hv : zk_vk cell) (hfit : ∀ (i : Nat) (v : Value), cell.slots[i]? = some v → fits ty v = true)
    (hframes : 1 ≤ R.frames) (hlocals : (rest.map fun v => v.category).sum + 14 ≤ R.locals) (hcells : cells + 1 ≤ R.cells) (hslots : slots + cell.slots.size ≤ R.slots) (hdg : decode cc pc = .ok (.invokevirtual index, 3))
    (kk : ∀ H1 : Heap, H1.size = H.size + 1 → H1[H.size]? = some { cls := cell.cls, slots := cell.slots } → (∀ q : Nat, q < H.size → H1[q]? = H[q]?) →
      W p l e R s m args below meth c H1 locs (cells + 1) (slots + cell.slots.size) Q (F0 m (pc + 3) ls (.ref H.size :: rest))) : W p l e R s m args below meth c H locs cells slots Q (F0 m pc ls (.ref a :: rest)) := by
  obtain ⟨c0, t0', f1, f2, f3⟩ := Cond.castable_spec hcl
  cases hnm.symm.trans f1
  intro T hT X
  have hcellT : T.heap[a]? = some cell := by rw [hT]; exact hc
  obtain ⟨-, kA, hkA, comp, hkind⟩ := State.isArrayOf_alike X.warmed.alike (hA 0 (fun _ => .null))
  obtain ⟨-, kS, hkS, compS, hkindS⟩ := hA 0 (fun _ => .null)
  obtain ⟨v1, v2⟩ := zq_vmk hv
  obtain ⟨vm', X', st⟩ := X.cloneArray hexec hown hlink hsame hnat hinst hsel (a := a) (cell := cell) hcellT v1 v2 (by rw [hcc]; exact hnm) f2 (by rw [hcc]; exact f3)
    (fun i v hvv => by
      rw [hcc]
      have hk' : T.vm.classes[cA]? = some kA := hkA
      simpa [State.fitsSlot, State.slotType?, hk', hkind] using hfit i v hvv)
    (g := F0 m pc ls (.ref a :: rest)) rfl (by rw [hml]) rfl (by rw [hb]; exact hdg) hframes (by show 2 * 0 + _ + 14 ≤ _; omega) hcells hslots (hloader := by rw [hcc]; exact Vm.clonesLoader_of_array hkS hkindS)
  generalize hN : ({ cls := cell.cls, slots := cell.slots } : Cell) = cn at kk X' st
  generalize hH1 : H.push cn = H1
  have z1 : H1.size = H.size + 1 := by rw [← hH1, Array.size_push]
  have e1 : H1[H.size]? = some cn := by rw [← hH1, Array.getElem?_push_size]
  have o1 : ∀ q : Nat, q < H.size → H1[q]? = H[q]? := fun q hq => by rw [← hH1, Array.getElem?_push, if_neg (Nat.ne_of_lt hq)]
  obtain ⟨t, b1, b2⟩ := kk H1 z1 e1 o1 ((T.setVm vm').pushCell cn) (by rw [← hH1, ← hT]; rfl) X'
  refine ⟨t, st t ?_, b2⟩
  rw [hT]
  exact b1
theorem zq_copied {cs cd : Cell} {n : Nat} (h4 : n ≤ cs.slots.size) (h5 : n ≤ cd.slots.size) (j : Nat) (w : Value) (h : (cd.storeRun 0 (cs.stretch 0 n)).slots[j]? = some w) : (∃ i : Nat, cs.slots[i]? = some w) ∨ cd.slots[j]? = some w := by
  have hlen : (cs.stretch 0 n).length = n := by unfold Cell.stretch; rw [List.length_map, List.length_range]
  rw [Cell.storeRun_get cd 0 _ j (by rw [hlen]; omega), hlen] at h
  split at h
  · rename_i hj
    left
    refine ⟨j, ?_⟩
    have hj2 : j < n := by omega
    unfold Cell.stretch at h
    rw [List.getElem?_map, List.getElem?_range (by omega)] at h
    simp only [Option.map_some, Nat.sub_zero, Nat.zero_add] at h
    rw [Array.getD_eq_getD_getElem?, Array.getElem?_eq_getElem (by omega)] at h
    rw [Array.getElem?_eq_getElem (by omega)]
    exact h
  · exact Or.inr h
theorem zq_arrcp (hexec : p.tables.exec = Jvm.exec) (hb : c.code = cc) (hml : c.maxLocals = ls.size) {own : String} {index : Nat} (hown : s.vm.findClass own = some m.cls) (hlink : (Cond.methodLink own index arraycopyName).before args s = true) (hnat : (Cond.native arraycopyName).before args s = true) (hstat : (Cond.static arraycopyName).before args s = true) (hini : (Cond.initialized "java/lang/System").before args s = true)
    {cA : ClassId} {ty : FieldType} {a0 a : Nat} {cs cd : Cell} (hA : ArrOfT s cA ty) (hprim : refKind ty = false) (hs : H[a0]? = some cs) (hd : H[a]? = some cd) (hcs : cs.cls = cA) (hcd : cd.cls = cA) (hvs : zk_vk cs) (hvd : zk_vk cd) {n : Int32} (h3 : 0 ≤ n.toInt) (h4 : n.toInt ≤ cs.slots.size) (h5 : n.toInt ≤ cd.slots.size) (hfit : ∀ (i : Nat) (v : Value), cs.slots[i]? = some v → fits ty v = true ∧ ∀ q, v ≠ .ref q)
    (hframes : 1 ≤ R.frames) (hlocals : (rest.map fun v => v.category).sum + (nativeFrameWords "java/lang/System" "arraycopy" 5 + 11) ≤ R.locals) (hdg : decode cc pc = .ok (.invokestatic index, 3))
    (kk : ∀ (H1 : Heap) (locs1 : List Loc) (cd1 : Cell), H1.size = H.size → H1[a]? = some cd1 → (∀ q : Nat, q ≠ a → H1[q]? = H[q]?) → cd1.cls = cd.cls → cd1.vm = cd.vm → cd1.slots.size = cd.slots.size → (∀ (j : Nat) (w : Value), cd1.slots[j]? = some w → (∃ i : Nat, cs.slots[i]? = some w) ∨ cd.slots[j]? = some w) → (∀ q ∈ locs1, q ∈ locs ∨ q.base = a) → W p l e R s m args below meth c H1 locs1 cells slots Q (F0 m (pc + 3) ls rest)) : W p l e R s m args below meth c H locs cells slots Q (F0 m pc ls (.int n :: .int 0 :: .ref a :: .int 0 :: .ref a0 :: rest)) := by
  intro T hT X
  have hnn := zq_nc h3
  have z0 : (0 : Int32).toInt = 0 := rfl
  have z0n : (0 : Int32).toNatClampNeg = 0 := rfl
  obtain ⟨-, k0, hk0, cm0, hkk0⟩ := hA 0 (fun _ => .null)
  obtain ⟨u1, u2⟩ := zq_vmk hvs
  obtain ⟨w1, w2⟩ := zq_vmk hvd
  obtain ⟨vm', X', step⟩ := X.arraycopy hexec hown hlink hnat hstat hini (src := a0) (dst := a) (cs := cs) (cd := cd) (srcPos := 0) (destPos := 0) (n := n) (by rw [hT]; exact hs) (by rw [hT]; exact hd)
    u1 w1 u2 w2 (by rw [hcs]; exact hk0) (by rw [hcd]; exact hk0) hkk0 hkk0 (by simp [hprim]) (by decide) (by decide) (fun z => absurd (Int32.lt_iff_toInt_lt.mp z) (Int.not_lt.mpr h3))
    (by rw [z0]; omega) (by rw [z0]; omega)
    (fun vm₁ _ i hi => by
      have hi2 : i < cs.slots.size := by omega
      have e : cs.slots.getD ((0 : Int32).toNatClampNeg + i) .null = cs.slots[i] := by
        rw [z0n, Nat.zero_add, Array.getD_eq_getD_getElem?, Array.getElem?_eq_getElem hi2]
        rfl
      obtain ⟨g1, g2⟩ := hfit i cs.slots[i] (Array.getElem?_eq_getElem hi2)
      refine ⟨?_, ?_⟩
      · rw [e]; exact g1
      · rw [e]
        generalize cs.slots[i] = vv at g2
        cases vv <;> first | exact trivial | exact absurd rfl (g2 _))
    (g := F0 m pc ls (.int n :: .int 0 :: .ref a :: .int 0 :: .ref a0 :: rest)) rfl (by rw [hml]) (rest := rest) rfl (by rw [hb]; exact hdg) hframes (by show 2 * 0 + _ + _ ≤ _; omega)
  obtain ⟨g1, g2, g3, -, -⟩ := cd.storeRun_facts 0 (cs.stretch 0 n.toNatClampNeg)
  have hget := zq_copied (cs := cs) (cd := cd) (n := n.toNatClampNeg) (by omega) (by omega)
  have ec : copied cs cd 0 0 n = cd.storeRun 0 (cs.stretch 0 n.toNatClampNeg) := rfl
  rw [ec] at X' step
  generalize cd.storeRun 0 (cs.stretch 0 n.toNatClampNeg) = cn at X' step g1 g2 g3 hget
  have hl : a < H.size := (Array.getElem?_eq_some_iff.mp hd).1
  have hheap : ((T.setVm vm').setCell a cn).heap = H.setIfInBounds a cn := by rw [← hT]; rfl
  obtain ⟨t, a1, b1⟩ := kk _ _ cn (by simp) (show (H.setIfInBounds a cn)[a]? = some cn by simp [Array.getElem?_setIfInBounds, hl]) (fun q hq => by simp [Array.getElem?_setIfInBounds, Ne.symm hq]) g1 g2 g3 hget (fun q hq => by
      rcases List.mem_append.mp hq with h | h
      · exact Or.inl h
      · obtain ⟨z, -, hz⟩ := List.mem_map.mp h
        rw [← hz]
        exact Or.inr rfl) _ hheap X'
  exact ⟨t, step t a1, b1⟩
end ZC1
