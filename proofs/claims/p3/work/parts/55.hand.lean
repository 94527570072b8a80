/-! BY HAND, 1: calls by contracts with an answer and a heap; the functions that are said -/
noncomputable section
def zh_Met (l : Launch) (base : Nat) (K : State → Prop) (y : MethodName) (ws : List Jvm.Cond) (rm : Room) (As : List Value) (H : Heap) (Φ : Option Value → Heap → Prop) : Prop :=
  Met l y ws rm (fun a U => a = As.toArray ∧ U.heap = H ∧ K U) (fun _ _ o t => ∃ ov, o = .returned ov ∧ Φ ov t.heap) 0 0 (fun q => base ≤ q)
section ZH
variable {p : Program} {l : Launch} {e : Env} {R : Room} {s : State} {m : MethodId} {args : Array Value} {below : List Frame} {meth : Method} {c : Code} {Q : State → Prop} {KT : List zk_K} {D : zk_D} {base : Nat} {Hb : Heap} {n0 nL : Nat} {v0 : Nat → Value} {E : List (Nat × Nat)} {G0 : Nat → Nat} {H0 : Heap} {cc : ByteArray}
variable {cells slots pc : Nat} {x : zk_S}
variable {K : State → Prop} {y : MethodName} {rm : Room} {bytes : ByteArray} {maxL n index : Nat} {ret : Option FieldType} {tb : List Jvm.Cond} {own : String} {As rest : List Value} {Φ : Option Value → Heap → Prop} {H : Heap} {locs : List Loc} {ls : Array Slot}
theorem zh_blind {As : List Value} (hKm : zk_Km K) : FrameBlind (fun a U => a = As.toArray ∧ U.heap = H ∧ K U) := fun a U g mk h => ⟨h.1, h.2.1, hKm.1 U g mk a h.2.2⟩
theorem zh_go {st0 : List Value} (hr : va_Run p l e R s m args below meth c H locs cells slots 0 0 (F0 m pc ls st0) rest (fun _ o t => ∃ ov, o = .returned ov ∧ Φ ov t.heap) (fun q => base ≤ q)) (hl : ∀ q ∈ locs, base ≤ q.base)
    (kk : ∀ (o : Option Value) (H' : Heap) (locs' : List Loc), Φ o H' → (∀ q ∈ locs', base ≤ q.base) → W p l e R s m args below meth c H' locs' cells slots Q (F0 m (pc + 3) ls (o.toList ++ rest))) : W p l e R s m args below meth c H locs cells slots Q (F0 m pc ls st0) := by
  intro T hT X
  obtain ⟨w, st₀, t, T', L, h0, X', hL, e1, e2, ⟨ov, hv, hq⟩, st⟩ := hr T hT X
  cases hv
  obtain ⟨t2, a1, b1⟩ := kk w T'.heap (locs ++ L) (by rw [e1]; exact hq) (fun q hq' => (List.mem_append.mp hq').elim (hl q) (hL q)) T' rfl X'
  exact ⟨t2, st t2 a1, b1⟩
theorem zh_callV {b : Nat} {big : List Jvm.Cond} (hbig : ∀ w ∈ tb, w ∈ big) (ha : zg_all tb) (S : CallFix p m c cc nL s args big own) (hK : K s) (hKm : zk_Km K) (hrm : rm.cells = 0 ∧ rm.slots = 0) (hM : zh_Met l base K y (.code y bytes maxL ret :: tb) rm (.ref b :: As) H Φ) (a1 : Jvm.Cond.methodLink own index y ∈ tb) (hy : (Jvm.Cond.instanceMethod y ∈ tb ∧ Jvm.Cond.selects y.cls y y ∈ tb ∧ Jvm.Cond.initialized y.cls ∈ tb ∧ Jvm.Cond.code y bytes maxL ret ∈ tb) ∧ zg_dm y n) (hcell : ∃ cell : Cell, H[b]? = some cell ∧ zk_vk cell ∧ s.vm.findClass y.cls = some cell.cls) (hn : As.length = n) (hsz : ls.size = nL) (hcat : Nat.ble ((rest.map fun v => v.category).sum) 8 = true) (hR : Nat.ble (rm.frames + 1) R.frames = true ∧ Nat.ble (8 + (maxL + 11) + rm.locals) R.locals = true) (hc1 : cells ≤ R.cells) (hc2 : slots ≤ R.slots) (hdg : decode cc pc = .ok (.invokevirtual index, 3)) (hl : ∀ q ∈ locs, base ≤ q.base)
    (kk : ∀ (o : Option Value) (H' : Heap) (locs' : List Loc), Φ o H' → (∀ q ∈ locs', base ≤ q.base) → W p l e R s m args below meth c H' locs' cells slots Q (F0 m (pc + 3) ls (o.toList ++ rest))) : W p l e R s m args below meth c H locs cells slots Q (F0 m pc ls (As.reverse ++ .ref b :: rest)) := by
  obtain ⟨⟨b1, b2, b3, b4⟩, d1, d2, d3⟩ := hy
  obtain ⟨hx, hb, hml, hown, hts⟩ := S
  obtain ⟨cell, k1, k2, k3⟩ := hcell
  refine zh_go (va_runV (As := As) (rest := rest) (b := b) ⟨hx, hb, hml, hown, hts⟩ hM (cwV n hts (fun w hw => ?_) rfl hrm.1 hrm.2 ⟨rfl, d1, d2, d3⟩ ⟨Nat.le_of_ble_eq_true hR.1, Nat.le_of_ble_eq_true hR.2⟩) ⟨zh_blind hKm, ⟨cell, k1, k2.2, k3⟩, fun U hU hW => ⟨rfl, hU, hKm.2 s U hW hK⟩⟩ rfl hn hsz rfl (lv_room (Nat.le_of_ble_eq_true hcat)) hdg ⟨hc1, hc2⟩) hl kk
  have : w ∈ tb := by
    unfold wsV at hw
    rcases List.mem_append.mp hw with hw | hw
    · simp only [List.mem_cons, List.not_mem_nil, or_false] at hw
      rcases hw with rfl | rfl | rfl | rfl
      · exact a1
      · exact b1
      · exact b2
      · exact b3
    · exact zg_code b4 w hw
  exact ⟨hbig w this, good_of_word (ha w this)⟩
theorem zh_callS {big : List Jvm.Cond} (hbig : ∀ w ∈ tb, w ∈ big) (ha : zg_all tb) (S : CallFix p m c cc nL s args big own) (hK : K s) (hKm : zk_Km K) (hrm : rm.cells = 0 ∧ rm.slots = 0) (hM : zh_Met l base K y (.code y bytes maxL ret :: tb) rm As H Φ) (a1 : Jvm.Cond.methodLink own index y ∈ tb) (hy : (Jvm.Cond.static y ∈ tb ∧ Jvm.Cond.initialized y.cls ∈ tb ∧ Jvm.Cond.code y bytes maxL ret ∈ tb) ∧ zg_dm y n) (hn : As.length = n) (hsz : ls.size = nL) (hcat : Nat.ble ((rest.map fun v => v.category).sum) 8 = true) (hR : Nat.ble (rm.frames + 1) R.frames = true ∧ Nat.ble (8 + (maxL + 11) + rm.locals) R.locals = true) (hc1 : cells ≤ R.cells) (hc2 : slots ≤ R.slots) (hdg : decode cc pc = .ok (.invokestatic index, 3)) (hl : ∀ q ∈ locs, base ≤ q.base)
    (kk : ∀ (o : Option Value) (H' : Heap) (locs' : List Loc), Φ o H' → (∀ q ∈ locs', base ≤ q.base) → W p l e R s m args below meth c H' locs' cells slots Q (F0 m (pc + 3) ls (o.toList ++ rest))) : W p l e R s m args below meth c H locs cells slots Q (F0 m pc ls (As.reverse ++ rest)) := by
  obtain ⟨⟨b1, b3, b4⟩, d1, d2, d3⟩ := hy
  obtain ⟨hx, hb, hml, hown, hts⟩ := S
  exact zh_go (va_runS (As := As) (rest := rest) ⟨hx, hb, hml, hown, hts⟩ hM ⟨callB_of n hts (zg_in ha hbig (zg_code b4)) rfl hrm.1 hrm.2 (hts _ (hbig _ b3)) (hts _ (hbig _ a1)) ⟨d1, d2, d3⟩ ⟨Nat.le_of_ble_eq_true hR.1, Nat.le_of_ble_eq_true hR.2⟩, hts _ (hbig _ b1)⟩ ⟨zh_blind hKm, fun U hU hW => ⟨rfl, hU, hKm.2 s U hW hK⟩⟩ rfl hn hsz rfl (lv_room (Nat.le_of_ble_eq_true hcat)) hdg ⟨hc1, hc2⟩) hl kk
end ZH
def zf_in (a lo hi : Int32) : Int32 := if lo ≤ a ∧ a ≤ hi then 1 else 0
theorem zf_in_0 (a lo hi : Int32) : (zf_in a lo hi = 0) ↔ ¬ (lo ≤ a ∧ a ≤ hi) := by
  unfold zf_in
  split
  · rename_i h; exact ⟨fun q => absurd q (by decide), fun q => absurd h q⟩
  · rename_i h; exact ⟨fun _ => h, fun _ => rfl⟩
def zf_ushr (x y : Int32) : Int32 := (x.toUInt32 >>> (y.toUInt32 &&& Int32.toUInt32 31)).toInt32
/-- the first k from i on, of j more, where X shifted by k passes Y -/
def zf_el (X Y : Int64) : Nat → Nat → Int32
  | 0, _ => -1
  | j + 1, i => if Y < X <<< ((nI i).toInt64 &&& 63) then nI i else zf_el X Y j (i + 1)
theorem zf_el_s (X Y : Int64) (j i : Nat) : zf_el X Y (j + 1) i = if Y < X <<< ((nI i).toInt64 &&& 63) then nI i else zf_el X Y j (i + 1) := rfl
def zf_ends (n p q g : Int32) : Int32 := if 0 ≤ n ∧ n ≤ 1000000 ∧ 0 ≤ q ∧ q ≤ 1000000 ∧ 0 ≤ p ∧ p ≤ 1000 ∧ 0 ≤ g ∧ g ≤ 1000 then zf_el (n.toInt64 * p.toInt64) (q.toInt64 * g.toInt64) 21 0 else -1
theorem zf_shl (x y : Int64) : x * ((1 : Int64) <<< y) = x <<< y := by
  apply Int64.toBitVec_inj.mp
  rw [Int64.toBitVec_mul, Int64.toBitVec_shiftLeft, Int64.toBitVec_shiftLeft]
  show x.toBitVec * (1#64 <<< _) = _
  rw [BitVec.shiftLeft_eq', BitVec.shiftLeft_eq', BitVec.shiftLeft_eq_mul_twoPow x.toBitVec, BitVec.twoPow_eq]
end
