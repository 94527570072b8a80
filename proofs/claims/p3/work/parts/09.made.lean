/-! ENGINE, 8: new objects and arrays, a cell that becomes what it was made for -/
noncomputable section
/-- the default of a field: 0 an int, 1 a long, else a reference -/
def zk_dv (d : Nat) : Value := if d = 0 then .int 0 else if d = 1 then .long 0 else .null
def zk_dt (d : Nat) (t : zk_T) : zk_T := if d = 0 then (0, 0, 0) else if d = 1 then (1, 0, 0) else (2, t.2.1, 1)
theorem zk_dv_ok (G : Nat → Nat) (d : Nat) (t : zk_T) : zk_tv G (zk_dv d) (zk_dt d t) := by
  unfold zk_dv zk_dt
  by_cases h0 : d = 0
  · rw [if_pos h0, if_pos h0]; exact ⟨0, rfl, by decide, by decide⟩
  · rw [if_neg h0, if_neg h0]
    by_cases h1 : d = 1
    · rw [if_pos h1, if_pos h1]; exact ⟨0, rfl, by decide, by decide⟩
    · rw [if_neg h1, if_neg h1]; exact Or.inr ⟨show (1 : Int) ≠ 0 by decide, rfl⟩
/-- the default is of the type t -/
def zk_dk (d : Nat) (t : zk_T) : Bool := bif Nat.blt t.1 2 then Nat.beq d t.1 && zk_ile t.2.1 0 && zk_ile 0 t.2.2 else bif Nat.beq t.1 2 then Nat.blt 1 d && !(zk_ieq t.2.2 0) else true
theorem zk_dk_ok {G : Nat → Nat} {d a : Nat} {t : zk_T} (h : zk_dk d t = true) : zk_ct G a (zk_dv d) t := by
  obtain ⟨k, b, c⟩ := t
  match k, h with
  | 0, h =>
    obtain ⟨h, h3⟩ := Bool.and_eq_true_iff.mp h
    obtain ⟨h1, h2⟩ := Bool.and_eq_true_iff.mp h
    rw [Nat.eq_of_beq_eq_true h1]
    exact ⟨⟨0, rfl, (zk_ile_iff _ _).mp h2, (zk_ile_iff _ _).mp h3⟩, fun z => absurd z (show ¬ (0 : Nat) = 2 by decide)⟩
  | 1, h =>
    obtain ⟨h, h3⟩ := Bool.and_eq_true_iff.mp h
    obtain ⟨h1, h2⟩ := Bool.and_eq_true_iff.mp h
    rw [Nat.eq_of_beq_eq_true h1]
    exact ⟨⟨0, rfl, (zk_ile_iff _ _).mp h2, (zk_ile_iff _ _).mp h3⟩, fun z => absurd z (show ¬ (1 : Nat) = 2 by decide)⟩
  | 2, h =>
    obtain ⟨h1, h2⟩ := Bool.and_eq_true_iff.mp h
    have h1 : 1 < d := by simpa using h1
    have e : zk_dv d = .null := by unfold zk_dv; rw [if_neg (by omega), if_neg (by omega)]
    rw [e]
    refine ⟨Or.inr ⟨fun z => ?_, rfl⟩, fun _ _ => by simp only [zk_i]; omega⟩
    have z : c = 0 := z
    subst z
    have h2 : (!zk_ieq (0 : Int) 0) = true := h2
    exact absurd h2 (by decide)
  | n + 3, _ => exact ⟨trivial, fun z => absurd z (by show ¬ n + 3 = 2; omega)⟩
/-- the state behind 'new' of the kind k, of N fields with these defaults -/
def zk_nw (KT : List zk_K) (x : zk_S) (k : Nat) (df : List Nat) : zk_S :=
  let N := df.length
  (x.1 + 1 + N, x.2.1, x.1 :: x.2.2.1, (x.1, 2, (k : Int), 0) :: (List.range N).map (fun f => (x.1 + 1 + f, zk_dt (df.getD f 0) ((zk_kd KT (zk_fin KT k)).2.2.1.getD f (3, 0, 0)))) ++ x.2.2.2.1, x.2.2.2.2.1,
    (List.range N).map (fun f => (x.1, f, x.1 + 1 + f)) ++ x.2.2.2.2.2.1, x.2.2.2.2.2.2.1, x.2.2.2.2.2.2.2.1, x.2.2.2.2.2.2.2.2.1, some x.1)
theorem zk_cast_ne {a : Nat} (h : a ≠ 0) : (a : Int) ≠ 0 := by omega
section ZN
variable {p : Program} {l : Launch} {e : Env} {R : Room} {s : State} {m : MethodId} {args : Array Value} {below : List Frame} {meth : Method} {c : Code} {Q : State → Prop} {KT : List zk_K} {D : zk_D} {base : Nat} {Hb : Heap} {n0 nL : Nat} {v0 : Nat → Value} {E : List (Nat × Nat)} {G0 : Nat → Nat} {H0 : Heap} {cc : ByteArray}
variable {cells slots pc : Nat} {x : zk_S}
def zk_nok (p : Program) (l : Launch) (e : Env) (R : Room) (s : State) (m : MethodId) (args : Array Value) (below : List Frame) (meth : Method) (c : Code) (Q : State → Prop) (D : zk_D) (cc : ByteArray) (idx ci : Nat) (df : List Nat) : Prop :=
  ∀ {H : Heap} {locs : List Loc} {cells slots pc : Nat} {ls : Array Slot} {rv : List Value}, cells + 1 ≤ R.cells → slots + df.length ≤ R.slots → decode cc pc = .ok (.new idx, 3) →
    (∀ (H' : Heap) (cell : Cell), H'[H.size]? = some cell → cell.cls = D.1 ci → cell.vm = .none → (∀ (f d : Nat), df[f]? = some d → cell.slots[D.2.1 ci f]? = some (zk_dv d)) → H'.size = H.size + 1 → (∀ q : Nat, q < H.size → H'[q]? = H[q]?) →
      W p l e R s m args below meth c H' locs (cells + 1) (slots + df.length) Q (F0 m (pc + 3) ls (.ref H.size :: rv))) → W p l e R s m args below meth c H locs cells slots Q (F0 m pc ls rv)
theorem zs_new {idx ci k : Nat} {df : List Nat} (hkt : zk_kt KT) (hrk : (zk_kd KT k).2.2.2.2.2.2.2 = 0) (hg : zk_nok p l e R s m args below meth c Q D cc idx ci df) (hk0 : k ≠ 0) (hk : (zk_kd KT k).1 = 0) (hci : (zk_kd KT k).2.1 = ci) (hni : (zk_kd KT k).2.2.2.2.2.1 = []) (hlen : (zk_kd KT k).2.2.1.length = df.length)
    (hdf : ((zk_kd KT k).2.2.1.zip df).all (fun q => zk_dk q.2 q.1) = true) (hc1 : cells + 1 ≤ R.cells) (hc2 : slots + df.length ≤ R.slots) (hdg : decode cc pc = .ok (.new idx, 3))
    (kk : zk_G p l e R s m args below meth c Q KT D base Hb n0 nL v0 E G0 H0 (cells + 1) (slots + df.length) (pc + 3) (zk_nw KT x k df)) : zk_G p l e R s m args below meth c Q KT D base Hb n0 nL v0 E G0 H0 cells slots pc x := by
  intro G H locs ls vs v hp he hl hF hL
  obtain ⟨e1, hlt⟩ := zk_LS_stk hL
  subst e1
  refine hg hc1 hc2 hdg (fun H' cell h1 h2 h3 h4 h5 h6 => ?_)
  have hok : zk_oc KT D (zk_un G H.size k) k H.size cell := by
    refine ⟨⟨zk_vk_of h3, fun _ => h3⟩, fun _ => ⟨by rw [hci]; exact h2, fun f t ht => ?_⟩, fun z => absurd hk z⟩
    have hf := zk_lt_len ht
    have hd : df[f]? = some df[f] := List.getElem?_eq_getElem (by omega)
    refine ⟨zk_dv df[f], by unfold zk_sl; rw [hci]; exact h4 f _ hd, zk_dk_ok ?_⟩
    have hz : (t, df[f]) ∈ (zk_kd KT k).2.2.1.zip df := by
      refine List.mem_of_getElem? (i := f) ?_
      rw [List.getElem?_zip_eq_some]; exact ⟨ht, hd⟩
    exact List.all_eq_true.mp hdf _ hz
  obtain ⟨n1, n2, n3⟩ := zk_hp_new hkt.1 hp rfl hk0 hrk hni hok h1 h5 h6
  have hF2 := zk_F_ev (keep := false) hkt hF n2 (fun z => by cases z)
  let v2 : Nat → Value := fun z => if z < x.1 then v z else if z = x.1 then .ref H.size else zk_dv (df.getD (z - (x.1 + 1)) 0)
  have hv2 : ∀ y, y < x.1 → v2 y = v y := fun y hy => if_pos hy
  have hvn : v2 x.1 = .ref H.size := by show (if x.1 < x.1 then _ else _) = _; rw [if_neg (Nat.lt_irrefl _), if_pos rfl]
  have hvf : ∀ f, v2 (x.1 + 1 + f) = zk_dv (df.getD f 0) := by
    intro f
    show (if x.1 + 1 + f < x.1 then _ else _) = _
    rw [if_neg (by omega), if_neg (by omega)]
    congr 2; omega
  have hext := zk_F_ext (v' := v2) (n' := x.1 + 1 + df.length) hF2 (by show x.1 ≤ _; omega) (fun y hy => hv2 y hy)
  have hLx := zk_LS_ext (v' := v2) (n' := x.1 + 1 + df.length) hL (by omega) hv2
  refine kk _ H' locs ls _ v2 n1 (zk_ev_tr hkt he (zk_ev_sb (by rfl) n2)) hl ?_ ?_
  · unfold zk_nw
    obtain ⟨n, loc, stk, tys, rel, fld, len, pf, msc, la⟩ := x
    obtain ⟨a1, a2, a3, a4, a5, a6, a7⟩ := hext
    refine ⟨fun q hq => ?_, a2, fun q hq => ?_, a4, a5, fun q hq => zk_ms_ext (by show n ≤ n + 1 + df.length; omega) hv2 (zk_ms_new (fun a ha => zk_un_ne (by omega)) h6 (hF.2.2.2.2.2.1 q hq)), fun y hy => ?_⟩
    · rcases List.mem_cons.mp hq with rfl | hq
      · refine ⟨by show n < n + 1 + df.length; omega, ?_⟩
        show zk_tv _ (v2 n) _
        rw [hvn]
        refine Or.inl ⟨H.size, rfl, ?_, ?_⟩
        · rw [zk_un_at]
        · rw [zk_un_at]; exact hk0
      · rcases List.mem_append.mp hq with hq | hq
        · obtain ⟨f, hf, rfl⟩ := List.mem_map.mp hq
          have hf := List.mem_range.mp hf
          refine ⟨by show n + 1 + f < n + 1 + df.length; omega, ?_⟩
          show zk_tv _ (v2 (n + 1 + f)) _
          rw [hvf]; exact zk_dv_ok _ _ _
        · have hm : q ∈ (zk_ex KT [] (n, loc, stk, tys, rel, fld, len, pf, msc, la) false).2.2.2.1 := by
            refine List.mem_filter.mpr ⟨hq, ?_⟩
            simp [zk_me_eq]
          exact a1 q hm
    · rcases List.mem_append.mp hq with hq | hq
      · obtain ⟨f, hf, rfl⟩ := List.mem_map.mp hq
        have hf := List.mem_range.mp hf
        refine ⟨by show n < n + 1 + df.length; omega, by show n + 1 + f < n + 1 + df.length; omega, zk_fl_mk ⟨H.size, cell, hvn, by rw [zk_un_at]; exact hk0, by rw [zk_un_at]; exact hk, by rw [zk_un_at, hlen]; exact hf, h1, ?_⟩⟩
        rw [zk_un_at]
        show cell.slots[zk_sl KT D k f]? = some (v2 (n + 1 + f))
        rw [hvf]
        unfold zk_sl; rw [hci]
        have hd : df[f]? = some (df.getD f 0) := by rw [List.getD_eq_getElem?_getD, List.getElem?_eq_getElem hf]; rfl
        exact h4 f _ hd
      · obtain ⟨i1, i2, i3⟩ := zk_F_fl hF q hq
        refine ⟨by show q.1 < n + 1 + df.length; have : q.1 < n := i1; omega, by show q.2.2 < n + 1 + df.length; have : q.2.2 < n := i2; omega, ?_⟩
        show zk_fl KT D _ H' (v2 q.1) q.2.1 (v2 q.2.2)
        rw [hv2 _ i1, hv2 _ i2]
        exact zk_fl_ev0 hkt n2 i3
    · cases hy
      exact ⟨by show n < n + 1 + df.length; omega, H.size, hvn, h5⟩
  · obtain ⟨n, loc, stk, rest⟩ := x
    obtain ⟨i1, i2, i3, i4, i5, i6⟩ := hLx
    refine ⟨i1, i2, i3, i4, ?_, fun y hy => ?_⟩
    · show Value.ref H.size :: stk.map v = v2 n :: stk.map v2
      rw [hvn, ← i5]
    · rcases List.mem_cons.mp hy with rfl | hy
      · show y < y + 1 + df.length; omega
      · exact i6 y hy
/-- a new array of the kind k -/
theorem zs_newa {k z tag d pc' : Nat} {rest : List Nat} {t : zk_T} (hkt : zk_kt KT) (hrk : (zk_kd KT k).2.2.2.2.2.2.2 = 0) (hs : x.2.2.1 = z :: rest) (hz : (zk_lk x.2.2.2.1 z).1 = 0) (hk0 : k ≠ 0) (hk : (zk_kd KT k).1 ≠ 0) (htag : (zk_kd KT k).2.1 = tag) (hni : (zk_kd KT k).2.2.2.2.2.1 = []) (htf : (zk_kd KT k).2.2.1[0]? = some t) (hdk : zk_dk d t = true)
    (hlo0 : 0 ≤ (zk_lk x.2.2.2.1 z).2.1) (hlo : (zk_kd KT k).2.2.2.1 ≤ (zk_lk x.2.2.2.1 z).2.1) (hhi : (zk_lk x.2.2.2.1 z).2.2 ≤ (zk_kd KT k).2.2.2.2.1) (hc1 : cells + 1 ≤ R.cells) (hc2 : slots + (zk_lk x.2.2.2.1 z).2.2.toNat ≤ R.slots)
    (row : ∀ {H : Heap} {locs : List Loc} {ls : Array Slot} {rv : List Value} {w : Int32}, ¬ w < 0 → w.toNatClampNeg ≤ (zk_lk x.2.2.2.1 z).2.2.toNat → slots + w.toNatClampNeg ≤ R.slots →
      (∀ (H' : Heap) (cell : Cell), H'[H.size]? = some cell → cell.cls = D.2.2.1 tag → cell.vm = .none → cell.slots.size = w.toNatClampNeg → (∀ (j : Nat) (u : Value), cell.slots[j]? = some u → u = zk_dv d) → H'.size = H.size + 1 → (∀ q : Nat, q < H.size → H'[q]? = H[q]?) →
        W p l e R s m args below meth c H' locs (cells + 1) (slots + w.toNatClampNeg) Q (F0 m pc' ls (.ref H.size :: rv))) → W p l e R s m args below meth c H locs cells slots Q (F0 m pc ls (.int w :: rv)))
    (kk : zk_G p l e R s m args below meth c Q KT D base Hb n0 nL v0 E G0 H0 (cells + 1) (slots + (zk_lk x.2.2.2.1 z).2.2.toNat) pc' (x.1 + 1, x.2.1, x.1 :: rest, (x.1, 2, (k : Int), 0) :: x.2.2.2.1, x.2.2.2.2.1, x.2.2.2.2.2.1, (x.1, z) :: x.2.2.2.2.2.2.1, x.2.2.2.2.2.2.2.1, (bif Nat.beq d 0 then [(11, x.1, 0, 0)] else []) ++ x.2.2.2.2.2.2.2.2.1, some x.1)) : zk_G p l e R s m args below meth c Q KT D base Hb n0 nL v0 E G0 H0 cells slots pc x := by
  intro G H locs ls vs v hp he hl hF hL
  obtain ⟨e1, hlt⟩ := zk_LS_stk hL
  subst e1
  obtain ⟨w, ew, w1, w2⟩ := zk_gi (zk_F_ty hF z) hz
  rw [hs] at hlt ⊢
  have lz := hlt z List.mem_cons_self
  rw [List.map_cons, ew]
  have hw0 : ¬ w < 0 := fun q => by
    have q := Int32.lt_iff_toInt_lt.mp q
    rw [show (0 : Int32).toInt = 0 from rfl] at q
    omega
  have hwn : (w.toNatClampNeg : Int) = w.toInt := by rw [Int32.toNatClampNeg]; omega
  refine row hw0 (by omega) (by omega) (fun H' cell h1 h2 h3 h4 h5 h6 h7 => ?_)
  have hok : zk_oc KT D (zk_un G H.size k) k H.size cell := by
    refine ⟨⟨zk_vk_of h3, fun _ => h3⟩, fun q => absurd q hk, fun _ => ⟨by rw [htag]; exact h2, by rw [h4]; omega, by rw [h4]; omega, fun t' ht' j u hu => ?_⟩⟩
    rw [htf] at ht'; cases ht'
    rw [h5 j u hu]; exact zk_dk_ok hdk
  obtain ⟨n1, n2, n3⟩ := zk_hp_new hkt.1 hp rfl hk0 hrk hni hok h1 h6 h7
  have hF2 := zk_F_ev (keep := false) hkt hF n2 (fun z => by cases z)
  let v2 : Nat → Value := zk_up v x.1 (.ref H.size)
  have hv2 : ∀ y, y < x.1 → v2 y = v y := fun y hy => zk_up_lt hy
  have hvn : v2 x.1 = .ref H.size := zk_up_at _ _ _
  have hext := zk_F_ext (v' := v2) (n' := x.1 + 1) hF2 (by show x.1 ≤ _; omega) (fun y hy => hv2 y hy)
  have hLx := zk_LS_ext (v' := v2) (n' := x.1 + 1) hL (by omega) hv2
  refine W.widen (k := cells + 1) (n := slots + (zk_lk x.2.2.2.1 z).2.2.toNat) (Nat.le_refl _) (by omega) (kk _ H' locs ls _ v2 n1 (zk_ev_tr hkt he (zk_ev_sb (by rfl) n2)) hl ?_ ?_)
  · obtain ⟨n, loc, stk, tys, rel, fld, len, pf, msc, la⟩ := x
    obtain ⟨a1, a2, a3, a4, a5, a6, a7⟩ := hext
    refine ⟨fun q hq => ?_, a2, fun q hq => ?_, fun q hq => ?_, a5, fun q hq => by
      rcases List.mem_append.mp hq with hq | hq
      · cases hd0 : Nat.beq d 0
        · rw [hd0] at hq; exact absurd hq List.not_mem_nil
        · rw [hd0] at hq
          have hq := List.mem_singleton.mp hq
          subst hq
          refine zk_ms11i ⟨Nat.lt_succ_self _, H.size, cell, hvn, by rw [zk_un_at]; exact hk0, h1, fun j w hw => ?_⟩
          rw [h5 j w hw]
          unfold zk_dv
          rw [if_pos (Nat.eq_of_beq_eq_true hd0)]
      · exact zk_ms_ext (Nat.le_succ _) hv2 (zk_ms_new (fun a ha => zk_un_ne (by omega)) h7 (hF.2.2.2.2.2.1 q hq)), fun y hy => ?_⟩
    · rcases List.mem_cons.mp hq with rfl | hq
      · refine ⟨Nat.lt_succ_self _, ?_⟩
        show zk_tv _ (v2 n) _
        rw [hvn]
        exact Or.inl ⟨H.size, rfl, by rw [zk_un_at], by rw [zk_un_at]; exact hk0⟩
      · have hm : q ∈ (zk_ex KT [] (n, loc, stk, tys, rel, fld, len, pf, msc, la) false).2.2.2.1 := by
          refine List.mem_filter.mpr ⟨hq, ?_⟩
          simp [zk_me_eq]
        exact a1 q hm
    · obtain ⟨i1, i2, i3⟩ := zk_F_fl hF q hq
      refine ⟨Nat.lt_succ_of_lt i1, Nat.lt_succ_of_lt i2, ?_⟩
      show zk_fl KT D _ H' (v2 q.1) q.2.1 (v2 q.2.2)
      rw [hv2 _ i1, hv2 _ i2]
      exact zk_fl_ev0 hkt n2 i3
    · rcases List.mem_cons.mp hq with rfl | hq
      · refine ⟨Nat.lt_succ_self _, Nat.lt_succ_of_lt lz, H.size, cell, hvn, by rw [zk_un_at]; exact hk0, by rw [zk_un_at]; exact hk, h1, ?_⟩
        show zk_i (v2 z) = _
        rw [hv2 _ lz, ew, h4]; exact hwn.symm
      · exact a4 q hq
    · cases hy
      exact ⟨Nat.lt_succ_self _, H.size, hvn, h6⟩
  · obtain ⟨n, loc, stk, restx⟩ := x
    obtain ⟨i1, i2, i3, i4, i5, i6⟩ := hLx
    have hs : stk = z :: rest := hs
    subst hs
    refine ⟨i1, i2, i3, i4, ?_, fun y hy => ?_⟩
    · show Value.ref H.size :: rest.map v = v2 n :: rest.map v2
      rw [hvn]
      congr 1
      exact (List.map_congr_left fun y hy => hv2 y (hlt y (List.mem_cons_of_mem _ hy))).symm
    · rcases List.mem_cons.mp hy with rfl | hy
      · exact Nat.lt_succ_self _
      · exact i6 y (List.mem_cons_of_mem _ hy)
/-- y becomes what it was made for -/
def zk_ro (KT : List zk_K) (x : zk_S) (y k : Nat) : Bool :=
  let k' := zk_kd KT (zk_fin KT k)
  ((List.range k'.2.2.1.length).all fun f => Nat.blt f 1000 && x.2.2.2.2.2.1.any fun r => Nat.beq r.1 y && Nat.beq r.2.1 f && zk_sc x r.2.2 y (k'.2.2.1.getD f (3, 0, 0))) &&
  (k'.2.2.2.2.2.1.all fun q => Nat.blt q.2.1 1000 && Nat.blt q.2.2 1000 && x.2.2.2.2.2.1.any fun r => Nat.beq r.1 y && Nat.beq r.2.1 q.2.1 && Nat.beq (zk_lk x.2.2.2.1 r.2.2).1 2 && zk_ieq (zk_lk x.2.2.2.1 r.2.2).2.2 0 && !(Nat.beq (zk_kd KT (zk_lk x.2.2.2.1 r.2.2).2.1.toNat).1 0) &&
    x.2.2.2.2.2.1.any fun r2 => Nat.beq r2.1 y && Nat.beq r2.2.1 q.2.2 && Nat.beq (zk_lk x.2.2.2.1 r2.2.2).1 0 && (bif Nat.beq q.1 0 then zk_pc x r.2.2 r2.2.2 0 else zk_lc KT x r.2.2 r2.2.2 0))
def zk_ra (KT : List zk_K) (x : zk_S) (y k : Nat) : Bool :=
  let k0 := zk_kd KT k
  let k' := zk_kd KT (zk_fin KT k)
  Nat.beq k'.2.2.1.length 1 && zk_ile k'.2.2.2.1 k0.2.2.2.1 && zk_ile k0.2.2.2.2.1 k'.2.2.2.2.1 && (match k0.2.2.1, k'.2.2.1 with
    | [t], [t'] => Nat.beq t.1 2 && Nat.beq t'.1 2 && zk_ieq t.2.1 t'.2.1 && !(zk_ieq t.2.2 2) && !(zk_ieq t'.2.2 2)
    | _, _ => false) && (match k'.2.2.2.2.2.1 with | [] => true | _ => false) && x.2.2.2.2.2.2.1.any fun r => Nat.beq r.1 y && zk_pc x y r.2 0
theorem zs_rt {y k : Nat} (hkt : zk_kt KT) (ht : (zk_lk x.2.2.2.1 y).1 = 2) (hz : (zk_lk x.2.2.2.1 y).2.2 = 0) (hkk : (zk_lk x.2.2.2.1 y).2.1.toNat = k) (hne : zk_fin KT k ≠ k) (hf0 : zk_fin KT k ≠ 0) (hro : (zk_kd KT k).2.2.2.2.2.2.2 = 0) (hy : y < x.1) (h : (bif Nat.beq (zk_kd KT k).1 0 then zk_ro KT x y k else zk_ra KT x y k) = true) (hE : zk_me E k 1000 = true)
    (kk : zk_G p l e R s m args below meth c Q KT D base Hb n0 nL v0 E G0 H0 cells slots pc (zk_ad (zk_ex KT [(k, 1000)] x true) [(y, 2, (zk_fin KT k : Int), 0)] [] [])) : zk_G p l e R s m args below meth c Q KT D base Hb n0 nL v0 E G0 H0 cells slots pc x := by
  intro G H locs ls vs v hp he hl hF hL
  obtain ⟨a, q1, hga, hg0⟩ := zk_gr (zk_F_ty hF y) ht hz
  rw [hkk] at hga
  obtain ⟨-, cell, r1, r2, -⟩ := hp.2.2 a hg0
  have key : zk_oc KT D G (zk_fin KT (G a)) a cell ∧ ∀ q ∈ (zk_kd KT (zk_fin KT (G a))).2.2.2.2.2.1, zk_in KT D G H (zk_fin KT (G a)) cell q := by
    rw [hga]
    cases eb : Nat.beq (zk_kd KT k).1 0
    · rw [eb] at h
      have hso : (zk_kd KT k).1 ≠ 0 := fun z => by rw [z] at eb; cases eb
      unfold zk_ra at h
      simp only [cond_false, Bool.and_eq_true] at h
      obtain ⟨⟨⟨⟨⟨h1, h2⟩, h3⟩, h4⟩, h5⟩, h6⟩ := h
      rw [hga] at r2
      obtain ⟨g1, g2, g3, g4⟩ := r2.2.2 hso
      have h2 := (zk_ile_iff _ _).mp h2
      have h3 := (zk_ile_iff _ _).mp h3
      refine ⟨⟨⟨r2.1.1, fun _ => r2.1.2 hro⟩, fun z => absurd ((hkt.2 k).1.symm.trans z) hso, fun _ => ⟨by rw [(hkt.2 k).2.1]; exact g1, by omega, by omega, fun t' ht' j w hj => ?_⟩⟩, fun q hq => ?_⟩
      · match e0 : (zk_kd KT k).2.2.1, e1 : (zk_kd KT (zk_fin KT k)).2.2.1, h4 with
        | [t0], [t1], h4 =>
          simp only [Bool.and_eq_true] at h4
          obtain ⟨⟨⟨⟨i1, i2⟩, i3⟩, i4⟩, i5⟩ := h4
          have i1 := Nat.eq_of_beq_eq_true i1
          have i2 := Nat.eq_of_beq_eq_true i2
          have i3 := (zk_ieq_iff _ _).mp i3
          rw [e1] at ht'
          have ht' : t1 = t' := by simpa using ht'
          subst ht'
          have := (g4 t0 (by rw [e0]; rfl) j w hj).1
          unfold zk_tv at this
          rw [if_neg (by omega), if_neg (by omega), if_pos i1] at this
          refine ⟨?_, fun _ z => by rw [z] at i5; exact absurd i5 (by decide)⟩
          unfold zk_tv
          rw [if_neg (by omega), if_neg (by omega), if_pos i2]
          rcases this with ⟨b, m1, m2, m3⟩ | ⟨-, m1⟩
          · exact Or.inl ⟨b, m1, m2.trans i3, m3⟩
          · exfalso
            obtain ⟨r, hr, h6⟩ := List.any_eq_true.mp h6
            obtain ⟨j1, j2⟩ := Bool.and_eq_true_iff.mp h6
            obtain ⟨-, -, a2, c2, l1, l2, l3, l4, l5⟩ := zk_F_ln hF r hr
            rw [Nat.eq_of_beq_eq_true j1, q1] at l1; cases l1
            rw [r1] at l4; cases l4
            obtain ⟨a3, c3, o1, o2, o3, o4, o5⟩ := zk_pc_ok hF j2
            rw [q1] at o1; cases o1
            rw [r1] at o4; cases o4
            have hj2 : j < cell.slots.size := (Array.getElem?_eq_some_iff.mp hj).1
            exact o5 j (by omega) (by rw [hj, m1])
      · match e1 : (zk_kd KT (zk_fin KT k)).2.2.2.2.2.1, h5 with
        | [], _ => rw [e1] at hq; simp at hq
    · rw [eb] at h
      have hso : (zk_kd KT k).1 = 0 := Nat.eq_of_beq_eq_true eb
      unfold zk_ro at h
      simp only [cond_true, Bool.and_eq_true, List.all_eq_true] at h
      obtain ⟨h1, h2⟩ := h
      rw [hga] at r2
      obtain ⟨g1, g2⟩ := r2.2.1 hso
      have hfl : ∀ (f : Nat) (r : Nat × Nat × Nat), r ∈ x.2.2.2.2.2.1 → r.1 = y → r.2.1 = f → Nat.blt f 1000 = true → cell.slots[zk_sl KT D (zk_fin KT k) f]? = some (v r.2.2) := by
        intro f r hr e1 e2 e3
        obtain ⟨-, -, ll⟩ := zk_F_fl hF r hr
        obtain ⟨a2, c2, l1, l2, l3, l4, l5, l6⟩ := zk_fl_real ll (by rw [e2]; exact e3)
        rw [e1, q1] at l1; cases l1
        rw [r1] at l5; cases l5
        rw [zk_sl_fin hkt, ← hga, ← e2]; exact l6
      refine ⟨⟨⟨r2.1.1, fun _ => r2.1.2 hro⟩, fun _ => ⟨by rw [(hkt.2 k).2.1]; exact g1, fun f t' ht' => ?_⟩, fun z => absurd ((hkt.2 k).1.trans hso) z⟩, fun q hq => ?_⟩
      · have := h1 f (List.mem_range.mpr (zk_lt_len ht'))
        obtain ⟨hb, this⟩ := this
        obtain ⟨r, hr, h3⟩ := List.any_eq_true.mp this
        obtain ⟨h3, h5⟩ := Bool.and_eq_true_iff.mp h3
        obtain ⟨h3, h4⟩ := Bool.and_eq_true_iff.mp h3
        rw [List.getD_eq_getElem?_getD, ht'] at h5
        exact ⟨_, hfl f r hr (Nat.eq_of_beq_eq_true h3) (Nat.eq_of_beq_eq_true h4) hb, zk_sc_ok hF q1 h5⟩
      · obtain ⟨⟨hb1, hb2⟩, h3⟩ := h2 q hq
        obtain ⟨r, hr, h3⟩ := List.any_eq_true.mp h3
        simp only [Bool.and_eq_true] at h3
        obtain ⟨⟨⟨⟨⟨i1, i2⟩, i3⟩, i4⟩, i5⟩, i6⟩ := h3
        obtain ⟨r2', hr2, h4⟩ := List.any_eq_true.mp i6
        simp only [Bool.and_eq_true] at h4
        obtain ⟨⟨⟨j1, j2⟩, j3⟩, j4⟩ := h4
        obtain ⟨b, eb2, gb, gb0⟩ := zk_gr (zk_F_ty hF r.2.2) (Nat.eq_of_beq_eq_true i3) ((zk_ieq_iff _ _).mp i4)
        obtain ⟨w, ew, -, -⟩ := zk_gi (zk_F_ty hF r2'.2.2) (Nat.eq_of_beq_eq_true j3)
        have hsb : (zk_kd KT (G b)).1 ≠ 0 := by
          intro z; rw [gb] at z; rw [z] at i5; cases i5
        obtain ⟨-, cb, kb, -, -⟩ := hp.2.2 b gb0
        have f1 := hfl _ r hr (Nat.eq_of_beq_eq_true i1) (Nat.eq_of_beq_eq_true i2) hb1
        have f2 := hfl _ r2' hr2 (Nat.eq_of_beq_eq_true j1) (Nat.eq_of_beq_eq_true j2) hb2
        rw [eb2] at f1
        rw [ew] at f2
        refine ⟨b, cb, w, f1, f2, gb0, hsb, kb, fun e0 => ?_, fun e0 => ?_⟩
        · rw [e0] at j4
          obtain ⟨b', cb', m1, -, -, m4, m5⟩ := zk_pc_ok hF (show zk_pc x r.2.2 r2'.2.2 0 = true from j4)
          rw [eb2] at m1; cases m1
          rw [kb] at m4; cases m4
          rw [ew] at m5
          intro j hj
          exact m5 j (by show (j : Int) < w.toInt + 0; omega)
        · have : Nat.beq q.1 0 = false := by
            cases y' : Nat.beq q.1 0
            · rfl
            · exact absurd (Nat.eq_of_beq_eq_true y') e0
          rw [this] at j4
          have := zk_lc_ok hp hF eb2 gb gb0 hsb kb (show zk_lc KT x r.2.2 r2'.2.2 0 = true from j4)
          rw [ew] at this
          have : w.toInt + 0 ≤ (cb.slots.size : Int) := this
          omega
  obtain ⟨n1, n2⟩ := zk_hp_rt hkt hp hg0 (by rw [hga]; exact hne) (by rw [hga]; exact hf0) (by rw [hga]; exact hro) r1 key.1 key.2
  rw [hga] at n1 n2
  have hF' := zk_F_ev (keep := true) hkt hF n2 (fun _ => rfl)
  refine kk _ H locs ls vs v n1 (zk_ev_tr hkt he (zk_ev_sb ?_ n2)) hl (zk_F_ad hF' (fun q hq => ?_) (fun q hq => by simp at hq) (fun q hq => by simp at hq)) (zk_LS_ad (zk_LS_ex hL))
  · simp only [zk_sb, List.all_cons, List.all_nil, Bool.and_true]; exact hE
  · rw [List.mem_singleton.mp hq]
    refine ⟨hy, ?_⟩
    show zk_tv _ (v y) _
    rw [q1]
    exact Or.inl ⟨a, rfl, by rw [zk_un_at], by rw [zk_un_at]; exact hf0⟩
end ZN
end
