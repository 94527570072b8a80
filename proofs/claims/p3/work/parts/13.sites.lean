/-! ENGINE, 12: sites of the pool, calls, returns -/
noncomputable section
/-- rho, guessed: nothing rests on it -/
noncomputable def zk_lu (l : List (Nat × Nat)) (i : Nat) : Option Nat := @List.rec (Nat × Nat) (fun _ => Option Nat) none (fun q _ ih => @Bool.rec (fun _ => Option Nat) ih (some q.2) (Nat.beq q.1 i)) l
def zk_bd (m : List (Nat × Nat)) (y z : Nat) : List (Nat × Nat) := match zk_lu m y with | some _ => m | none => (y, z) :: m
def zk_fr1 (x : zk_S) : List (Nat × Nat) → List (Nat × Nat) → List (Nat × Nat)
  | m, [] => m
  | m, q :: r => zk_fr1 x (match zk_lu x.2.1 q.1 with | some z => zk_bd m q.2 z | none => m) r
def zk_fr2 : List (Nat × Nat) → List Nat → List Nat → List (Nat × Nat)
  | m, a :: as, b :: bs => zk_fr2 (zk_bd m a b) as bs
  | m, _, _ => m
def zk_fr3 (x : zk_S) : List (Nat × Nat) → List (Nat × Nat × Nat) → List (Nat × Nat)
  | m, [] => m
  | m, q :: r => zk_fr3 x (match zk_lu m q.1, zk_lu m q.2.2 with
      | some o, none => (match zk_ff x o q.2.1 with | some w => (q.2.2, w.2.2) :: m | none => m)
      | _, _ => m) r
def zk_fr4 (x : zk_S) : List (Nat × Nat) → List (Nat × Nat) → List (Nat × Nat)
  | m, [] => m
  | m, q :: r => zk_fr4 x (match zk_lu m q.1, zk_lu m q.2 with
      | some o, none => (match zk_lu x.2.2.2.2.2.2.1 o with | some w => (q.2, w) :: m | none => m)
      | _, _ => m) r
def zk_fr (t x : zk_S) (nP : Nat) : List Nat :=
  let m := zk_fr4 x (zk_fr3 x (zk_fr2 (zk_fr1 x ((List.range nP).map fun i => (i, i)) t.2.1) t.2.2.1 x.2.2.1) t.2.2.2.2.2.1) t.2.2.2.2.2.2.1
  (List.range t.1).map fun i => (zk_lu m i).getD 0
/-- cells that become what they were made for, ahead of an instruction -/
def zk_rt1 (KT : List zk_K) (E : List (Nat × Nat)) (x : zk_S) (y : Nat) : Option zk_S :=
  let k := zk_ko x y
  bif zk_n0 x y && !(Nat.beq (zk_fin KT k) k) && !(Nat.beq (zk_fin KT k) 0) && Nat.beq (zk_kd KT k).2.2.2.2.2.2.2 0 && Nat.blt y x.1 && (bif Nat.beq (zk_kd KT k).1 0 then zk_ro KT x y k else zk_ra KT x y k) && zk_me E k 1000 then
    some (zk_ad (zk_ex KT [(k, 1000)] x true) [(y, 2, (zk_fin KT k : Int), 0)] [] []) else none
/-- a field that is looked at, ahead of an instruction: nothing but a name for what stands there -/
def zk_ldf (KT : List zk_K) (x : zk_S) (y f : Nat) : Option zk_S := match zk_ff x y f with
  | some _ => some x
  | none => (match (zk_kd KT (zk_ko x y)).2.2.1[f]? with
    | some t => bif zk_n0 x y && Nat.beq (zk_kd KT (zk_ko x y)).1 0 && Nat.blt y x.1 && (x.2.2.1.all fun z => Nat.blt z x.1) then some (zk_st (zk_af (zk_pu x x.2.2.1 (zk_rt t) (zk_rr x y t) []) [(y, f, x.1)] [] []) x.2.2.1) else none
    | none => none)
def zk_rts (KT : List zk_K) (E : List (Nat × Nat)) (x : zk_S) : List (Nat × Option Nat) → Option zk_S
  | [] => some x
  | q :: r => bif Nat.ble 1000 q.1 then (match zk_lu x.2.1 (q.1 - 1000) with
      | some y => (match zk_ldf KT x y (q.2.getD 0) with | some x' => zk_rts KT E x' r | none => none)
      | none => none) else (match zk_lu x.2.1 q.1 with
      | some y => (match q.2 with
        | none => (match zk_rt1 KT E x y with | some x' => zk_rts KT E x' r | none => none)
        | some f => (match zk_ff x y f with
          | some w => (match zk_rt1 KT E x w.2.2 with | some x' => zk_rts KT E x' r | none => none)
          | none => none))
      | none => none)
/-- a call with the contract C -/
def zk_cal (KT : List zk_K) (E : List (Nat × Nat)) (mc ms : Nat) (x : zk_S) (cells slots : Nat) (C : zk_C) : Option (List zk_S) :=
  let k := C.1.2.2.1.length
  let ar := x.2.2.1.take k
  let rest := x.2.2.1.drop k
  let rho := zk_fr C.1 (zk_st x ar.reverse) 0
  bif Nat.beq ar.length k && ((C.1.2.2.1.zip ar.reverse).all fun q => Nat.blt q.1 C.1.1 && zk_eq x q.2 (zk_r rho q.1)) && zk_ck KT C.1 x rho && ((List.range C.1.1).all fun y => Nat.blt (zk_r rho y) x.1) &&
    (rest.all fun y => Nat.beq (zk_lk x.2.2.2.1 y).1 0 || Nat.beq (zk_lk x.2.2.2.1 y).1 2 || Nat.beq (zk_lk x.2.2.2.1 y).1 1) && Nat.ble (rest.map fun y => zk_cgy (zk_lk x.2.2.2.1 y)).sum 8 && zk_sb C.2.2.1 E && Nat.ble (cells + C.2.2.2.1) mc && Nat.ble (slots + C.2.2.2.2) ms then
    some ((C.2.1.filter fun t => zk_fe x.1 t (zk_af2 KT x rest C.2.2.1 false t C.1.1 rho)).map fun t => zk_af2 KT x rest C.2.2.1 false t C.1.1 rho) else none
/-- a return that keeps the contract -/
def zk_rm (KT : List zk_K) (nP : Nat) (x t : zk_S) : Bool := let rho := zk_fr t x nP; zk_ck KT t x rho && zk_cl t x rho nP
def zk_sR (KT : List zk_K) (C : zk_C) (rt : Option FieldType) (x : zk_S) : Instr → Bool
  | .ireturn => match x.2.2.1 with
    | [y] => zk_is x y 0 && (match rt with | some .int => true | some .boolean => zk_su x.2.2.2.1 y (0, 0, 1) | some .byte => zk_su x.2.2.2.1 y (0, 0, 1) | some .char => zk_su x.2.2.2.1 y (0, 0, 65535) | _ => false) && C.2.1.any (zk_rm KT C.1.1 x)
    | _ => false
  | .lreturn => match x.2.2.1 with
    | [y] => zk_is x y 1 && (match rt with | some .long => true | _ => false) && C.2.1.any (zk_rm KT C.1.1 x)
    | _ => false
  | .areturn => match x.2.2.1 with
    | [y] => zk_is x y 2 && (match rt with | some (.object _) => true | some (.array _) => true | _ => false) && C.2.1.any (zk_rm KT C.1.1 x)
    | _ => false
  | .return_ => match x.2.2.1 with
    | [] => (match rt with | none => true | _ => false) && C.2.1.any (zk_rm KT C.1.1 x)
    | _ => false
  | _ => false
theorem zk_LS_weak {n0 nP : Nat} {v0 vP : Nat → Value} {nL : Nat} {ls : Array Slot} {vs : List Value} {v : Nat → Value} {x : zk_S} (h : zk_LS n0 v0 nL ls vs v x) (hn : nP ≤ n0) (hv : ∀ y, y < nP → v0 y = vP y) : zk_LS nP vP nL ls vs v x := by
  obtain ⟨n, loc, stk, rest⟩ := x
  exact ⟨Nat.le_trans hn h.1, fun y hy => (h.2.1 y (Nat.lt_of_lt_of_le hy hn)).trans (hv y hy), h.2.2⟩
theorem zk_bs1 {α : Type} {b : Bool} {a c : α} (h : (bif b then some a else none) = some c) : b = true ∧ a = c := by
  cases b
  · cases h
  · cases h; exact ⟨rfl, rfl⟩
section ZD
variable {p : Program} {l : Launch} {e : Env} {R : Room} {s : State} {m : MethodId} {args : Array Value} {below : List Frame} {meth : Method} {c : Code} {Q : State → Prop} {KT : List zk_K} {D : zk_D} {base : Nat} {Hb : Heap} {n0 nL : Nat} {v0 : Nat → Value} {E : List (Nat × Nat)} {G0 : Nat → Nat} {H0 : Heap} {cc : ByteArray}
variable {cells slots pc : Nat} {x : zk_S}
def zk_Qf (KT : List zk_K) (D : zk_D) (base : Nat) (Hb : Heap) (C : zk_C) (vP : Nat → Value) (G0 : Nat → Nat) (H0 : Heap) : Array Value → State → Outcome → State → Prop := fun _ _ o t => ∃ ov, o = .returned ov ∧ zk_Qc KT D base Hb C vP G0 H0 ov t.heap
theorem zk_Wm {Q1 : State → Prop} {H : Heap} {locs : List Loc} {cells slots : Nat} {g : JFrame} (h : ∀ t, Q1 t → Q t) (k : W p l e R s m args below meth c H locs cells slots Q1 g) : W p l e R s m args below meth c H locs cells slots Q g := fun T hT X => by
  obtain ⟨t, a, b⟩ := k T hT X
  exact ⟨t, a, h t b⟩
theorem zk_rm_ok {C : zk_C} {vP : Nat → Value} {G : Nat → Nat} {H : Heap} {v : Nat → Value} {ls : Array Slot} {vs : List Value} (hn : C.1.1 ≤ n0) (hv : ∀ y, y < C.1.1 → v0 y = vP y) (hp : zk_hp KT D base Hb G H) (he : zk_ev KT D E G0 H0 G H) (hE : C.2.2.1 = E) (hF : zk_F KT D G H v x) (hL : zk_LS n0 v0 nL ls vs v x) (h1 : x.2.2.1.length ≤ 1) (h : C.2.1.any (zk_rm KT C.1.1 x) = true) : zk_Qc KT D base Hb C vP G0 H0 vs.head? H := by
  obtain ⟨t, ht, h⟩ := List.any_eq_true.mp h
  obtain ⟨c1, c2⟩ := Bool.and_eq_true_iff.mp h
  have f1 := zk_ck_ok hp hF c1
  have f2 := zk_cl_ok hF (zk_LS_weak hL hn hv) c2
  obtain ⟨n, loc, stk, rest⟩ := t
  have hlen : stk.length ≤ 1 := by
    have e1 := f2.2.2.2.2.1
    have e2 := (zk_LS_stk hL).1
    have := congrArg List.length (e1.symm.trans e2)
    simp only [List.length_map] at this
    omega
  exact ⟨G, _, _, ht, by rw [f2.2.2.2.2.1], hlen, f2.2.2.2.2.2, f2.1, f2.2.1, hp, by rw [hE]; exact he, f1⟩
set_option maxHeartbeats 4000000 in
theorem zt_R (hx : p.tables.exec = Jvm.exec) (hb : c.code = cc) {C : zk_C} {vP : Nat → Value} {rt : Option FieldType} {ins : Instr} {mc ms : Nat} (hn : C.1.1 ≤ n0) (hv : ∀ y, y < C.1.1 → v0 y = vP y) (hE : C.2.2.1 = E) (hr : meth.sig.returnType = rt) (hlocks : meth.locks = false) (hQ : ∀ t : State, MQ below (zk_Qf KT D base Hb C vP G0 H0) args s mc ms (fun q => base ≤ q) t → Q t) (hc1 : cells ≤ mc) (hc2 : slots ≤ ms) (h : zk_sR KT C rt x ins = true) (hdg : decode cc pc = .ok (ins, 1)) : zk_G p l e R s m args below meth c Q KT D base Hb n0 nL v0 E G0 H0 cells slots pc x := by
  intro G H locs ls vs v hp he hl hF hL
  refine zk_Wm hQ (W.widen hc1 hc2 ?_)
  obtain ⟨e1, hlt⟩ := zk_LS_stk hL
  have key : x.2.2.1.length ≤ 1 → C.2.1.any (zk_rm KT C.1.1 x) = true → ∀ t : State, t.heap = H → zk_Qc KT D base Hb C vP G0 H0 vs.head? t.heap := fun a b t ht => by rw [ht]; exact zk_rm_ok hn hv hp he hE hF hL a b
  cases ins
  case ireturn =>
    unfold zk_sR at h; dsimp only at h
    split at h
    · rename_i y hs
      simp only [Bool.and_eq_true] at h
      obtain ⟨⟨h1, h2⟩, h3⟩ := h
      obtain ⟨a, ea, -⟩ := zk_gi (zk_F_ty hF y) (zk_is_eq h1)
      have key := key (by rw [hs]; exact Nat.le_refl _) h3
      rw [e1, hs, List.map_cons, List.map_nil, ea] at key ⊢
      split at h2
      · exact W.zret hx hb hr rfl (fun t ht _ => ⟨_, rfl, key t ht⟩) hl hdg hlocks
      · obtain ⟨a', ea', a1, a2⟩ := zk_gi (zk_su_ok hF h2) rfl
        rw [ea] at ea'; cases ea'
        exact W.zret hx hb hr (zk_nb a1 a2) (fun t ht _ => ⟨_, rfl, key t ht⟩) hl hdg hlocks
      · obtain ⟨a', ea', a1, a2⟩ := zk_gi (zk_su_ok hF h2) rfl
        rw [ea] at ea'; cases ea'
        exact W.zret hx hb hr (zk_nby a1 a2) (fun t ht _ => ⟨_, rfl, key t ht⟩) hl hdg hlocks
      · obtain ⟨a', ea', a1, a2⟩ := zk_gi (zk_su_ok hF h2) rfl
        rw [ea] at ea'; cases ea'
        exact W.zret hx hb hr (zk_nch a1 a2) (fun t ht _ => ⟨_, rfl, key t ht⟩) hl hdg hlocks
      · cases h2
    · cases h
  case lreturn =>
    unfold zk_sR at h; dsimp only at h
    split at h
    · rename_i y hs
      simp only [Bool.and_eq_true] at h
      obtain ⟨⟨h1, h2⟩, h3⟩ := h
      obtain ⟨a, ea, -⟩ := zk_gl (zk_F_ty hF y) (zk_is_eq h1)
      have key := key (by rw [hs]; exact Nat.le_refl _) h3
      rw [e1, hs, List.map_cons, List.map_nil, ea] at key ⊢
      split at h2
      · exact W.lret hx hb hr (fun t ht _ => ⟨_, rfl, key t ht⟩) hl hdg hlocks
      · cases h2
    · cases h
  case areturn =>
    unfold zk_sR at h; dsimp only at h
    split at h
    · rename_i y hs
      simp only [Bool.and_eq_true] at h
      obtain ⟨⟨h1, h2⟩, h3⟩ := h
      have hty := zk_F_ty hF y
      have key := key (by rw [hs]; exact Nat.le_refl _) h3
      rw [e1, hs, List.map_cons, List.map_nil] at key ⊢
      have hv2 : v y = .null ∨ ∃ a, v y = .ref a := by
        rcases zk_rn hty (zk_is_eq h1) with q | q
        · exact Or.inr q
        · exact Or.inl q
      split at h2
      · exact W.aret hx hb hr (Or.inl ⟨_, rfl⟩) hv2 (fun t ht _ => ⟨_, rfl, key t ht⟩) hl hdg hlocks
      · exact W.aret hx hb hr (Or.inr ⟨_, rfl⟩) hv2 (fun t ht _ => ⟨_, rfl, key t ht⟩) hl hdg hlocks
      · cases h2
    · cases h
  case return_ =>
    unfold zk_sR at h; dsimp only at h
    split at h
    · rename_i hs
      simp only [Bool.and_eq_true] at h
      obtain ⟨h2, h3⟩ := h
      have key := key (by rw [hs]; exact Nat.zero_le _) h3
      rw [e1, hs, List.map_nil] at key ⊢
      split at h2
      · exact W.vret hx hb hr (fun t ht _ => ⟨_, rfl, key t ht⟩) hl hdg hlocks
      · cases h2
    · cases h
  all_goals exact absurd h (by simp [zk_sR])
theorem zt_ldf {y f : Nat} {x' : zk_S} (h : zk_ldf KT x y f = some x') (kk : zk_G p l e R s m args below meth c Q KT D base Hb n0 nL v0 E G0 H0 cells slots pc x') : zk_G p l e R s m args below meth c Q KT D base Hb n0 nL v0 E G0 H0 cells slots pc x := by
  unfold zk_ldf at h
  split at h
  · cases h; exact kk
  · split at h
    · rename_i t ht
      obtain ⟨e, h⟩ := zk_bs0 h
      subst h
      simp only [Bool.and_eq_true, List.all_eq_true] at e
      obtain ⟨⟨⟨e1, e2⟩, e3⟩, e4⟩ := e
      obtain ⟨n1, n2⟩ := zk_n0_ok e1
      have ly : y < x.1 := by simpa using e3
      intro G H locs ls vs v hp he hl hF hL
      obtain ⟨q0, hlt⟩ := zk_LS_stk hL
      obtain ⟨a, q1, hga, hg0⟩ := zk_gr (zk_F_ty hF y) n1 n2
      obtain ⟨-, cell, r1, r2, -⟩ := hp.2.2 a hg0
      have hso : (zk_kd KT (G a)).1 = 0 := by rw [hga]; exact Nat.eq_of_beq_eq_true e2
      obtain ⟨w, w1, w2⟩ := (r2.2.1 hso).2 f t (by rw [hga]; exact ht)
      have hL2 := zk_LS_af (fs := [(y, f, x.1)]) (ns := []) (ps := []) (zk_LS_up (w := w) (t := zk_rt t) (rs := zk_rr x y t) (ms := []) hL (fun q hq => hlt q hq))
      have hL3 := zk_LS_st (stk' := x.2.2.1) hL2 (fun q hq => Nat.lt_succ_of_lt (hlt q hq))
      have ev : x.2.2.1.map (zk_up v x.1 w) = vs := by rw [q0]; exact zk_map_up hlt
      rw [ev] at hL3
      refine kk G H locs ls vs (zk_up v x.1 w) hp he hl (zk_F_st _ (zk_F_af (zk_F_up hF (zk_rt_ok w2) (zk_rr_ok hp hF ly q1 w2) (fun q hq => by simp at hq)) (fun q hq => ?_) (fun q hq => by simp at hq) (fun q hq => by simp at hq))) hL3
      rw [List.mem_singleton.mp hq]
      refine ⟨Nat.lt_succ_of_lt ly, Nat.lt_succ_self _, zk_fl_mk ⟨a, cell, ?_, hg0, hso, ?_, r1, ?_⟩⟩
      · show zk_up v x.1 w y = _; rw [zk_up_lt ly]; exact q1
      · rw [hga]; exact zk_lt_len ht
      · show _ = some (zk_up v x.1 w x.1); rw [zk_up_at]; exact w1
    · cases h
theorem zt_rts (hkt : zk_kt KT) : ∀ {ll : List (Nat × Option Nat)} {x x' : zk_S}, zk_rts KT E x ll = some x' → zk_G p l e R s m args below meth c Q KT D base Hb n0 nL v0 E G0 H0 cells slots pc x' → zk_G p l e R s m args below meth c Q KT D base Hb n0 nL v0 E G0 H0 cells slots pc x
  | [], x, x', h, kk => by cases h; exact kk
  | q :: r, x, x', h, kk => by
    have one : ∀ {y : Nat} {x1 : zk_S}, zk_rt1 KT E x y = some x1 → zk_G p l e R s m args below meth c Q KT D base Hb n0 nL v0 E G0 H0 cells slots pc x1 → zk_G p l e R s m args below meth c Q KT D base Hb n0 nL v0 E G0 H0 cells slots pc x := by
      intro y x1 h1 k1
      unfold zk_rt1 at h1
      obtain ⟨e, h1⟩ := zk_bs1 h1
      simp only [Bool.and_eq_true] at e
      obtain ⟨⟨⟨⟨⟨⟨c1, c2⟩, c3⟩, c4⟩, c5⟩, c6⟩, c7⟩ := e
      subst h1
      obtain ⟨n1, n2⟩ := zk_n0_ok c1
      have c5 : y < x.1 := by simpa using c5
      exact zs_rt (k := zk_ko x y) hkt n1 n2 rfl (fun z => by rw [z, Nat.beq_refl] at c2; exact absurd c2 (by decide)) (fun z => by rw [z] at c3; exact absurd c3 (by decide)) (Nat.eq_of_beq_eq_true c4) c5 c6 c7 k1
    unfold zk_rts at h
    cases el : Nat.ble 1000 q.1 <;> rw [el] at h <;> simp only [cond_true, cond_false] at h
    · split at h
      · split at h
        · split at h
          · rename_i x1 hx1
            exact one hx1 (zt_rts hkt h kk)
          · cases h
        · split at h
          · split at h
            · rename_i x1 hx1
              exact one hx1 (zt_rts hkt h kk)
            · cases h
          · cases h
      · cases h
    · split at h
      · split at h
        · rename_i x1 hx1
          exact zt_ldf hx1 (zt_rts hkt h kk)
        · cases h
      · cases h
theorem zt_cal {C : zk_C} {ins : Instr} {mc ms : Nat} {outs : List zk_S} (hkt : zk_kt KT) (hR1 : R.cells = mc) (hR2 : R.slots = ms) (hg : zk_cok p l e R s m args below meth c Q KT D base Hb nL cc ins C) (hdg : decode cc pc = .ok (ins, 3)) (h : zk_cal KT E mc ms x cells slots C = some outs) (kk : ∀ o ∈ outs, zk_G p l e R s m args below meth c Q KT D base Hb n0 nL v0 E G0 H0 (cells + C.2.2.2.1) (slots + C.2.2.2.2) (pc + 3) o) : zk_G p l e R s m args below meth c Q KT D base Hb n0 nL v0 E G0 H0 cells slots pc x := by
  unfold zk_cal at h
  obtain ⟨e, h⟩ := zk_bs1 h
  simp only [Bool.and_eq_true] at e
  obtain ⟨⟨⟨⟨⟨⟨⟨⟨c1, c2⟩, c3⟩, c4⟩, c5⟩, c6⟩, c7⟩, c8⟩, c9⟩ := e
  subst h
  have c8 : cells + C.2.2.2.1 ≤ mc := by simpa using c8
  have c9 : slots + C.2.2.2.2 ≤ ms := by simpa using c9
  refine zs_call (rho := zk_fr C.1 (zk_st x (x.2.2.1.take C.1.2.2.1.length).reverse) 0) (keep := false) (ar := x.2.2.1.take C.1.2.2.1.length) (rest := x.2.2.1.drop C.1.2.2.1.length) hkt hg (List.take_append_drop _ _).symm c1 c2 c3 c4 c5 c6 c7 (fun z => by cases z) (by rw [hR1]; exact c8) (by rw [hR2]; exact c9) hdg (fun t ht hfe => kk _ (List.mem_map.mpr ⟨t, List.mem_filter.mpr ⟨ht, hfe⟩, rfl⟩))
end ZD
end
