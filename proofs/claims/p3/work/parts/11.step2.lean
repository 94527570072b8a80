/-! ENGINE, 10: soundness of the step's pure part; branches -/
noncomputable section
def zk_lenA : Instr → Nat
  | .bipush _ | .iload _ | .lload _ | .aload _ | .istore _ | .astore _ | .lstore _ => 2
  | .sipush _ | .iinc _ _ => 3
  | _ => 1
theorem zk_rn {G : Nat → Nat} {w : Value} {t : zk_T} (h : zk_tv G w t) (ht : t.1 = 2) : (∃ a : Nat, w = .ref a) ∨ w = .null := by
  unfold zk_tv at h; rw [if_neg (by omega), if_neg (by omega), if_pos ht] at h
  rcases h with ⟨a, e, -⟩ | ⟨-, e⟩
  · exact Or.inl ⟨a, e⟩
  · exact Or.inr e
theorem zk_i8 {c : Int} (h1 : -128 ≤ c) (h2 : c ≤ 127) : ((Int8.ofInt c).toInt32).toInt = c := by
  rw [Int8.toInt_toInt32, Int8.toInt_ofInt]
  show c.bmod 256 = c
  rw [Int.bmod_eq_of_le (by omega) (by omega)]
theorem zk_i16 {c : Int} (h1 : -32768 ≤ c) (h2 : c ≤ 32767) : ((Int16.ofInt c).toInt32).toInt = c := by
  rw [Int16.toInt_toInt32, Int16.toInt_ofInt]
  show c.bmod 65536 = c
  rw [Int.bmod_eq_of_le (by omega) (by omega)]
theorem zk_fin2 : ∀ c : Fin 2, (Int64.ofNat (c : Nat)).toInt = (c.val : Int) := by decide
section ZB
variable {p : Program} {l : Launch} {e : Env} {R : Room} {s : State} {m : MethodId} {args : Array Value} {below : List Frame} {meth : Method} {c : Code} {Q : State → Prop} {KT : List zk_K} {D : zk_D} {base : Nat} {Hb : Heap} {n0 nL : Nat} {v0 : Nat → Value} {E : List (Nat × Nat)} {G0 : Nat → Nat} {H0 : Heap} {cc : ByteArray}
variable {cells slots pc : Nat} {x : zk_S}
set_option maxHeartbeats 4000000 in
theorem zt_A (hx : p.tables.exec = Jvm.exec) (hb : c.code = cc) {ins : Instr} {len : Nat} {o : Nat × zk_S} (h : zk_sA nL x pc ins = some o) (hlen : len = zk_lenA ins) (hdg : decode cc pc = .ok (ins, len)) (kk : zk_G p l e R s m args below meth c Q KT D base Hb n0 nL v0 E G0 H0 cells slots o.1 o.2) : zk_G p l e R s m args below meth c Q KT D base Hb n0 nL v0 E G0 H0 cells slots pc x := by
  subst hlen
  cases ins
  case iconst c =>
    unfold zk_sA at h; dsimp only at h
    cases e : zk_fit c c <;> rw [e] at h
    · cases h
    · cases h
      have hv : (Int32.ofInt c).toInt = c := by rw [Int32.toInt_ofInt]; exact zk_fit_ok e (Int.le_refl _) (Int.le_refl _)
      exact zs_const (w := .int (Int32.ofInt c)) (fun G => zk_tv_int (by omega) (by omega)) (fun k => lv_iconst hx hb hdg rfl k) kk
  case bipush c =>
    unfold zk_sA at h; dsimp only at h
    cases e : zk_ile (-128) c && zk_ile c 127 <;> rw [e] at h
    · cases h
    · cases h
      obtain ⟨e1, e2⟩ := Bool.and_eq_true_iff.mp e
      have hv := zk_i8 ((zk_ile_iff _ _).mp e1) ((zk_ile_iff _ _).mp e2)
      exact zs_const (w := .int (Int8.ofInt c).toInt32) (fun G => zk_tv_int (by omega) (by omega)) (fun k => lv_bipush hx hb hdg rfl k) kk
  case sipush c =>
    unfold zk_sA at h; dsimp only at h
    cases e : zk_ile (-32768) c && zk_ile c 32767 <;> rw [e] at h
    · cases h
    · cases h
      obtain ⟨e1, e2⟩ := Bool.and_eq_true_iff.mp e
      have hv := zk_i16 ((zk_ile_iff _ _).mp e1) ((zk_ile_iff _ _).mp e2)
      exact zs_const (w := .int (Int16.ofInt c).toInt32) (fun G => zk_tv_int (by omega) (by omega)) (fun k => lv_sipush hx hb hdg rfl k) kk
  case lconst c =>
    unfold zk_sA at h; dsimp only at h
    cases h
    have hv := zk_fin2 c
    exact zs_const (w := .long (Int64.ofNat (c : Nat))) (fun G => zk_tv_long (by omega) (by omega)) (fun k => lv_lconst hx hb hdg rfl k) kk
  case aconst_null =>
    cases h
    exact zs_const (w := .null) (t := (2, 0, 1)) (fun G => (show zk_tv G .null (2, 0, 1) from Or.inr ⟨show (1 : Int) ≠ 0 by decide, rfl⟩)) (fun k => lv_null hx hb hdg k) kk
  case iload_n k => exact zt_ld h (fun ht he hl kw => by obtain ⟨a, ea, -⟩ := zk_gi ht he; subst ea; exact lv_iload_n hx hb hdg rfl hl kw) kk
  case iload i => exact zt_ld h (fun ht he hl kw => by obtain ⟨a, ea, -⟩ := zk_gi ht he; subst ea; exact lv_iload hx hb hdg hl kw) kk
  case lload_n k => exact zt_ld h (fun ht he hl kw => by obtain ⟨a, ea, -⟩ := zk_gl ht he; subst ea; exact lv_lload_n hx hb hdg rfl hl kw) kk
  case lload i => exact zt_ld h (fun ht he hl kw => by obtain ⟨a, ea, -⟩ := zk_gl ht he; subst ea; exact lv_lload hx hb hdg hl kw) kk
  case aload_n k => exact zt_ld h (fun ht he hl kw => by rcases zk_rn ht he with ⟨a, ea⟩ | ea <;> subst ea <;> first | exact lv_aload_n hx hb hdg rfl hl kw | exact lv_aload_nN hx hb hdg rfl hl kw) kk
  case aload i => exact zt_ld h (fun ht he hl kw => by rcases zk_rn ht he with ⟨a, ea⟩ | ea <;> subst ea <;> first | exact lv_aload hx hb hdg hl kw | exact lv_aloadN hx hb hdg hl kw) kk
  case istore_n k => exact zt_so1 h (fun ht he hl hi hv kw => by obtain ⟨a, ea, -⟩ := zk_gi ht he; subst ea; exact lv_istore_n hx hb hdg rfl hl hi hv kw) kk
  case istore i => exact zt_so1 h (fun ht he hl hi hv kw => by obtain ⟨a, ea, -⟩ := zk_gi ht he; subst ea; exact lv_istore hx hb hdg hl hi hv kw) kk
  case astore_n k => exact zt_so1 h (fun ht he hl hi hv kw => by rcases zk_rn ht he with ⟨a, ea⟩ | ea <;> subst ea <;> first | exact lv_astore_n hx hb hdg rfl hl hi hv kw | exact lv_astore_nN hx hb hdg rfl hl hi hv kw) kk
  case astore i => exact zt_so1 h (fun ht he hl hi hv kw => by rcases zk_rn ht he with ⟨a, ea⟩ | ea <;> subst ea <;> first | exact lv_astore hx hb hdg hl hi hv kw | exact lv_astoreN hx hb hdg hl hi hv kw) kk
  case lstore_n k => exact zt_so2 h (fun hl hi hv kw => lv_lstore_n hx hb hdg rfl hl hi hv kw) kk
  case lstore i => exact zt_so2 h (fun hl hi hv kw => lv_lstore hx hb hdg hl hi hv kw) kk
  case iinc i n => exact zt_incs hx hb h hdg kk
  case pop =>
    unfold zk_sA at h; dsimp only at h
    split at h
    · rename_i y r hs
      cases e : zk_cs x y <;> rw [e] at h
      · cases h
      · cases h
        exact zs_move (stk' := r) (fun q hq => by rw [hs]; exact List.mem_cons_of_mem _ hq) (fun G H locs ls v hF k => by rw [hs, List.map_cons]; exact lv_pop hx hb hdg (zk_cat (zk_F_ty hF y) e) k) kk
    · cases h
  case dup =>
    unfold zk_sA at h; dsimp only at h
    split at h
    · rename_i y r hs
      cases e : zk_cs x y <;> rw [e] at h
      · cases h
      · cases h
        exact zs_move (stk' := y :: y :: r) (fun q hq => by rw [hs]; rcases List.mem_cons.mp hq with rfl | hq; exact List.mem_cons_self; exact hq) (fun G H locs ls v hF k => by rw [hs, List.map_cons]; exact lv_dup hx hb hdg (zk_cat (zk_F_ty hF y) e) k) kk
    · cases h
  case dup_x1 =>
    unfold zk_sA at h; dsimp only at h
    split at h
    · rename_i y z r hs
      cases e : zk_cs x y && zk_cs x z <;> rw [e] at h
      · cases h
      · cases h
        obtain ⟨e1, e2⟩ := Bool.and_eq_true_iff.mp e
        refine zs_move (stk' := y :: z :: y :: r) (fun q hq => ?_) (fun G H locs ls v hF k => by rw [hs, List.map_cons, List.map_cons]; exact lv_dup_x1 hx hb hdg (zk_cat (zk_F_ty hF y) e1) (zk_cat (zk_F_ty hF z) e2) k) kk
        rw [hs]
        simp only [List.mem_cons] at hq ⊢
        rcases hq with q | q | q | q
        · exact Or.inl q
        · exact Or.inr (Or.inl q)
        · exact Or.inl q
        · exact Or.inr (Or.inr q)
    · cases h
  case dup2 =>
    unfold zk_sA at h; dsimp only at h
    split at h
    · rename_i y z r hs
      cases e : zk_cs x y && zk_cs x z <;> rw [e] at h
      · cases h
      · cases h
        obtain ⟨e1, e2⟩ := Bool.and_eq_true_iff.mp e
        refine zs_move (stk' := y :: z :: y :: z :: r) (fun q hq => ?_) (fun G H locs ls v hF k => by rw [hs, List.map_cons, List.map_cons]; exact lv_dup2_11 hx hb hdg (zk_cat (zk_F_ty hF y) e1) (zk_cat (zk_F_ty hF z) e2) k) kk
        rw [hs]
        simp only [List.mem_cons] at hq ⊢
        rcases hq with q | q | q | q | q
        · exact Or.inl q
        · exact Or.inr (Or.inl q)
        · exact Or.inl q
        · exact Or.inr (Or.inl q)
        · exact Or.inr (Or.inr q)
    · cases h
  case iadd => exact zt_adds hx hb h hdg kk
  case isub => exact zt_subs hx hb h hdg kk
  case imul => exact zt_bi h false (fun z => by cases z) (fun _ k => lv_imul hx hb hdg k) (fun G s t a b a1 a2 b1 b2 => zk_tmul_ok G a1 a2 b1 b2) kk
  case iand => exact zt_bi h false (fun z => by cases z) (fun _ k => lv_iand hx hb hdg k) (fun G s t a b a1 a2 b1 b2 => zk_tand_ok G a1 a2 b1 b2) kk
  case ior => exact zt_bi (f := fun _ _ => zk_I) h false (fun z => by cases z) (fun _ k => lv_ior hx hb hdg k) (fun G s t a b _ _ _ _ => zk_tv_I _) kk
  case ixor => exact zt_bi (f := fun _ _ => zk_I) h false (fun z => by cases z) (fun _ k => lv_ixor hx hb hdg k) (fun G s t a b _ _ _ _ => zk_tv_I _) kk
  case ishl => exact zt_bi (g := zk_shl) (f := zk_tshl) h false (fun z => by cases z) (fun _ k => lv_ishl hx hb hdg k) (fun G s t a b a1 a2 b1 b2 => zk_tshl_ok a1 a2 b1 b2) kk
  case ishr => exact zt_bi (g := zk_shr) (f := zk_cf zk_shr) h false (fun z => by cases z) (fun _ k => lv_ishr hx hb hdg k) (fun G s t a b a1 a2 b1 b2 => zk_cf_ok zk_shr a1 a2 b1 b2) kk
  case iushr => exact zt_bi (f := fun _ _ => zk_I) h false (fun z => by cases z) (fun _ k => lv_iushr hx hb hdg rfl k) (fun G s t a b _ _ _ _ => zk_tv_I _) kk
  case idiv =>
    unfold zk_sA at h; dsimp only at h
    split at h
    · rename_i z r hs
      cases e : zk_nz x z <;> rw [e] at h
      · cases h
      · exact zt_bi (f := fun _ _ => zk_I) h true (fun _ z' r' q => by rw [hs] at q; cases q; exact e) (fun hn k => lv_idiv hx hb hdg (hn rfl) k) (fun G s t a b _ _ _ _ => zk_tv_I _) kk
    · cases h
  case irem =>
    unfold zk_sA at h; dsimp only at h
    split at h
    · rename_i z r hs
      cases e : zk_nz x z <;> rw [e] at h
      · cases h
      · exact zt_bi (f := fun _ _ => zk_I) h true (fun _ z' r' q => by rw [hs] at q; cases q; exact e) (fun hn k => lv_irem hx hb hdg (hn rfl) k) (fun G s t a b _ _ _ _ => zk_tv_I _) kk
    · cases h
  case ineg =>
    unfold zk_sA at h; dsimp only at h
    split at h
    · rename_i y r hs
      cases e : zk_is x y 0 <;> rw [e] at h
      · cases h
      · cases h
        exact zs_uni (g := fun a => .int (-a)) hs (zk_is_eq e) (fun k => lv_ineg hx hb hdg k) (fun G a a1 a2 => zk_w32_ok (Int32.toInt_neg a) (by omega) (by omega)) kk
    · cases h
  case i2c =>
    unfold zk_sA at h; dsimp only at h
    split at h
    · rename_i y r hs
      cases e : zk_is x y 0 <;> rw [e] at h
      · cases h
      · cases h
        exact zs_uni (g := fun a => .int (a.toUInt32 % 65536).toInt32) hs (zk_is_eq e) (fun k => lv_i2c hx hb hdg rfl k) (fun G a a1 a2 => zk_tchar_ok G a1 a2) kk
    · cases h
  case i2l =>
    unfold zk_sA at h; dsimp only at h
    split at h
    · rename_i y r hs
      cases e : zk_is x y 0 <;> rw [e] at h
      · cases h
      · cases h
        refine zs_unr (g := fun a => .long a.toInt64) hs (zk_is_eq e) (fun k => lv_i2l hx hb hdg rfl k) (fun G a a1 a2 => zk_tv_long (by rw [Int32.toInt_toInt64]; exact a1) (by rw [Int32.toInt_toInt64]; exact a2)) (fun G H v a hF ly ea => ?_) kk
        have iy : zk_i (v y) = a.toInt := by rw [ea]; rfl
        have iw : zk_i (.long a.toInt64) = a.toInt := Int32.toInt_toInt64 a
        refine ⟨fun q hq => ?_, fun q hq => ?_⟩
        · unfold zk_ilr at hq
          cases c : zk_ieq (zk_lk x.2.2.2.1 y).2.1 (zk_lk x.2.2.2.1 y).2.2 <;> rw [c] at hq
          · simp only [cond_false, List.mem_cons, List.mem_nil_iff, or_false] at hq
            rcases hq with rfl | rfl
            · exact zk_rl_mk ly iw (by omega)
            · exact zk_rl_mk2 ly iw (by omega)
          · exact absurd hq List.not_mem_nil
        · obtain ⟨r, hr, rfl⟩ := List.mem_map.mp hq
          obtain ⟨r1, r2⟩ := List.mem_filter.mp hr
          obtain ⟨c1, c2⟩ := Bool.and_eq_true_iff.mp r2
          have := (zk_ms2 (zk_F_ms hF r r1) (Nat.eq_of_beq_eq_true c1)).2
          rw [Nat.eq_of_beq_eq_true c2, iy] at this
          exact zk_ms2i ⟨Nat.lt_succ_self _, by rw [zk_up_at, iw]; exact this⟩
    · cases h
  case i2b =>
    unfold zk_sA at h; dsimp only at h
    split at h
    · rename_i y r hs
      cases e : zk_is x y 0 <;> rw [e] at h
      · cases h
      · cases h
        exact zs_uni (g := fun a => .int a.toInt8.toInt32) hs (zk_is_eq e) (fun k => lv_i2b hx hb hdg rfl k) (fun G a a1 a2 => zk_tbyte_ok G a1 a2) kk
    · cases h
  case l2i =>
    unfold zk_sA at h; dsimp only at h
    split at h
    · rename_i y r hs
      cases e : zk_is x y 1 <;> rw [e] at h
      · cases h
      · cases h
        exact zs_unl (g := fun a => .int a.toInt32) hs (zk_is_eq e) (fun k => lv_l2i hx hb hdg rfl k) (fun G a a1 a2 => zk_w32_ok (z := a.toInt) (Int64.toInt_toInt32 a) a1 a2) kk
    · cases h
  case ladd => exact zt_bl h zk_lokA (fun _ k => lv_ladd hx hb hdg k) kk
  case lsub => exact zt_bl h zk_lokS (fun _ k => lv_lsub hx hb hdg k) kk
  case lmul => exact zt_bl h zk_lokM (fun _ k => lv_lmul hx hb hdg k) kk
  case land => exact zt_bl h zk_lok0 (fun _ k => lv_land hx hb hdg k) kk
  case lor => exact zt_bl h zk_lok0 (fun _ k => lv_lor hx hb hdg k) kk
  case lxor => exact zt_bl h zk_lok0 (fun _ k => lv_lxor hx hb hdg k) kk
  case ldiv => exact zt_bl h zk_lokD (fun hn k => lv_ldiv hx hb hdg (hn rfl) k) kk
  case lrem => exact zt_bl h zk_lok0 (fun hn k => lv_lrem hx hb hdg (hn rfl) k) kk
  case lshl =>
    unfold zk_sA at h; dsimp only at h
    split at h
    · rename_i z y r hs
      cases e : zk_is x y 1 && zk_is x z 0 <;> rw [e] at h
      · cases h
      · cases h
        obtain ⟨e1, e2⟩ := Bool.and_eq_true_iff.mp e
        refine zs_push (stk' := r) (fun q hq => by rw [hs]; exact List.mem_cons_of_mem _ (List.mem_cons_of_mem _ hq)) (fun G H locs ls v hF hlt _ _ => ?_) kk
        obtain ⟨a, ea, -⟩ := zk_gl (zk_F_ty hF y) (zk_is_eq e1)
        obtain ⟨b, eb, -⟩ := zk_gi (zk_F_ty hF z) (zk_is_eq e2)
        refine ⟨.long (a <<< (b.toInt64 &&& 63)), zk_tv_J _, fun q hq => by simp at hq, fun q hq => by simp at hq, fun k => ?_⟩
        rw [hs, List.map_cons, List.map_cons, ea, eb]
        exact lv_lshl hx hb hdg rfl k
    · cases h
  case lcmp =>
    unfold zk_sA at h; dsimp only at h
    split at h
    · rename_i z y r hs
      cases e : zk_is x y 1 && zk_is x z 1 <;> rw [e] at h
      · cases h
      · cases h
        obtain ⟨e1, e2⟩ := Bool.and_eq_true_iff.mp e
        exact zs_lcmp hx hb hs (zk_is_eq e1) (zk_is_eq e2) hdg kk
    · cases h
  all_goals cases h
/-- a branch's target -/
def zk_tg (pc : Nat) (off : Int) : Nat := ((pc : Int) + off).toNat
def zk_tk (pc : Nat) (off : Int) : Bool := zk_ile 0 ((pc : Int) + off)
theorem zk_tg_ok {pc : Nat} {off : Int} (h : zk_tk pc off = true) : (pc : Int) + off = (zk_tg pc off : Int) := by
  have := (zk_ile_iff _ _).mp h
  unfold zk_tg; omega
def zk_ol (pc' : Nat) (o : Option zk_S) : List (Nat × zk_S) := match o with | some y => [(pc', y)] | none => []
def zk_sw (x : zk_S) (pc : Nat) (y : Nat) : List (Int × Int) → Option (List (Nat × zk_S))
  | [] => some []
  | q :: r => bif zk_tk pc q.2 then (match zk_sw x pc y r with | some l => some (zk_ol (zk_tg pc q.2) (zk_iv x y q.1 q.1) ++ l) | none => none) else none
def zk_cnt : Nat → Int → List Int → List (Int × Int)
  | _, _, [] => []
  | k, lo, a :: r => (lo, a) :: zk_cnt k (lo + 1) r
def zk_sB (x : zk_S) (pc : Nat) : Instr → Option (List (Nat × zk_S))
  | .goto off => bif zk_tk pc off then some [(zk_tg pc off, x)] else none
  | .ifCond o off => match x.2.2.1 with
    | y :: r => bif zk_is x y 0 && zk_tk pc off then some (zk_ol (zk_tg pc off) (zk_ci (zk_st x r) y o) ++ zk_ol (pc + 3) (zk_ci (zk_st x r) y (zk_no o))) else none
    | _ => none
  | .if_icmp o off => match x.2.2.1 with
    | z :: y :: r => bif zk_is x y 0 && zk_is x z 0 && zk_tk pc off then some (zk_ol (zk_tg pc off) (zk_cm (zk_st x r) y z o) ++ zk_ol (pc + 3) (zk_cm (zk_st x r) y z (zk_no o))) else none
    | _ => none
  | .ifnull off => match x.2.2.1 with
    | y :: r => bif zk_is x y 2 && zk_tk pc off then some ((bif zk_ieq (zk_lk x.2.2.2.1 y).2.2 0 then [] else [(zk_tg pc off, zk_st x r)]) ++ (bif zk_ieq (zk_lk x.2.2.2.1 y).2.1 0 then [] else [(pc + 3, zk_nn (zk_st x r) y)])) else none
    | _ => none
  | .ifnonnull off => match x.2.2.1 with
    | y :: r => bif zk_is x y 2 && zk_tk pc off then some ((bif zk_ieq (zk_lk x.2.2.2.1 y).2.1 0 then [] else [(zk_tg pc off, zk_nn (zk_st x r) y)]) ++ (bif zk_ieq (zk_lk x.2.2.2.1 y).2.2 0 then [] else [(pc + 3, zk_st x r)])) else none
    | _ => none
  | .tableswitch dflt lo hi offs => match x.2.2.1 with
    | y :: r => bif zk_is x y 0 && zk_tk pc dflt && zk_ieq (hi + 1) (lo + (offs.toList.length : Int)) then (match zk_sw (zk_st x r) pc y (zk_cnt 0 lo offs.toList) with
      | some l => some (zk_ol (zk_tg pc dflt) (zk_iv (zk_st x r) y (-2147483648) (lo - 1)) ++ zk_ol (zk_tg pc dflt) (zk_iv (zk_st x r) y (hi + 1) 2147483647) ++ l)
      | none => none) else none
    | _ => none
  | .lookupswitch dflt ps => match x.2.2.1 with
    | y :: r => bif zk_is x y 0 && zk_tk pc dflt && (ps.toList.zip (ps.toList.drop 1)).all (fun (a, next) => decide (a.1 < next.1)) then (match zk_sw (zk_st x r) pc y ps.toList with
      | some l => some ((zk_tg pc dflt, zk_st x r) :: l)
      | none => none) else none
    | _ => none
  | _ => none
def zk_lenB : Instr → Nat
  | .goto _ | .ifCond _ _ | .if_icmp _ _ | .ifnull _ | .ifnonnull _ => 3
  | _ => 0
theorem zk_ol_mem {pc' : Nat} {o : Option zk_S} {y : zk_S} (h : o = some y) : (pc', y) ∈ zk_ol pc' o := by subst h; exact List.mem_singleton.mpr rfl
theorem zk_sw_mem {x : zk_S} {pc y : Nat} : ∀ {ps : List (Int × Int)} {l : List (Nat × zk_S)}, zk_sw x pc y ps = some l → ∀ q ∈ ps, zk_tk pc q.2 = true ∧ ∀ z, zk_iv x y q.1 q.1 = some z → (zk_tg pc q.2, z) ∈ l
  | [], l, h, q, hq => by simp at hq
  | a :: r, l, h, q, hq => by
    unfold zk_sw at h
    cases e : zk_tk pc a.2 <;> rw [e] at h
    · cases h
    · simp only [cond_true] at h
      split at h
      · rename_i l' hl'
        cases h
        rcases List.mem_cons.mp hq with rfl | hq
        · exact ⟨e, fun z hz => List.mem_append_left _ (zk_ol_mem hz)⟩
        · obtain ⟨i1, i2⟩ := zk_sw_mem hl' q hq
          exact ⟨i1, fun z hz => List.mem_append_right _ (i2 z hz)⟩
      · cases h
theorem zk_cnt_at {k : Nat} : ∀ {l : List Int} {lo : Int} {i : Nat} {a : Int}, l[i]? = some a → (lo + (i : Int), a) ∈ zk_cnt k lo l
  | [], lo, i, a, h => by simp at h
  | b :: r, lo, 0, a, h => by
    have h : b = a := by simpa using h
    subst h
    have : lo + ((0 : Nat) : Int) = lo := by omega
    rw [this]; exact List.mem_cons_self
  | b :: r, lo, i + 1, a, h => by
    have h : r[i]? = some a := by simpa using h
    have := zk_cnt_at (k := k) (lo := lo + 1) h
    have e : lo + ((i + 1 : Nat) : Int) = lo + 1 + (i : Int) := by omega
    rw [e]; exact List.mem_cons_of_mem _ this
theorem zk_lo_off {d : Int} {x : Int} : ∀ (ps : List (Int × Int)), Op.lookupswitch.offset ps d x = d ∨ (x, Op.lookupswitch.offset ps d x) ∈ ps
  | [] => Or.inl rfl
  | (a, o) :: r => by
    rw [Op.lookupswitch.offset_cons]
    split
    · rename_i e
      right
      first
        | (rw [e]; exact List.mem_cons_self)
        | (rw [← e]; exact List.mem_cons_self)
    · rcases zk_lo_off r with h | h
      · exact Or.inl h
      · exact Or.inr (List.mem_cons_of_mem _ h)
def zk_cI : ClassFile.Cond → Int32 → Int32 → Prop
  | .eq, a, b => a = b
  | .ne, a, b => ¬ a = b
  | .lt, a, b => a < b
  | .ge, a, b => b ≤ a
  | .gt, a, b => b < a
  | .le, a, b => a ≤ b
theorem zk_cp_int {o : ClassFile.Cond} {a b : Int32} : zk_cp o a.toInt b.toInt ↔ zk_cI o a b := by
  cases o <;> simp only [zk_cp, zk_cI]
  · exact Int32.toInt_inj
  · exact not_congr Int32.toInt_inj
  · exact Int32.lt_iff_toInt_lt.symm
  · exact Int32.le_iff_toInt_le.symm
  · exact Int32.lt_iff_toInt_lt.symm
  · exact Int32.le_iff_toInt_le.symm
set_option maxHeartbeats 4000000 in
theorem zt_B (hx : p.tables.exec = Jvm.exec) (hb : c.code = cc) {ins : Instr} {len : Nat} {outs : List (Nat × zk_S)} (h : zk_sB x pc ins = some outs) (hlen : zk_lenB ins ≠ 0 → len = zk_lenB ins) (hdg : decode cc pc = .ok (ins, len)) (kk : ∀ o ∈ outs, zk_G p l e R s m args below meth c Q KT D base Hb n0 nL v0 E G0 H0 cells slots o.1 o.2) : zk_G p l e R s m args below meth c Q KT D base Hb n0 nL v0 E G0 H0 cells slots pc x := by
  cases ins
  case goto off =>
    obtain rfl : len = 3 := hlen (show (3 : Nat) ≠ 0 by decide)
    unfold zk_sB at h; dsimp only at h
    cases e : zk_tk pc off <;> rw [e] at h
    · cases h
    · cases h
      intro G H locs ls vs v hp he hl hF hL
      exact lv_goto hx hb hdg (zk_tg_ok e) (kk _ List.mem_cons_self G H locs ls vs v hp he hl hF hL)
  case ifCond o off =>
    obtain rfl : len = 3 := hlen (show (3 : Nat) ≠ 0 by decide)
    unfold zk_sB at h; dsimp only at h
    split at h
    · rename_i y r hs
      cases e : zk_is x y 0 && zk_tk pc off <;> rw [e] at h
      · cases h
      · cases h
        obtain ⟨e1, e2⟩ := Bool.and_eq_true_iff.mp e
        refine zs_if (o := o) (tgt := zk_tg pc off) hs (zk_is_eq e1) (fun {H locs ls rv a} k1 k2 => ?_) (fun x' hx' => kk _ (List.mem_append_left _ (zk_ol_mem hx'))) (fun x' hx' => kk _ (List.mem_append_right _ (zk_ol_mem hx')))
        have hcp := zk_cp_int (o := o) (a := a) (b := 0)
        rw [show (0 : Int32).toInt = 0 from rfl] at hcp
        have k1 := fun q => k1 (hcp.mpr q)
        have k2 := fun (q : ¬ zk_cI o a 0) => k2 (fun z => q (hcp.mp z))
        cases o <;> simp only [zk_cI] at k1 k2
        · exact lv_if_eq hx hb hdg (zk_tg_ok e2) k1 k2
        · exact lv_if_ne hx hb hdg (zk_tg_ok e2) k1 (fun q => k2 (fun z => z q))
        · exact lv_if_lt hx hb hdg (zk_tg_ok e2) k1 k2
        · exact lv_if_ge hx hb hdg (zk_tg_ok e2) k1 k2
        · exact lv_if_gt hx hb hdg (zk_tg_ok e2) k1 k2
        · exact lv_if_le hx hb hdg (zk_tg_ok e2) k1 k2
    · cases h
  case if_icmp o off =>
    obtain rfl : len = 3 := hlen (show (3 : Nat) ≠ 0 by decide)
    unfold zk_sB at h; dsimp only at h
    split at h
    · rename_i z y r hs
      cases e : zk_is x y 0 && zk_is x z 0 && zk_tk pc off <;> rw [e] at h
      · cases h
      · cases h
        obtain ⟨e, e3⟩ := Bool.and_eq_true_iff.mp e
        obtain ⟨e1, e2⟩ := Bool.and_eq_true_iff.mp e
        refine zs_icmp (o := o) (tgt := zk_tg pc off) hs (zk_is_eq e1) (zk_is_eq e2) (fun {H locs ls rv a b} k1 k2 => ?_) (fun x' hx' => kk _ (List.mem_append_left _ (zk_ol_mem hx'))) (fun x' hx' => kk _ (List.mem_append_right _ (zk_ol_mem hx')))
        have hcp := zk_cp_int (o := o) (a := a) (b := b)
        have k1 := fun q => k1 (hcp.mpr q)
        have k2 := fun (q : ¬ zk_cI o a b) => k2 (fun z => q (hcp.mp z))
        cases o <;> simp only [zk_cI] at k1 k2
        · exact lv_icmp_eq hx hb hdg (zk_tg_ok e3) k1 k2
        · exact lv_icmp_ne hx hb hdg (zk_tg_ok e3) k1 (fun q => k2 (fun z => z q))
        · exact lv_icmp_lt hx hb hdg (zk_tg_ok e3) k1 k2
        · exact lv_icmp_ge hx hb hdg (zk_tg_ok e3) k1 k2
        · exact lv_icmp_gt hx hb hdg (zk_tg_ok e3) k1 k2
        · exact lv_icmp_le hx hb hdg (zk_tg_ok e3) k1 k2
    · cases h
  case ifnull off =>
    obtain rfl : len = 3 := hlen (show (3 : Nat) ≠ 0 by decide)
    unfold zk_sB at h; dsimp only at h
    split at h
    · rename_i y r hs
      cases e : zk_is x y 2 && zk_tk pc off <;> rw [e] at h
      · cases h
      · cases h
        obtain ⟨e1, e2⟩ := Bool.and_eq_true_iff.mp e
        intro G H locs ls vs v hp he hl hF hL
        obtain ⟨q1, hlt⟩ := zk_LS_stk hL
        subst q1
        have hty := zk_F_ty hF y
        rw [hs] at hlt ⊢
        have ly := hlt y List.mem_cons_self
        have hF' := zk_F_st r hF
        have hL' := zk_LS_st (stk' := r) hL fun q hq => hlt q (List.mem_cons_of_mem _ hq)
        rw [List.map_cons]
        rcases zk_rn hty (zk_is_eq e1) with ⟨a, ea⟩ | ea
        · obtain ⟨f1, f2⟩ := zk_nn_ok hF' ly (by rw [ea]; exact fun q => by cases q)
          have nk : zk_ieq (zk_lk x.2.2.2.1 y).2.1 0 = false := by
            cases e9 : zk_ieq (zk_lk x.2.2.2.1 y).2.1 0
            · rfl
            · exfalso
              have e9 := (zk_ieq_iff _ _).mp e9
              have e0 := zk_is_eq e1
              unfold zk_tv at hty
              rw [if_neg (by omega), if_neg (by omega), if_pos e0, ea] at hty
              rcases hty with ⟨b, -, q, q2⟩ | ⟨-, q⟩
              · omega
              · cases q
          rw [ea]
          exact lv_ifnull hx hb hdg (kk (pc + 3, zk_nn (zk_st x r) y) (List.mem_append_right _ (by rw [nk]; exact List.mem_singleton.mpr rfl)) G H locs ls _ v hp he hl f1 (f2 hL'))
        · rw [ea]
          refine lv_ifnullN hx hb hdg (zk_tg_ok e2) (kk (zk_tg pc off, zk_st x r) (List.mem_append_left _ ?_) G H locs ls _ v hp he hl hF' hL')
          cases ez : zk_ieq (zk_lk x.2.2.2.1 y).2.2 0
          · exact List.mem_singleton.mpr rfl
          · exfalso
            obtain ⟨a, q, -⟩ := zk_gr hty (zk_is_eq e1) ((zk_ieq_iff _ _).mp ez)
            rw [ea] at q; cases q
    · cases h
  case ifnonnull off =>
    obtain rfl : len = 3 := hlen (show (3 : Nat) ≠ 0 by decide)
    unfold zk_sB at h; dsimp only at h
    split at h
    · rename_i y r hs
      cases e : zk_is x y 2 && zk_tk pc off <;> rw [e] at h
      · cases h
      · cases h
        obtain ⟨e1, e2⟩ := Bool.and_eq_true_iff.mp e
        intro G H locs ls vs v hp he hl hF hL
        obtain ⟨q1, hlt⟩ := zk_LS_stk hL
        subst q1
        have hty := zk_F_ty hF y
        rw [hs] at hlt ⊢
        have ly := hlt y List.mem_cons_self
        have hF' := zk_F_st r hF
        have hL' := zk_LS_st (stk' := r) hL fun q hq => hlt q (List.mem_cons_of_mem _ hq)
        rw [List.map_cons]
        rcases zk_rn hty (zk_is_eq e1) with ⟨a, ea⟩ | ea
        · obtain ⟨f1, f2⟩ := zk_nn_ok hF' ly (by rw [ea]; exact fun q => by cases q)
          have nk : zk_ieq (zk_lk x.2.2.2.1 y).2.1 0 = false := by
            cases e9 : zk_ieq (zk_lk x.2.2.2.1 y).2.1 0
            · rfl
            · exfalso
              have e9 := (zk_ieq_iff _ _).mp e9
              have e0 := zk_is_eq e1
              unfold zk_tv at hty
              rw [if_neg (by omega), if_neg (by omega), if_pos e0, ea] at hty
              rcases hty with ⟨b, -, q, q2⟩ | ⟨-, q⟩
              · omega
              · cases q
          rw [ea]
          exact lv_ifnonnull hx hb hdg (zk_tg_ok e2) (kk (zk_tg pc off, zk_nn (zk_st x r) y) (List.mem_append_left _ (by rw [nk]; exact List.mem_singleton.mpr rfl)) G H locs ls _ v hp he hl f1 (f2 hL'))
        · rw [ea]
          refine lv_ifnonnullN hx hb hdg (kk (pc + 3, zk_st x r) (List.mem_append_right _ ?_) G H locs ls _ v hp he hl hF' hL')
          cases ez : zk_ieq (zk_lk x.2.2.2.1 y).2.2 0
          · exact List.mem_singleton.mpr rfl
          · exfalso
            obtain ⟨a, q, -⟩ := zk_gr hty (zk_is_eq e1) ((zk_ieq_iff _ _).mp ez)
            rw [ea] at q; cases q
    · cases h
  case tableswitch dflt lo hi offs =>
    unfold zk_sB at h; dsimp only at h
    split at h
    · rename_i y r hs
      cases e : zk_is x y 0 && zk_tk pc dflt && zk_ieq (hi + 1) (lo + (offs.toList.length : Int)) <;> rw [e] at h
      · cases h
      · simp only [cond_true] at h
        split at h
        · rename_i l hl0
          cases h
          obtain ⟨e, e3⟩ := Bool.and_eq_true_iff.mp e
          obtain ⟨e1, e2⟩ := Bool.and_eq_true_iff.mp e
          have e3 := (zk_ieq_iff _ _).mp e3
          intro G H locs ls vs v hp he hl hF hL
          obtain ⟨q1, hlt⟩ := zk_LS_stk hL
          subst q1
          obtain ⟨a, ea, a1, a2⟩ := zk_gi (zk_F_ty hF y) (zk_is_eq e1)
          rw [hs] at hlt ⊢
          have ly := hlt y List.mem_cons_self
          have hF' := zk_F_st r hF
          have hL' := zk_LS_st (stk' := r) hL fun q hq => hlt q (List.mem_cons_of_mem _ hq)
          have hr := zk_rng a
          have hi' : zk_i (v y) = a.toInt := by rw [ea]; rfl
          rw [List.map_cons, ea]
          by_cases c1 : a.toInt < lo
          · obtain ⟨x', q1, q2, q3⟩ := zk_iv_ok hF' (x := y) (lo := -2147483648) (hi := lo - 1) ly (by omega) (by omega)
            exact lv_tableOut hx hb hdg (Or.inl c1) (zk_tg_ok e2) (kk _ (List.mem_append_left _ (List.mem_append_left _ (zk_ol_mem q1))) G H locs ls _ v hp he hl q2 (q3 hL'))
          · by_cases c2 : hi < a.toInt
            · obtain ⟨x', q1, q2, q3⟩ := zk_iv_ok hF' (x := y) (lo := hi + 1) (hi := 2147483647) ly (by omega) (by omega)
              exact lv_tableOut hx hb hdg (Or.inr c2) (zk_tg_ok e2) (kk _ (List.mem_append_left _ (List.mem_append_right _ (zk_ol_mem q1))) G H locs ls _ v hp he hl q2 (q3 hL'))
            · have hidx : (a.toInt - lo).toNat < offs.toList.length := by omega
              have ho : offs.toList[(a.toInt - lo).toNat]? = some offs.toList[(a.toInt - lo).toNat] := List.getElem?_eq_getElem hidx
              generalize offs.toList[(a.toInt - lo).toNat] = off at ho
              have hmem := zk_cnt_at (k := 0) (lo := lo) ho
              have hlo : lo + (((a.toInt - lo).toNat : Nat) : Int) = a.toInt := by omega
              rw [hlo] at hmem
              obtain ⟨t1, t2⟩ := zk_sw_mem hl0 _ hmem
              obtain ⟨x', q1, q2, q3⟩ := zk_iv_ok hF' (x := y) (lo := a.toInt) (hi := a.toInt) ly (by omega) (by omega)
              refine lv_tableIn hx hb hdg c1 c2 (off := off) ?_ (zk_tg_ok t1) (kk _ (List.mem_append_right _ (t2 x' q1)) G H locs ls _ v hp he hl q2 (q3 hL'))
              rw [← Array.getElem?_toList]; exact ho
        · cases h
    · cases h
  case lookupswitch dflt ps =>
    unfold zk_sB at h; dsimp only at h
    split at h
    · rename_i y r hs
      cases e : zk_is x y 0 && zk_tk pc dflt && (ps.toList.zip (ps.toList.drop 1)).all (fun (a, next) => decide (a.1 < next.1)) <;> rw [e] at h
      · cases h
      · simp only [cond_true] at h
        split at h
        · rename_i l hl0
          cases h
          obtain ⟨e, e3⟩ := Bool.and_eq_true_iff.mp e
          obtain ⟨e1, e2⟩ := Bool.and_eq_true_iff.mp e
          intro G H locs ls vs v hp he hl hF hL
          obtain ⟨q1, hlt⟩ := zk_LS_stk hL
          subst q1
          obtain ⟨a, ea, a1, a2⟩ := zk_gi (zk_F_ty hF y) (zk_is_eq e1)
          rw [hs] at hlt ⊢
          have ly := hlt y List.mem_cons_self
          have hF' := zk_F_st r hF
          have hL' := zk_LS_st (stk' := r) hL fun q hq => hlt q (List.mem_cons_of_mem _ hq)
          have hi' : zk_i (v y) = a.toInt := by rw [ea]; rfl
          rw [List.map_cons, ea]
          rcases zk_lo_off (d := dflt) (x := a.toInt) ps.toList with c1 | c1
          · exact lv_lookup hx hb hdg e3 c1 (zk_tg_ok e2) (kk _ List.mem_cons_self G H locs ls _ v hp he hl hF' hL')
          · obtain ⟨t1, t2⟩ := zk_sw_mem hl0 _ c1
            obtain ⟨x', q1, q2, q3⟩ := zk_iv_ok hF' (x := y) (lo := a.toInt) (hi := a.toInt) ly (by omega) (by omega)
            exact lv_lookup hx hb hdg e3 rfl (zk_tg_ok t1) (kk _ (List.mem_cons_of_mem _ (t2 x' q1)) G H locs ls _ v hp he hl q2 (q3 hL'))
        · cases h
    · cases h
  all_goals cases h
end ZB
end
