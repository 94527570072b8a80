/-! THE STATE: what is known of the tables, the classes, the Strings, at every method's entry -/
noncomputable section
def zg_K (D : zk_D) (base : Nat) (Hb : Heap) (s : State) : Prop :=
  ((Hb.size = base ∧ ∀ ad ∈ ["[I", "[J"], va_Nw (.castable ad "java/lang/Cloneable") s) ∧ zk_dj qK D ∧ zq_all qK D qn_M qn_saying qn_codes qn_textSize qn_SC qn_pickAt) ∧
  (∀ (ci : Nat) (q : vw_C), zg_cls[ci]? = some q → u_Kn s q.1 q.2.1 q.2.2 (D.1 ci) (D.2.1 ci)) ∧
  (∀ (tag : Nat) (ty : FieldType), zg_AT[tag]? = some ty → ArrOfT s (D.2.2.1 tag) ty) ∧
  (∀ q ∈ zg_an, s.vm.findClass ("[" ++ q.2.toString) = some (D.2.2.1 q.1)) ∧
  (∀ q ∈ zg_nw, va_Nw (.methodLinkNest q.1 q.2.1 q.2.2.1 q.2.2.2) s) ∧
  (∀ C ∈ zg_aoC, (Jvm.Cond.arrayOver (.object C)).before #[] s = true) ∧
  (∀ t ∈ zg_aoA, (Jvm.Cond.arrayOver (.array t)).before #[] s = true) ∧
  s.vm.findClass "java/lang/String" = some (D.1 zg_cls.length) ∧
  (∀ q ∈ zg_sf, ∃ (cf : ClassId) (k : Class) (i : Nat) (fd : Field), s.fieldFound? "java/lang/String" q.1 q.2.1 = some (cf, k, i, fd) ∧ fd.isStatic = false ∧ fd.slot = D.2.1 zg_cls.length q.2.2) ∧
  (∀ q ∈ zg_sr, vk_R q.1 q.2.1 q.2.2.1 (D.2.2.2.1 q.2.2.2) s) ∧
  (∀ q ∈ zg_st, va_Z q.1 q.2.1 q.2.2.1 (.int q.2.2.2) (fun a => base ≤ a) s Hb) ∧
  (∃ w : Value, (w = .null ∨ ∃ a, w = .ref a) ∧ va_Z "jdk/internal/util/Preconditions" "SIOOBE_FORMATTER" "Ljava/util/function/BiFunction;" w (fun a => base ≤ a) s Hb)
theorem zg_cast_moved {C T : String} {u U : State} (hvm : u.vm.Alike U.vm) (h : va_Nw (.castable C T) u) : va_Nw (.castable C T) U := va_tabs rfl (rfl : (u.setVm U.vm).vm = U.vm) (by rw [Cond.castable_setVm hvm]; exact h)
theorem zg_K_moved {D : zk_D} {base : Nat} {Hb : Heap} {u U : State} (hvm : u.vm.Alike U.vm) (hn : ∀ q ∈ zg_nw, va_Nw (.methodLinkNest q.1 q.2.1 q.2.2.1 q.2.2.2) U) (hr : ∀ q ∈ zg_sr, vk_R q.1 q.2.1 q.2.2.1 (D.2.2.2.1 q.2.2.2) U) (h : zg_K D base Hb u) : zg_K D base Hb U := by
  obtain ⟨⟨⟨h00, h01⟩, h02⟩, h1, h2, h3, h4, h5, h6, h7, h8, h9, h10, w, hw, h11⟩ := h
  refine ⟨⟨⟨h00, fun ad had => zg_cast_moved hvm (h01 ad had)⟩, h02⟩, fun ci q hq => u_Kn_moved hvm (h1 ci q hq), fun tag ty ht => arrOfT_moved hvm (h2 tag ty ht), fun q hq => ?_, hn, fun C hC => va_AO.moved hvm (h5 C hC), fun t ht => over_moved hvm (h6 t ht), ?_, fun q hq => ?_, hr, fun q hq => va_Z.moved hvm (h10 q hq), w, hw, va_Z.moved hvm h11⟩
  · rw [hvm.findClass]; exact h3 q hq
  · rw [hvm.findClass]; exact h7
  · obtain ⟨cf, k, i, fd, a1, a2⟩ := h8 q hq
    obtain ⟨k', hi', -⟩ := State.fieldFound?_setVm hvm a1
    exact ⟨cf, k', i, fd, hi', a2⟩
theorem zg_Km {D : zk_D} {base : Nat} {Hb : Heap} : zk_Km (zg_K D base Hb) :=
  ⟨fun U g mk a h => zg_K_moved (U := U.calling g mk a) (Vm.Alike.refl U.vm) (fun q hq => (h.2.2.2.2.1 q hq).same rfl rfl) (fun q hq => vk_R.same (U := U.calling g mk a) (u := U) rfl (h.2.2.2.2.2.2.2.2.2.1 q hq)) h,
   fun s U hW h => zg_K_moved hW.alike (fun q hq => (h.2.2.2.2.1 q hq).warmM hW) (fun q hq => (h.2.2.2.2.2.2.2.2.2.1 q hq).warm hW) h⟩
theorem zg_kt_ok2 {KT : List zk_K} (h9 : (zk_kd KT 0).1 = 9) (h0 : (zk_kd KT 0).2.1 = 0) (hn : (zk_kd KT 0).2.2.1 = []) (hf : (zk_kd KT 0).2.2.2.2.2.2.1 = 0) (hr : (zk_kd KT 0).2.2.2.2.2.2.2 = 0) (h : zg_ktb KT = true) : zk_kt KT := by
  unfold zg_ktb at h
  obtain ⟨-, h2⟩ := Bool.and_eq_true_iff.mp h
  refine ⟨by rw [hr]; decide, fun k => ?_⟩
  by_cases hk : k < KT.length
  · have := List.all_eq_true.mp h2 k (List.mem_range.mpr hk)
    simp only [Bool.and_eq_true] at this
    obtain ⟨⟨⟨⟨⟨a1, a2⟩, a3⟩, a4⟩, a5⟩, a6⟩ := this
    refine ⟨Nat.eq_of_beq_eq_true a1, Nat.eq_of_beq_eq_true a2, Nat.eq_of_beq_eq_true a3, Nat.eq_of_beq_eq_true a4, Nat.eq_of_beq_eq_true a5, fun t ht e => ?_⟩
    have := List.all_eq_true.mp a6 t ht
    rw [e] at this
    exact Nat.eq_of_beq_eq_true (by simpa using this)
  · have e : zk_kd KT k = zk_K0 := by
      unfold zk_kd
      rw [List.getD_eq_getElem?_getD, List.getElem?_eq_none (Nat.le_of_not_lt hk)]; rfl
    have ef : zk_fin KT k = 0 := by unfold zk_fin; rw [e]; rfl
    have ef0 : zk_fin KT 0 = 0 := hf
    rw [ef, e]
    refine ⟨h9, h0, by rw [hn]; rfl, ef0, hr, fun t ht => ?_⟩
    cases ht
theorem zg_qKt : zk_kt qK := zg_kt_ok2 (by decide +kernel) (by decide +kernel) (by decide +kernel) (by decide +kernel) (by decide +kernel) (by decide +kernel)
theorem zg_tagk : ((List.range qK.length).all fun k => Nat.beq (zk_kd qK k).1 0 || (zg_AT[(zk_kd qK k).2.1]?).isSome) = true := by decide +kernel
theorem zg_wd {D : zk_D} {base : Nat} {Hb : Heap} {s : State} (h : zg_K D base Hb s) : zk_wd s qK D zg_AT := by
  refine ⟨zg_qKt, h.1.2.1, h.2.2.1, rfl, rfl, rfl, rfl, rfl, rfl, fun g hg => ?_, fun tag htag ty hty => ?_, fun k hk => ?_⟩
  · unfold zk_tgb at hg
    rcases Bool.or_eq_true_iff.mp hg with e | e
    · rw [Nat.eq_of_beq_eq_true e]; rfl
    · obtain ⟨e1, e2⟩ := Bool.and_eq_true_iff.mp e
      have e1 := Nat.le_of_ble_eq_true e1
      have e2 := Nat.le_of_ble_eq_true e2
      rcases (show g = 6 ∨ g = 7 ∨ g = 8 ∨ g = 9 by omega) with e | e | e | e <;> subst e <;> rfl
  · have hl : (zg_AT.drop 10).all (fun t => t.isReference) = true := by decide +kernel
    refine List.all_eq_true.mp hl ty (List.mem_of_getElem? (i := tag - 10) ?_)
    rw [List.getElem?_drop, show 10 + (tag - 10) = tag by omega]; exact hty
  · by_cases hlt : k < qK.length
    · have := List.all_eq_true.mp zg_tagk k (List.mem_range.mpr hlt)
      rcases Bool.or_eq_true_iff.mp this with e | e
      · exact absurd (Nat.eq_of_beq_eq_true e) hk
      · exact ⟨_, (Option.eq_some_of_isSome e)⟩
    · refine ⟨.int, ?_⟩
      have e : zk_kd qK k = zk_K0 := by
        unfold zk_kd
        rw [List.getD_eq_getElem?_getD, List.getElem?_eq_none (Nat.le_of_not_lt hlt)]; rfl
      rw [e]; rfl
end
