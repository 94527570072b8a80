/-! BY HAND: byteOf of the reference -/
noncomputable section
set_option maxRecDepth 100000 in
def zf_bo (a b c d e k : Int32) : Int32 := ((if 4 ≤ k then (if 8 ≤ k then (if 12 ≤ k then (if 16 ≤ k then e else d) else c) else b) else a) >>> ((24 - 8 * (k - k / 4 * 4)) &&& 31)) &&& 255
set_option maxHeartbeats 4000000 in
set_option maxRecDepth 100000 in
theorem zh_byteOf {l : Launch} {D : zk_D} {base : Nat} {Hb H : Heap} (a1 a2 a3 a4 a5 a6 : Int32) : zh_Met l base (zg_K D base Hb) yX12_byteOf (Jvm.Cond.code yX12_byteOf prog_14_method_11_code 7 (some .int) :: zg_tb) { frames := 1, cells := 0, slots := 0, locals := 20 } [.int a1, .int a2, .int a3, .int a4, .int a5, .int a6] H (fun ov H' => ov = some (.int (zf_bo a1 a2 a3 a4 a5 a6)) ∧ H' = H) := by
  refine Met.ofW (cc := prog_14_method_11_code) (maxL := 7) (ret := (some .int)) (by decide +kernel) rfl ?_
  intro p e s m args below meth c s₁ B hml hv
  obtain ⟨rfl, hH, hK⟩ := hv
  subst hH
  have hx := B.exec
  have hb := B.bytes
  have hr := B.returns
  have hlocks := B.notSynchronized
  have hts := atoms_spec (ws := (Jvm.Cond.code yX12_byteOf prog_14_method_11_code 7 (some .int) :: zg_tb)) B.pre
  have hown : s.vm.findClass RX12 = some m.cls := findClass_of_methodNamed B.named
  have S : CallFix p m c prog_14_method_11_code 7 s _ (Jvm.Cond.code yX12_byteOf prog_14_method_11_code 7 (some .int) :: zg_tb) RX12 := ⟨hx, hb, hml, hown, hts⟩
  have hl := lv_entry ([.int a1, .int a2, .int a3, .int a4, .int a5, .int a6]) (n := 7) (Nat.le_of_ble_eq_true rfl)
  rw [lg_entry_eq]
  generalize (lg_sl ([.int a1, .int a2, .int a3, .int a4, .int a5, .int a6]) ++ List.replicate (7 - (lg_sl ([.int a1, .int a2, .int a3, .int a4, .int a5, .int a6])).length) Slot.unset).toArray = ls at hl ⊢
  have hl : lv_has ls 7 [(0, .int a1), (1, .int a2), (2, .int a3), (3, .int a4), (4, .int a5), (5, .int a6)] := hl
  refine lv_iload hx hb (by decide +kernel : decode prog_14_method_11_code 0 = .ok (.iload 5, 2)) (lv_at hl 5 rfl) ?_
  refine lv_iconst (v := 4) hx hb (by decide +kernel : decode prog_14_method_11_code 2 = .ok (.iconst 4, 1)) (by decide) ?_
  refine lv_icmp_ge (tgt := 10) hx hb (by decide +kernel : decode prog_14_method_11_code 3 = .ok (.if_icmp .ge 7, 3)) (by decide) (fun c_1 => ?_) (fun c_1 => ?_)
  · refine lv_iload hx hb (by decide +kernel : decode prog_14_method_11_code 10 = .ok (.iload 5, 2)) (lv_at hl 5 rfl) ?_
    refine lv_bipush (v := 8) hx hb (by decide +kernel : decode prog_14_method_11_code 12 = .ok (.bipush 8, 2)) (by decide) ?_
    refine lv_icmp_ge (tgt := 21) hx hb (by decide +kernel : decode prog_14_method_11_code 14 = .ok (.if_icmp .ge 7, 3)) (by decide) (fun c_2 => ?_) (fun c_2 => ?_)
    · refine lv_iload hx hb (by decide +kernel : decode prog_14_method_11_code 21 = .ok (.iload 5, 2)) (lv_at hl 5 rfl) ?_
      refine lv_bipush (v := 12) hx hb (by decide +kernel : decode prog_14_method_11_code 23 = .ok (.bipush 12, 2)) (by decide) ?_
      refine lv_icmp_ge (tgt := 32) hx hb (by decide +kernel : decode prog_14_method_11_code 25 = .ok (.if_icmp .ge 7, 3)) (by decide) (fun c_3 => ?_) (fun c_3 => ?_)
      · refine lv_iload hx hb (by decide +kernel : decode prog_14_method_11_code 32 = .ok (.iload 5, 2)) (lv_at hl 5 rfl) ?_
        refine lv_bipush (v := 16) hx hb (by decide +kernel : decode prog_14_method_11_code 34 = .ok (.bipush 16, 2)) (by decide) ?_
        refine lv_icmp_ge (tgt := 43) hx hb (by decide +kernel : decode prog_14_method_11_code 36 = .ok (.if_icmp .ge 7, 3)) (by decide) (fun c_4 => ?_) (fun c_4 => ?_)
        · refine lv_iload hx hb (by decide +kernel : decode prog_14_method_11_code 43 = .ok (.iload 4, 2)) (lv_at hl 4 rfl) ?_
          refine lv_istore (lv' := [(6, .int a5), (0, .int a1), (1, .int a2), (2, .int a3), (3, .int a4), (4, .int a5), (5, .int a6)]) hx hb (by decide +kernel : decode prog_14_method_11_code 45 = .ok (.istore 6, 2)) hl (by decide) rfl (fun ls hl => ?_)
          refine lv_iload hx hb (by decide +kernel : decode prog_14_method_11_code 47 = .ok (.iload 6, 2)) (lv_at hl 0 rfl) ?_
          refine lv_bipush (v := 24) hx hb (by decide +kernel : decode prog_14_method_11_code 49 = .ok (.bipush 24, 2)) (by decide) ?_
          refine lv_bipush (v := 8) hx hb (by decide +kernel : decode prog_14_method_11_code 51 = .ok (.bipush 8, 2)) (by decide) ?_
          refine lv_iload hx hb (by decide +kernel : decode prog_14_method_11_code 53 = .ok (.iload 5, 2)) (lv_at hl 6 rfl) ?_
          refine lv_iconst (v := 4) hx hb (by decide +kernel : decode prog_14_method_11_code 55 = .ok (.iconst 4, 1)) (by decide) ?_
          refine lv_irem hx hb (by decide +kernel : decode prog_14_method_11_code 56 = .ok (.irem, 1)) (by decide) ?_
          refine lv_imul hx hb (by decide +kernel : decode prog_14_method_11_code 57 = .ok (.imul, 1)) ?_
          refine lv_isub hx hb (by decide +kernel : decode prog_14_method_11_code 58 = .ok (.isub, 1)) ?_
          refine lv_ishr hx hb (by decide +kernel : decode prog_14_method_11_code 59 = .ok (.ishr, 1)) ?_
          refine lv_sipush (v := 255) hx hb (by decide +kernel : decode prog_14_method_11_code 60 = .ok (.sipush 255, 3)) (by decide) ?_
          refine lv_iand hx hb (by decide +kernel : decode prog_14_method_11_code 63 = .ok (.iand, 1)) ?_
          have e : zf_bo a1 a2 a3 a4 a5 a6 = ((a5 >>> ((24 - (8 * (a6 - a6 / 4 * 4))) &&& 31)) &&& 255) := by
            unfold zf_bo
            simp only [*, ↓reduceIte]
          rw [e]
          exact W.iret hx hb hr (fun t ht _ => ⟨_, rfl, rfl, ht⟩) (fun q hq => absurd hq List.not_mem_nil) (by decide +kernel : decode prog_14_method_11_code 64 = .ok (.ireturn, 1))
        · refine lv_iload_n hx hb (by decide +kernel : decode prog_14_method_11_code 39 = .ok (.iload_n 3, 1)) rfl (lv_at hl 3 rfl) ?_
          refine lv_goto (tgt := 45) hx hb (by decide +kernel : decode prog_14_method_11_code 40 = .ok (.goto 5, 3)) (by decide) ?_
          refine lv_istore (lv' := [(6, .int a4), (0, .int a1), (1, .int a2), (2, .int a3), (3, .int a4), (4, .int a5), (5, .int a6)]) hx hb (by decide +kernel : decode prog_14_method_11_code 45 = .ok (.istore 6, 2)) hl (by decide) rfl (fun ls hl => ?_)
          refine lv_iload hx hb (by decide +kernel : decode prog_14_method_11_code 47 = .ok (.iload 6, 2)) (lv_at hl 0 rfl) ?_
          refine lv_bipush (v := 24) hx hb (by decide +kernel : decode prog_14_method_11_code 49 = .ok (.bipush 24, 2)) (by decide) ?_
          refine lv_bipush (v := 8) hx hb (by decide +kernel : decode prog_14_method_11_code 51 = .ok (.bipush 8, 2)) (by decide) ?_
          refine lv_iload hx hb (by decide +kernel : decode prog_14_method_11_code 53 = .ok (.iload 5, 2)) (lv_at hl 6 rfl) ?_
          refine lv_iconst (v := 4) hx hb (by decide +kernel : decode prog_14_method_11_code 55 = .ok (.iconst 4, 1)) (by decide) ?_
          refine lv_irem hx hb (by decide +kernel : decode prog_14_method_11_code 56 = .ok (.irem, 1)) (by decide) ?_
          refine lv_imul hx hb (by decide +kernel : decode prog_14_method_11_code 57 = .ok (.imul, 1)) ?_
          refine lv_isub hx hb (by decide +kernel : decode prog_14_method_11_code 58 = .ok (.isub, 1)) ?_
          refine lv_ishr hx hb (by decide +kernel : decode prog_14_method_11_code 59 = .ok (.ishr, 1)) ?_
          refine lv_sipush (v := 255) hx hb (by decide +kernel : decode prog_14_method_11_code 60 = .ok (.sipush 255, 3)) (by decide) ?_
          refine lv_iand hx hb (by decide +kernel : decode prog_14_method_11_code 63 = .ok (.iand, 1)) ?_
          have e : zf_bo a1 a2 a3 a4 a5 a6 = ((a4 >>> ((24 - (8 * (a6 - a6 / 4 * 4))) &&& 31)) &&& 255) := by
            unfold zf_bo
            simp only [*, ↓reduceIte]
          rw [e]
          exact W.iret hx hb hr (fun t ht _ => ⟨_, rfl, rfl, ht⟩) (fun q hq => absurd hq List.not_mem_nil) (by decide +kernel : decode prog_14_method_11_code 64 = .ok (.ireturn, 1))
      · refine lv_iload_n hx hb (by decide +kernel : decode prog_14_method_11_code 28 = .ok (.iload_n 2, 1)) rfl (lv_at hl 2 rfl) ?_
        refine lv_goto (tgt := 45) hx hb (by decide +kernel : decode prog_14_method_11_code 29 = .ok (.goto 16, 3)) (by decide) ?_
        refine lv_istore (lv' := [(6, .int a3), (0, .int a1), (1, .int a2), (2, .int a3), (3, .int a4), (4, .int a5), (5, .int a6)]) hx hb (by decide +kernel : decode prog_14_method_11_code 45 = .ok (.istore 6, 2)) hl (by decide) rfl (fun ls hl => ?_)
        refine lv_iload hx hb (by decide +kernel : decode prog_14_method_11_code 47 = .ok (.iload 6, 2)) (lv_at hl 0 rfl) ?_
        refine lv_bipush (v := 24) hx hb (by decide +kernel : decode prog_14_method_11_code 49 = .ok (.bipush 24, 2)) (by decide) ?_
        refine lv_bipush (v := 8) hx hb (by decide +kernel : decode prog_14_method_11_code 51 = .ok (.bipush 8, 2)) (by decide) ?_
        refine lv_iload hx hb (by decide +kernel : decode prog_14_method_11_code 53 = .ok (.iload 5, 2)) (lv_at hl 6 rfl) ?_
        refine lv_iconst (v := 4) hx hb (by decide +kernel : decode prog_14_method_11_code 55 = .ok (.iconst 4, 1)) (by decide) ?_
        refine lv_irem hx hb (by decide +kernel : decode prog_14_method_11_code 56 = .ok (.irem, 1)) (by decide) ?_
        refine lv_imul hx hb (by decide +kernel : decode prog_14_method_11_code 57 = .ok (.imul, 1)) ?_
        refine lv_isub hx hb (by decide +kernel : decode prog_14_method_11_code 58 = .ok (.isub, 1)) ?_
        refine lv_ishr hx hb (by decide +kernel : decode prog_14_method_11_code 59 = .ok (.ishr, 1)) ?_
        refine lv_sipush (v := 255) hx hb (by decide +kernel : decode prog_14_method_11_code 60 = .ok (.sipush 255, 3)) (by decide) ?_
        refine lv_iand hx hb (by decide +kernel : decode prog_14_method_11_code 63 = .ok (.iand, 1)) ?_
        have e : zf_bo a1 a2 a3 a4 a5 a6 = ((a3 >>> ((24 - (8 * (a6 - a6 / 4 * 4))) &&& 31)) &&& 255) := by
          unfold zf_bo
          simp only [*, ↓reduceIte]
        rw [e]
        exact W.iret hx hb hr (fun t ht _ => ⟨_, rfl, rfl, ht⟩) (fun q hq => absurd hq List.not_mem_nil) (by decide +kernel : decode prog_14_method_11_code 64 = .ok (.ireturn, 1))
    · refine lv_iload_n hx hb (by decide +kernel : decode prog_14_method_11_code 17 = .ok (.iload_n 1, 1)) rfl (lv_at hl 1 rfl) ?_
      refine lv_goto (tgt := 45) hx hb (by decide +kernel : decode prog_14_method_11_code 18 = .ok (.goto 27, 3)) (by decide) ?_
      refine lv_istore (lv' := [(6, .int a2), (0, .int a1), (1, .int a2), (2, .int a3), (3, .int a4), (4, .int a5), (5, .int a6)]) hx hb (by decide +kernel : decode prog_14_method_11_code 45 = .ok (.istore 6, 2)) hl (by decide) rfl (fun ls hl => ?_)
      refine lv_iload hx hb (by decide +kernel : decode prog_14_method_11_code 47 = .ok (.iload 6, 2)) (lv_at hl 0 rfl) ?_
      refine lv_bipush (v := 24) hx hb (by decide +kernel : decode prog_14_method_11_code 49 = .ok (.bipush 24, 2)) (by decide) ?_
      refine lv_bipush (v := 8) hx hb (by decide +kernel : decode prog_14_method_11_code 51 = .ok (.bipush 8, 2)) (by decide) ?_
      refine lv_iload hx hb (by decide +kernel : decode prog_14_method_11_code 53 = .ok (.iload 5, 2)) (lv_at hl 6 rfl) ?_
      refine lv_iconst (v := 4) hx hb (by decide +kernel : decode prog_14_method_11_code 55 = .ok (.iconst 4, 1)) (by decide) ?_
      refine lv_irem hx hb (by decide +kernel : decode prog_14_method_11_code 56 = .ok (.irem, 1)) (by decide) ?_
      refine lv_imul hx hb (by decide +kernel : decode prog_14_method_11_code 57 = .ok (.imul, 1)) ?_
      refine lv_isub hx hb (by decide +kernel : decode prog_14_method_11_code 58 = .ok (.isub, 1)) ?_
      refine lv_ishr hx hb (by decide +kernel : decode prog_14_method_11_code 59 = .ok (.ishr, 1)) ?_
      refine lv_sipush (v := 255) hx hb (by decide +kernel : decode prog_14_method_11_code 60 = .ok (.sipush 255, 3)) (by decide) ?_
      refine lv_iand hx hb (by decide +kernel : decode prog_14_method_11_code 63 = .ok (.iand, 1)) ?_
      have e : zf_bo a1 a2 a3 a4 a5 a6 = ((a2 >>> ((24 - (8 * (a6 - a6 / 4 * 4))) &&& 31)) &&& 255) := by
        unfold zf_bo
        simp only [*, ↓reduceIte]
      rw [e]
      exact W.iret hx hb hr (fun t ht _ => ⟨_, rfl, rfl, ht⟩) (fun q hq => absurd hq List.not_mem_nil) (by decide +kernel : decode prog_14_method_11_code 64 = .ok (.ireturn, 1))
  · refine lv_iload_n hx hb (by decide +kernel : decode prog_14_method_11_code 6 = .ok (.iload_n 0, 1)) rfl (lv_at hl 0 rfl) ?_
    refine lv_goto (tgt := 45) hx hb (by decide +kernel : decode prog_14_method_11_code 7 = .ok (.goto 38, 3)) (by decide) ?_
    refine lv_istore (lv' := [(6, .int a1), (0, .int a1), (1, .int a2), (2, .int a3), (3, .int a4), (4, .int a5), (5, .int a6)]) hx hb (by decide +kernel : decode prog_14_method_11_code 45 = .ok (.istore 6, 2)) hl (by decide) rfl (fun ls hl => ?_)
    refine lv_iload hx hb (by decide +kernel : decode prog_14_method_11_code 47 = .ok (.iload 6, 2)) (lv_at hl 0 rfl) ?_
    refine lv_bipush (v := 24) hx hb (by decide +kernel : decode prog_14_method_11_code 49 = .ok (.bipush 24, 2)) (by decide) ?_
    refine lv_bipush (v := 8) hx hb (by decide +kernel : decode prog_14_method_11_code 51 = .ok (.bipush 8, 2)) (by decide) ?_
    refine lv_iload hx hb (by decide +kernel : decode prog_14_method_11_code 53 = .ok (.iload 5, 2)) (lv_at hl 6 rfl) ?_
    refine lv_iconst (v := 4) hx hb (by decide +kernel : decode prog_14_method_11_code 55 = .ok (.iconst 4, 1)) (by decide) ?_
    refine lv_irem hx hb (by decide +kernel : decode prog_14_method_11_code 56 = .ok (.irem, 1)) (by decide) ?_
    refine lv_imul hx hb (by decide +kernel : decode prog_14_method_11_code 57 = .ok (.imul, 1)) ?_
    refine lv_isub hx hb (by decide +kernel : decode prog_14_method_11_code 58 = .ok (.isub, 1)) ?_
    refine lv_ishr hx hb (by decide +kernel : decode prog_14_method_11_code 59 = .ok (.ishr, 1)) ?_
    refine lv_sipush (v := 255) hx hb (by decide +kernel : decode prog_14_method_11_code 60 = .ok (.sipush 255, 3)) (by decide) ?_
    refine lv_iand hx hb (by decide +kernel : decode prog_14_method_11_code 63 = .ok (.iand, 1)) ?_
    have e : zf_bo a1 a2 a3 a4 a5 a6 = ((a1 >>> ((24 - (8 * (a6 - a6 / 4 * 4))) &&& 31)) &&& 255) := by
      unfold zf_bo
      simp only [*, ↓reduceIte]
    rw [e]
    exact W.iret hx hb hr (fun t ht _ => ⟨_, rfl, rfl, ht⟩) (fun q hq => absurd hq List.not_mem_nil) (by decide +kernel : decode prog_14_method_11_code 64 = .ok (.ireturn, 1))
end
