/-! GLUE, 2 -/
section GL3
variable {p : Program} {l : Launch} {e : Env} {R : Room} {s : State} {m : MethodId} {args : Array Value} {below : List Frame} {meth : Method} {c : Code} {Q : State → Prop} {KT : List zk_K} {D : zk_D} {base : Nat} {Hb : Heap} {n0 nL : Nat} {v0 : Nat → Value} {E : List (Nat × Nat)} {G0 : Nat → Nat} {H0 : Heap} {cc : ByteArray}
theorem zg_nokE {idx k ci : Nat} {df : List Nat} (hci : (zk_kd KT k).2.1 = ci) (h : zk_nok p l e R s m args below meth c Q D cc idx ci df) : zk_nok p l e R s m args below meth c Q D cc idx (zk_kd KT k).2.1 df := by rw [hci]; exact h
theorem zg_nakE {pc len k tag d : Nat} (hci : (zk_kd KT k).2.1 = tag) (h : zk_nak p l e R s m args below meth c Q D pc len tag d) : zk_nak p l e R s m args below meth c Q D pc len (zk_kd KT k).2.1 d := by rw [hci]; exact h
end GL3
