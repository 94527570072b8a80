/-! PLACES of the program that the by-hand rows read -/
set_option maxRecDepth 100000 in
theorem qd_say_9 : decode prog_14_method_27_code 9 = .ok (.iastore, 1) := by decide +kernel
set_option maxRecDepth 100000 in
theorem qd_say_10 : decode prog_14_method_27_code 10 = .ok (.aload_n 0, 1) := by decide +kernel
set_option maxRecDepth 100000 in
theorem qd_say_11 : decode prog_14_method_27_code 11 = .ok (.dup, 1) := by decide +kernel
set_option maxRecDepth 100000 in
theorem qd_say_12 : decode prog_14_method_27_code 12 = .ok (.getfield 240, 3) := by decide +kernel
set_option maxRecDepth 100000 in
theorem qd_say_15 : decode prog_14_method_27_code 15 = .ok (.iconst 1, 1) := by decide +kernel
set_option maxRecDepth 100000 in
theorem qd_say_16 : decode prog_14_method_27_code 16 = .ok (.iadd, 1) := by decide +kernel
set_option maxRecDepth 100000 in
theorem qd_say_17 : decode prog_14_method_27_code 17 = .ok (.putfield 240, 3) := by decide +kernel
set_option maxRecDepth 100000 in
theorem qd_clause_112 : decode prog_14_method_41_code 112 = .ok (.aload_n 0, 1) := by decide +kernel
set_option maxRecDepth 100000 in
theorem qd_clause_113 : decode prog_14_method_41_code 113 = .ok (.getfield 240, 3) := by decide +kernel
set_option maxRecDepth 100000 in
theorem qd_clause_116 : decode prog_14_method_41_code 116 = .ok (.iconst 1, 1) := by decide +kernel
set_option maxRecDepth 100000 in
theorem qd_clause_117 : decode prog_14_method_41_code 117 = .ok (.isub, 1) := by decide +kernel
set_option maxRecDepth 100000 in
theorem qd_clause_118 : decode prog_14_method_41_code 118 = .ok (.istore 5, 2) := by decide +kernel
set_option maxRecDepth 100000 in
theorem qd_clause_120 : decode prog_14_method_41_code 120 = .ok (.iload 5, 2) := by decide +kernel
set_option maxRecDepth 100000 in
theorem qd_clause_122 : decode prog_14_method_41_code 122 = .ok (.iload 4, 2) := by decide +kernel
set_option maxRecDepth 100000 in
theorem qd_clause_124 : decode prog_14_method_41_code 124 = .ok (.if_icmp .lt 25, 3) := by decide +kernel
set_option maxRecDepth 100000 in
theorem qd_clause_127 : decode prog_14_method_41_code 127 = .ok (.aload_n 0, 1) := by decide +kernel
set_option maxRecDepth 100000 in
theorem qd_clause_128 : decode prog_14_method_41_code 128 = .ok (.getfield 35, 3) := by decide +kernel
set_option maxRecDepth 100000 in
theorem qd_clause_131 : decode prog_14_method_41_code 131 = .ok (.iload 5, 2) := by decide +kernel
set_option maxRecDepth 100000 in
theorem qd_clause_133 : decode prog_14_method_41_code 133 = .ok (.iconst 3, 1) := by decide +kernel
set_option maxRecDepth 100000 in
theorem qd_clause_134 : decode prog_14_method_41_code 134 = .ok (.iadd, 1) := by decide +kernel
set_option maxRecDepth 100000 in
theorem qd_clause_135 : decode prog_14_method_41_code 135 = .ok (.aload_n 0, 1) := by decide +kernel
set_option maxRecDepth 100000 in
theorem qd_clause_136 : decode prog_14_method_41_code 136 = .ok (.getfield 35, 3) := by decide +kernel
set_option maxRecDepth 100000 in
theorem qd_clause_139 : decode prog_14_method_41_code 139 = .ok (.iload 5, 2) := by decide +kernel
set_option maxRecDepth 100000 in
theorem qd_clause_141 : decode prog_14_method_41_code 141 = .ok (.iaload, 1) := by decide +kernel
set_option maxRecDepth 100000 in
theorem qd_clause_142 : decode prog_14_method_41_code 142 = .ok (.iastore, 1) := by decide +kernel
set_option maxRecDepth 100000 in
theorem qd_clause_143 : decode prog_14_method_41_code 143 = .ok (.iinc 5 (-1), 3) := by decide +kernel
set_option maxRecDepth 100000 in
theorem qd_clause_146 : decode prog_14_method_41_code 146 = .ok (.goto (-26), 3) := by decide +kernel
set_option maxRecDepth 100000 in
theorem qd_clause_149 : decode prog_14_method_41_code 149 = .ok (.aload_n 0, 1) := by decide +kernel
set_option maxRecDepth 100000 in
theorem qd_clause_150 : decode prog_14_method_41_code 150 = .ok (.getfield 35, 3) := by decide +kernel
set_option maxRecDepth 100000 in
theorem qd_clause_153 : decode prog_14_method_41_code 153 = .ok (.iload 4, 2) := by decide +kernel
set_option maxRecDepth 100000 in
theorem qd_clause_155 : decode prog_14_method_41_code 155 = .ok (.iconst 0, 1) := by decide +kernel
set_option maxRecDepth 100000 in
theorem qd_clause_156 : decode prog_14_method_41_code 156 = .ok (.iastore, 1) := by decide +kernel
set_option maxRecDepth 100000 in
theorem qd_clause_157 : decode prog_14_method_41_code 157 = .ok (.aload_n 0, 1) := by decide +kernel
set_option maxRecDepth 100000 in
theorem qd_clause_158 : decode prog_14_method_41_code 158 = .ok (.getfield 35, 3) := by decide +kernel
set_option maxRecDepth 100000 in
theorem qd_clause_161 : decode prog_14_method_41_code 161 = .ok (.iload 4, 2) := by decide +kernel
set_option maxRecDepth 100000 in
theorem qd_clause_163 : decode prog_14_method_41_code 163 = .ok (.iconst 1, 1) := by decide +kernel
set_option maxRecDepth 100000 in
theorem qd_clause_164 : decode prog_14_method_41_code 164 = .ok (.iadd, 1) := by decide +kernel
set_option maxRecDepth 100000 in
theorem qd_clause_165 : decode prog_14_method_41_code 165 = .ok (.iconst 1, 1) := by decide +kernel
set_option maxRecDepth 100000 in
theorem qd_clause_166 : decode prog_14_method_41_code 166 = .ok (.iastore, 1) := by decide +kernel
set_option maxRecDepth 100000 in
theorem qd_clause_167 : decode prog_14_method_41_code 167 = .ok (.aload_n 0, 1) := by decide +kernel
set_option maxRecDepth 100000 in
theorem qd_clause_168 : decode prog_14_method_41_code 168 = .ok (.getfield 35, 3) := by decide +kernel
set_option maxRecDepth 100000 in
theorem qd_clause_171 : decode prog_14_method_41_code 171 = .ok (.iload 4, 2) := by decide +kernel
set_option maxRecDepth 100000 in
theorem qd_clause_173 : decode prog_14_method_41_code 173 = .ok (.iconst 2, 1) := by decide +kernel
set_option maxRecDepth 100000 in
theorem qd_clause_174 : decode prog_14_method_41_code 174 = .ok (.iadd, 1) := by decide +kernel
set_option maxRecDepth 100000 in
theorem qd_clause_175 : decode prog_14_method_41_code 175 = .ok (.iconst 2, 1) := by decide +kernel
set_option maxRecDepth 100000 in
theorem qd_clause_176 : decode prog_14_method_41_code 176 = .ok (.iastore, 1) := by decide +kernel
set_option maxRecDepth 100000 in
theorem qd_clause_177 : decode prog_14_method_41_code 177 = .ok (.aload_n 0, 1) := by decide +kernel
set_option maxRecDepth 100000 in
theorem qd_clause_178 : decode prog_14_method_41_code 178 = .ok (.dup, 1) := by decide +kernel
set_option maxRecDepth 100000 in
theorem qd_clause_179 : decode prog_14_method_41_code 179 = .ok (.getfield 240, 3) := by decide +kernel
set_option maxRecDepth 100000 in
theorem qd_clause_182 : decode prog_14_method_41_code 182 = .ok (.iconst 3, 1) := by decide +kernel
set_option maxRecDepth 100000 in
theorem qd_clause_183 : decode prog_14_method_41_code 183 = .ok (.iadd, 1) := by decide +kernel
set_option maxRecDepth 100000 in
theorem qd_clause_184 : decode prog_14_method_41_code 184 = .ok (.putfield 240, 3) := by decide +kernel
set_option maxRecDepth 100000 in
theorem qd_decides_81 : decode prog_1_method_24_code 81 = .ok (.iaload, 1) := by decide +kernel
set_option maxRecDepth 100000 in
theorem zq_qM : zq_kM qK qn_M 12 420 := ⟨by decide, by decide +kernel, by decide +kernel, by decide +kernel, by decide +kernel, by decide +kernel⟩
set_option maxRecDepth 100000 in
theorem zq_qS : zq_kS qK qn_saying := ⟨by decide, by decide +kernel, by decide +kernel, by decide +kernel, by decide +kernel, by decide +kernel⟩
set_option maxRecDepth 100000 in
theorem zq_qA : zq_row qK qn_pickAt := ⟨by decide, by decide +kernel, by decide +kernel, by decide +kernel, by decide +kernel, (zk_kd qK qn_pickAt).2.2.1.headD (3, 0, 0), by decide +kernel, by decide +kernel⟩
set_option maxRecDepth 100000 in
theorem zq_lo : 420 ≤ (zk_kd qK qn_saying).2.2.2.1 := by decide +kernel
set_option maxRecDepth 100000 in
theorem zq_hs : (zk_kd qK qn_saying).2.2.2.2.1 ≤ 100000 := by decide +kernel
set_option maxRecDepth 100000 in
theorem zq_hi : (420 : Int) ≤ 420 ∧ (420 : Int) ≤ 2147483647 := by decide
set_option maxRecDepth 100000 in
theorem zq_18 : (zk_kd qK qn_M).2.2.1[18]? = some (2, (qn_saying : Int), 0) := by decide +kernel
set_option maxRecDepth 100000 in
theorem zq_ne {D : zk_D} {base : Nat} {Hb : Heap} {s : State} (hK : zg_K D base Hb s) : D.2.1 12 18 ≠ D.2.1 12 25 := hK.1.2.1 qn_M 18 25 (by decide +kernel) (by decide +kernel) (by decide +kernel) (by decide)
