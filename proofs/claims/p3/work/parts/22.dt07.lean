/-! INSTRUCTIONS of the program at this commit, decoded -/
noncomputable section
set_option maxRecDepth 100000 in
def qdt_20_2 : zk_DT := [(0, [(0, .iload_n 1, 1), (1, .aload_n 0, 1), (2, .arraylength, 1), (3, .invokestatic 9, 3), (6, .aload_n 0, 1), (7, .iload_n 1, 1), (8, .baload, 1), (9, .sipush 255, 3), (12, .iand, 1), (13, .i2c, 1), (14, .ireturn, 1)])]
set_option maxRecDepth 100000 in
theorem qdo_20_2 : zk_dok prog_20_method_2_code qdt_20_2 = true := by decide +kernel
set_option maxRecDepth 100000 in
def qdt_20_4 : zk_DT := [(0, [(0, .iload_n 0, 1), (1, .ifCond .lt 14, 3), (4, .iload_n 0, 1), (5, .sipush 255, 3), (8, .if_icmp .gt 7, 3), (11, .iconst 1, 1), (12, .goto 4, 3), (15, .iconst 0, 1), (16, .ireturn, 1)])]
set_option maxRecDepth 100000 in
theorem qdo_20_4 : zk_dok prog_20_method_4_code qdt_20_4 = true := by decide +kernel
set_option maxRecDepth 100000 in
def qdt_20_22 : zk_DT := [(0, [(0, .iload_n 1, 1), (1, .invokestatic 88, 3), (4, .ifCond .ne 5, 3), (7, .iconst (-1), 1), (8, .ireturn, 1), (9, .iload_n 2, 1), (10, .iconst 0, 1), (11, .invokestatic 92, 3), (14, .istore_n 2, 1), (15, .iload_n 3, 1), (16, .aload_n 0, 1), (17, .arraylength, 1), (18, .invokestatic 38, 3), (21, .istore_n 3, 1), (22, .iload_n 2, 1), (23, .iload_n 3, 1), (24, .if_icmp .lt 5, 3), (27, .iconst (-1), 1), (28, .ireturn, 1), (29, .aload_n 0, 1), (30, .iload_n 1, 1), (31, .iload_n 2, 1)]), (1, [(32, .iload_n 3, 1), (33, .invokestatic 95, 3), (36, .ireturn, 1)])]
set_option maxRecDepth 100000 in
theorem qdo_20_22 : zk_dok prog_20_method_22_code qdt_20_22 = true := by decide +kernel
set_option maxRecDepth 100000 in
def qdt_20_23 : zk_DT := [(0, [(0, .iload_n 1, 1), (1, .i2b, 1), (2, .istore 4, 2), (4, .iload_n 2, 1), (5, .istore 5, 2), (7, .iload 5, 2), (9, .iload_n 3, 1), (10, .if_icmp .ge 21, 3), (13, .aload_n 0, 1), (14, .iload 5, 2), (16, .baload, 1), (17, .iload 4, 2), (19, .if_icmp .ne 6, 3), (22, .iload 5, 2), (24, .ireturn, 1), (25, .iinc 5 1, 3), (28, .goto (-21), 3), (31, .iconst (-1), 1)]), (1, [(32, .ireturn, 1)])]
set_option maxRecDepth 100000 in
theorem qdo_20_23 : zk_dok prog_20_method_23_code qdt_20_23 = true := by decide +kernel
set_option maxRecDepth 100000 in
def qdt_23_103 : zk_DT := [(0, [(0, .iconst 0, 1), (1, .istore_n 2, 1), (2, .aload_n 0, 1), (3, .arraylength, 1), (4, .istore_n 3, 1), (5, .iload_n 2, 1), (6, .iload_n 3, 1), (7, .if_icmp .ge 13, 3), (10, .aload_n 0, 1), (11, .iload_n 2, 1), (12, .iload_n 1, 1), (13, .iastore, 1), (14, .iinc 2 1, 3), (17, .goto (-12), 3), (20, .return_, 1)])]
set_option maxRecDepth 100000 in
theorem qdo_23_103 : zk_dok prog_23_method_103_code qdt_23_103 = true := by decide +kernel
end
