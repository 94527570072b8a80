/-! CONTRACTS: found by wip/an (python). -/
set_option maxRecDepth 100000 in
/-- UnaskedLettersModel.clause()V #00 -/
def qC366 : zk_C := ((7, [], [0], [(0, (2, 57, 0)), (1, (0, 0, 160)), (2, (0, 0, 0)), (3, (0, (-1), (-1))), (4, (0, 0, 0)), (5, (0, 0, 320)), (6, (0, 0, 160))], [(1, 6, 0)], [(0, 10, 1), (0, 1001, 2), (0, 11, 3), (0, 12, 4), (0, 25, 5), (0, 9, 6)], [], [], [(4, 5, 1, 1000)], none), [(12, [], [], [(0, (2, 57, 0)), (1, (0, 0, 157)), (2, (0, 0, 0)), (3, (0, (-1), (-1))), (4, (0, 0, 0)), (5, (0, 0, 314)), (6, (0, 3, 160)), (7, (0, 3, 160)), (8, (0, 0, 0)), (9, (0, 0, 0)), (10, (0, 7, 321)), (11, (2, 64, 0))], [(1, 6, (-3)), (5, 10, (-7)), (7, 6, 0)], [(0, 10, 7), (0, 1001, 8), (0, 11, 3), (0, 12, 9), (0, 25, 10), (0, 8, 11), (0, 9, 6)], [], [], [(4, 10, 7, 1001), (8, 10, 7, 21474903017)], none), (11, [], [], [(0, (2, 57, 0)), (1, (0, 0, 160)), (2, (0, 0, 0)), (3, (0, (-1), (-1))), (4, (0, 0, 0)), (5, (0, 0, 320)), (6, (0, 0, 160)), (7, (0, 0, 166)), (8, (0, 0, 160)), (9, (0, 0, 0)), (10, (0, 0, 329))], [(1, 6, 0), (5, 10, 0), (7, 6, 6), (8, 6, 0), (8, 7, 0)], [(0, 10, 7), (0, 11, 8), (0, 12, 9), (0, 25, 10), (0, 9, 6)], [], [], [(4, 10, 7, 1000), (8, 10, 7, 21474903016)], none)], [(57, 10), (57, 11), (57, 12), (57, 25), (67, 0)], 0, 0)
set_option maxRecDepth 100000 in
def qP366 : zk_P := ([(187, 12, 10, 0), (240, 12, 25, 0), (184, 12, 11, 0), (35, 12, 18, 4)], [], [], [], [], [(1, qC195), (6, qC196), (13, qC174), (28, qC195), (37, qC174), (53, qC197), (57, qC195), (90, qC259), (103, qC195), (106, qC260), (189, qC261), (195, qC328), (195, qC330), (207, qC195), (216, qC174), (240, qC331), (244, qC365), (249, qC261), (249, qC213)], [])
set_option maxRecDepth 100000 in
def qX366 : zk_Hd := (112, (12, [(0, 0), (4, 7)], [], [(0, (2, 57, 0)), (1, (0, 0, 157)), (2, (0, 0, 0)), (3, (0, (-1), (-1))), (4, (0, 0, 0)), (5, (0, 0, 314)), (6, (0, 3, 160)), (7, (0, 1, 315)), (8, (0, 3, 160)), (9, (0, 1001, 1001)), (10, (0, 3, 317)), (11, (2, 64, 0))], [(1, 6, (-3)), (1, 8, (-3)), (5, 7, (-1)), (5, 10, (-3)), (7, 5, 1), (7, 10, (-2)), (8, 6, 0)], [(0, 10, 8), (0, 1001, 9), (0, 1004, 7), (0, 11, 3), (0, 12, 4), (0, 25, 10), (0, 8, 11), (0, 9, 6)], [], [], [(4, 10, 8, 997), (8, 10, 8, 21474903013)], none), [(0, none, none)], 0, 0)
set_option maxRecDepth 100000 in
def qA366_0 : zk_Hd := (41, (10, [(0, 0), (1, 7)], [], [(0, (2, 57, 0)), (1, (0, 0, 158)), (2, (0, 0, 0)), (3, (0, (-1), (-1))), (4, (0, 0, 0)), (5, (0, 0, 318)), (6, (0, 2, 160)), (7, (0, 98, 120)), (8, (0, 1, 159)), (9, (2, 64, 0))], [(1, 6, (-2)), (1, 8, (-1)), (8, 6, (-1))], [(0, 10, 8), (0, 1001, 2), (0, 11, 3), (0, 12, 4), (0, 25, 5), (0, 8, 9), (0, 9, 6)], [], [], [(4, 5, 8, 998), (8, 5, 8, 21474903014)], none), [(3, none, none)], 0, 0)
set_option maxRecDepth 100000 in
def qA366_1 : zk_Hd := (243, (12, [(0, 0)], [], [(0, (2, 57, 0)), (1, (0, 0, 156)), (2, (0, 0, 0)), (3, (0, (-1), (-1))), (4, (0, 0, 0)), (5, (0, 0, 311)), (6, (0, 4, 160)), (7, (0, 3, 160)), (8, (0, 4000, 4000)), (9, (0, 0, 0)), (10, (0, 7, 318)), (11, (2, 64, 0))], [(1, 6, (-5)), (5, 10, (-7)), (7, 6, 0)], [(0, 10, 7), (0, 1001, 8), (0, 11, 3), (0, 12, 9), (0, 25, 10), (0, 8, 11), (0, 9, 6)], [], [], [(4, 10, 7, 998), (8, 10, 7, 21474903011)], none), [(2, none, none)], 0, 0)
set_option maxRecDepth 100000 in
theorem qr366_e : zk_run qK qP366 prog_14_method_41_code 6 qC366 none ([qA366_0, qA366_1] ++ [qX366]) none 121 false 0 0 0 (zk_x0 qC366) = true := zk_runD_ok (T := qdt_14_41) qdo_14_41 (by decide +kernel)
set_option maxRecDepth 100000 in
theorem qr366_n : zk_rjn qK qP366 prog_14_method_41_code 6 qC366 ([qA366_0, qA366_1] ++ [qX366]) 85 121 true 0 0 41 qA366_0.2.1 4 = true := by decide +kernel
set_option maxRecDepth 100000 in
theorem qr366_41_0 : zk_rj qK qP366 prog_14_method_41_code 6 qC366 none ([qA366_0, qA366_1] ++ [qX366]) (some qA366_0.2.2.1) 85 121 true 0 0 41 qA366_0.2.1 0 = true := by decide +kernel
set_option maxRecDepth 100000 in
theorem qr366_41_1 : zk_rj qK qP366 prog_14_method_41_code 6 qC366 none ([qA366_0, qA366_1] ++ [qX366]) (some qA366_0.2.2.1) 85 121 true 0 0 41 qA366_0.2.1 1 = true := by decide +kernel
set_option maxRecDepth 100000 in
theorem qr366_41_2 : zk_rj qK qP366 prog_14_method_41_code 6 qC366 none ([qA366_0, qA366_1] ++ [qX366]) (some qA366_0.2.2.1) 85 121 true 0 0 41 qA366_0.2.1 2 = true := by decide +kernel
set_option maxRecDepth 100000 in
theorem qr366_41_3 : zk_rj qK qP366 prog_14_method_41_code 6 qC366 none ([qA366_0, qA366_1] ++ [qX366]) (some qA366_0.2.2.1) 85 121 true 0 0 41 qA366_0.2.1 3 = true := by decide +kernel
set_option maxRecDepth 100000 in
theorem qr366_1 : zk_run qK qP366 prog_14_method_41_code 6 qC366 none ([qA366_0, qA366_1] ++ [qX366]) (some qA366_1.2.2.1) 121 true 0 0 243 qA366_1.2.1 = true := zk_runD_ok (T := qdt_14_41) qdo_14_41 (by decide +kernel)
set_option maxRecDepth 100000 in
theorem qk366 : zk_chk qK qP366 prog_14_method_41_code 6 qC366 none [qA366_0, qA366_1] [qX366] 121 1 = true := zk_chk_of (by decide +kernel) qr366_e (fun q hq => by
  rcases List.mem_cons.mp hq with rfl | hq
  · exact ⟨by decide +kernel, zk_rj_ok qr366_n (fun j hj => match j, hj with | 0, _ => qr366_41_0 | 1, _ => qr366_41_1 | 2, _ => qr366_41_2 | 3, _ => qr366_41_3 | (k + 4), h => absurd h (by omega))⟩
  · rcases List.mem_cons.mp hq with rfl | hq
    · exact ⟨by decide +kernel, qr366_1⟩
    · exact absurd hq List.not_mem_nil)
set_option maxRecDepth 100000 in
theorem qh366 : zk_chf qK qP366 prog_14_method_41_code 6 qC366 none [] [] (187, zq_sh2 qK qn_saying qn_M 10 6 320 qX366.2.1, [], 0, 0) 121 1 = true := zk_chfD_ok (T := qdt_14_41) qdo_14_41 (by decide +kernel)
