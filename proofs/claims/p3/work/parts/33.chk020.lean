/-! CONTRACTS: found by wip/an (python). -/
noncomputable section
set_option maxRecDepth 100000 in
/-- UnaskedLetters.rules(IZI)I  -/
def qC373 : zk_C := ((9, [], [0, 1, 2, 3], [(0, (2, 2, 0)), (1, (0, (-2147483648), 2147483647)), (2, (0, 0, 1)), (3, (0, (-2147483648), 2147483647)), (4, (2, 4, 0)), (5, (0, (-2147483648), 2147483647)), (6, (0, 0, 4)), (7, (2, 27, 0)), (8, (0, 0, 12))], [], [(0, 0, 4), (0, 13, 5), (0, 14, 6), (0, 5, 7), (4, 6, 8)], [], [], [], none), [(10, [], [9], [(0, (2, 2, 0)), (1, (0, (-2147483648), 2147483647)), (2, (0, 0, 1)), (3, (0, (-2147483648), 2147483647)), (4, (2, 4, 0)), (5, (0, (-2147483648), 2147483647)), (6, (0, 0, 4)), (7, (2, 27, 0)), (8, (0, 0, 12)), (9, (0, (-1), 19))], [], [(0, 0, 4), (0, 13, 5), (0, 14, 6), (0, 5, 7), (4, 6, 8)], [], [], [], none)], [(12, 1), (18, 1), (18, 2), (18, 3), (20, 0), (27, 5), (29, 0), (30, 0), (31, 0), (32, 0), (33, 0)], 1, 320)
set_option maxRecDepth 100000 in
def qP373 : zk_P := ([(88, 11, 13, 0), (47, 11, 5, 4), (33, 11, 3, 4), (19, 11, 1, 4), (120, 8, 1, 0)], [], [], [], [], [(3, qC368), (28, qC369), (44, qC164), (76, qC371), (79, qC372)], [])
set_option maxRecDepth 100000 in
def qH373 : List zk_Hd := []
set_option maxRecDepth 100000 in
def qX373 : List zk_Hd := []
set_option maxRecDepth 100000 in
theorem qk373 : zk_chk qK qP373 prog_1_method_9_code 4 qC373 (some .int) qH373 qX373 99 0 = true := zk_chkD_ok (T := qdt_1_9) qdo_1_9 (by decide +kernel)
set_option maxRecDepth 100000 in
/-- UnaskedLettersModel.in(III)Z UnaskedLettersModel.rules(IZI)I@19 -/
def qC374 : zk_C := ((3, [], [0, 1, 2], [(0, (0, (-2147483648), 2147483647)), (1, (0, 0, 0)), (2, (0, (-1), 11))], [], [], [], [], [], none), [(4, [], [3], [(0, (0, (-2147483648), (-1))), (1, (0, 0, 0)), (2, (0, (-1), 11)), (3, (0, 0, 0))], [], [], [], [], [], none), (4, [], [3], [(0, (0, 0, 2147483647)), (1, (0, 0, 0)), (2, (0, (-1), 11)), (3, (0, 0, 0))], [(2, 0, (-1))], [], [], [], [], none), (4, [], [3], [(0, (0, 0, 11)), (1, (0, 0, 0)), (2, (0, 0, 11)), (3, (0, 1, 1))], [(0, 2, 0)], [], [], [], [], none)], [], 0, 0)
set_option maxRecDepth 100000 in
def qP374 : zk_P := ([], [], [], [], [], [], [])
set_option maxRecDepth 100000 in
def qH374 : List zk_Hd := []
set_option maxRecDepth 100000 in
def qX374 : List zk_Hd := []
set_option maxRecDepth 100000 in
theorem qk374 : zk_chk qK qP374 prog_14_method_1_code 3 qC374 (some .boolean) qH374 qX374 69 0 = true := zk_chkD_ok (T := qdt_14_1) qdo_14_1 (by decide +kernel)
set_option maxRecDepth 100000 in
/-- UnaskedLettersModel.in(III)Z UnaskedLettersModel.rules(IZI)I@33 -/
def qC375 : zk_C := ((3, [], [0, 1, 2], [(0, (0, (-2147483648), 2147483647)), (1, (0, (-2147483648), 2147483647)), (2, (0, 2000, 2000))], [], [], [], [], [], none), [(4, [], [3], [(0, (0, (-2147483648), 2147483646)), (1, (0, (-2147483647), 2147483647)), (2, (0, 2000, 2000)), (3, (0, 0, 0))], [(0, 1, (-1))], [], [], [], [], none), (4, [], [3], [(0, (0, 2001, 2147483647)), (1, (0, (-2147483648), 2147483647)), (2, (0, 2000, 2000)), (3, (0, 0, 0))], [(1, 0, 0)], [], [], [], [], none), (4, [], [3], [(0, (0, (-2147483648), 2000)), (1, (0, (-2147483648), 2000)), (2, (0, 2000, 2000)), (3, (0, 1, 1))], [(1, 0, 0)], [], [], [], [], none)], [], 0, 0)
set_option maxRecDepth 100000 in
def qP375 : zk_P := ([], [], [], [], [], [], [])
set_option maxRecDepth 100000 in
def qH375 : List zk_Hd := []
set_option maxRecDepth 100000 in
def qX375 : List zk_Hd := []
set_option maxRecDepth 100000 in
theorem qk375 : zk_chk qK qP375 prog_14_method_1_code 3 qC375 (some .boolean) qH375 qX375 69 0 = true := zk_chkD_ok (T := qdt_14_1) qdo_14_1 (by decide +kernel)
set_option maxRecDepth 100000 in
/-- UnaskedLettersModel.rules(IZI)I  -/
def qC376 : zk_C := ((8, [], [0, 1, 2, 3], [(0, (2, 57, 0)), (1, (0, (-2147483648), 2147483647)), (2, (0, 0, 1)), (3, (0, (-2147483648), 2147483647)), (4, (0, (-2147483648), 2147483647)), (5, (0, (-2147483648), 2147483647)), (6, (0, 0, 4)), (7, (0, 0, 12))], [], [(0, 0, 4), (0, 1002, 5), (0, 57, 6), (0, 6, 7)], [], [], [], none), [(10, [], [8], [(0, (2, 57, 0)), (1, (0, (-2147483648), 2147483647)), (2, (0, 0, 1)), (3, (0, (-2147483648), 2147483647)), (4, (0, (-2147483648), 2147483647)), (5, (0, (-2147483648), 2147483647)), (6, (0, 0, 4)), (7, (0, 0, 12)), (8, (0, (-1), 19)), (9, (0, (-2147483648), 2147483647))], [], [(0, 0, 4), (0, 1002, 9), (0, 57, 6), (0, 6, 7)], [], [], [], none)], [(57, 9), (57, 10), (57, 11), (57, 12), (57, 25), (57, 26), (67, 0), (68, 0), (69, 0), (70, 0), (71, 0), (72, 0), (73, 0)], 0, 0)
set_option maxRecDepth 100000 in
def qP376 : zk_P := ([(298, 12, 57, 0), (164, 12, 6, 0), (156, 12, 0, 0), (301, 12, 26, 0), (240, 12, 25, 0), (38, 12, 19, 4), (35, 12, 18, 4), (41, 12, 20, 4), (44, 12, 21, 4), (47, 12, 22, 4), (50, 12, 23, 4), (53, 12, 24, 4), (181, 12, 9, 0)], [], [], [], [], [(19, qC374), (33, qC375), (49, qC365)], [])
set_option maxRecDepth 100000 in
def qX376 : zk_Hd := (58, (16, [(0, 0), (1, 1), (2, 2), (3, 3)], [], [(0, (2, 57, 0)), (1, (0, 0, 11)), (2, (0, 0, 1)), (3, (0, (-2147483648), 2000)), (4, (0, (-2147483648), 2000)), (5, (0, (-2147483648), 2147483647)), (6, (0, 0, 4)), (7, (0, 0, 12)), (8, (0, 3, 160)), (9, (0, 0, 0)), (10, (0, (-1), (-1))), (11, (0, 0, 0)), (12, (0, 7, 321)), (13, (0, 0, 19)), (14, (2, 64, 0)), (15, (0, 3, 160))], [(4, 3, 0), (8, 15, 0), (15, 8, 0)], [(0, 0, 4), (0, 10, 8), (0, 1001, 9), (0, 1002, 5), (0, 11, 10), (0, 12, 11), (0, 25, 12), (0, 26, 13), (0, 57, 6), (0, 6, 7), (0, 8, 14), (0, 9, 15)], [], [], [(4, 12, 8, 1001)], none), [(0, none, none)], 0, 0)
set_option maxRecDepth 100000 in
def qH376 : List zk_Hd := []
set_option maxRecDepth 100000 in
theorem qk376 : zk_chk qK qP376 prog_14_method_44_code 5 qC376 (some .int) qH376 [qX376] 87 1 = true := zk_chkD_ok (T := qdt_14_44) qdo_14_44 (by decide +kernel)
set_option maxRecDepth 100000 in
theorem qh376 : zk_chf qK qP376 prog_14_method_44_code 5 qC376 (some .int) [] [] (176, zq_ruY qK (zq_ruE qn_M qn_codes qn_textSize qn_ruleOf qn_ruleList qn_ruleFrom qn_ruleTold) qX376.2.1, [], 0, 0) 87 1 = true := zk_chfD_ok (T := qdt_14_44) qdo_14_44 (by decide +kernel)
set_option maxRecDepth 100000 in
/-- UnaskedLetters.isPast(I)Z  -/
def qC377 : zk_C := ((3, [], [0, 1], [(0, (2, 2, 0)), (1, (0, (-2147483648), 2147483647)), (2, (0, (-2147483648), 2147483647))], [], [(0, 13, 2)], [], [], [], none), [(4, [], [3], [(0, (2, 2, 0)), (1, (0, (-2147483648), (-1))), (2, (0, (-2147483648), 2147483647)), (3, (0, 0, 0))], [], [(0, 13, 2)], [], [], [], none), (4, [], [3], [(0, (2, 2, 0)), (1, (0, 0, 2147483647)), (2, (0, (-2147483648), 2147483646)), (3, (0, 0, 0))], [(2, 1, (-1))], [(0, 13, 2)], [], [], [], none), (4, [], [3], [(0, (2, 2, 0)), (1, (0, 0, 2147483647)), (2, (0, 0, 2147483647)), (3, (0, 1, 1))], [(1, 2, 0)], [(0, 13, 2)], [], [], [], none)], [], 0, 0)
set_option maxRecDepth 100000 in
def qP377 : zk_P := ([(88, 11, 13, 0)], [], [], [], [], [], [])
set_option maxRecDepth 100000 in
def qH377 : List zk_Hd := []
set_option maxRecDepth 100000 in
def qX377 : List zk_Hd := []
set_option maxRecDepth 100000 in
theorem qk377 : zk_chk qK qP377 prog_1_method_39_code 2 qC377 (some .boolean) qH377 qX377 69 0 = true := zk_chkD_ok (T := qdt_1_39) qdo_1_39 (by decide +kernel)
set_option maxRecDepth 100000 in
/-- UnaskedLetters$RuleBook.inForce(IZII)I  -/
def qC378 : zk_C := ((5, [], [0, 1, 2, 3, 4], [(0, (2, 27, 0)), (1, (0, 0, 11)), (2, (0, 0, 1)), (3, (0, (-2147483648), 2147483647)), (4, (0, (-2147483648), 2147483647))], [], [], [], [], [], none), [(6, [], [5], [(0, (2, 27, 0)), (1, (0, 0, 11)), (2, (0, 0, 1)), (3, (0, (-2147483648), 2147483647)), (4, (0, (-2147483648), 2147483647)), (5, (0, (-1), 19))], [], [], [], [], [], none)], [], 0, 0)
set_option maxRecDepth 100000 in
def qP378 : zk_P := ([(39, 5, 5, 0), (19, 5, 2, 4), (11, 5, 0, 4), (15, 5, 1, 4), (22, 5, 3, 4)], [], [], [], [], [], [])
set_option maxRecDepth 100000 in
def qH378 : List zk_Hd := [(9, (8, [(0, 0), (1, 1), (2, 2), (3, 3), (4, 4), (5, 5), (6, 6), (7, 7)], [], [(0, (2, 27, 0)), (1, (0, 0, 11)), (2, (0, 0, 1)), (3, (0, (-2147483648), 2147483647)), (4, (0, (-2147483648), 2147483647)), (5, (0, (-1), 19)), (6, (0, (-1), 2147483647)), (7, (0, 0, 20))], [(5, 7, (-1))], [], [], [], [], none), [(1, none, none), (21, none, some 7), (1, none, none)], 0, 0)]
set_option maxRecDepth 100000 in
def qX378 : List zk_Hd := []
set_option maxRecDepth 100000 in
theorem qk378 : zk_chk qK qP378 prog_7_method_5_code 9 qC378 (some .int) qH378 qX378 109 3 = true := zk_chkD_ok (T := qdt_7_5) qdo_7_5 (by decide +kernel)
set_option maxRecDepth 100000 in
/-- UnaskedLetters.force(IZII)I  -/
def qC379 : zk_C := ((10, [], [0, 1, 2, 3, 4], [(0, (2, 2, 0)), (1, (0, (-2147483648), 2147483647)), (2, (0, 0, 1)), (3, (0, (-2147483648), 2147483647)), (4, (0, (-2147483648), 2147483647)), (5, (2, 4, 0)), (6, (0, (-2147483648), 2147483647)), (7, (0, 0, 4)), (8, (2, 27, 0)), (9, (0, 0, 12))], [], [(0, 0, 5), (0, 13, 6), (0, 14, 7), (0, 5, 8), (5, 6, 9)], [], [], [], none), [(11, [], [10], [(0, (2, 2, 0)), (1, (0, (-2147483648), 2147483647)), (2, (0, 0, 1)), (3, (0, (-2147483648), 2147483647)), (4, (0, (-2147483648), 2147483647)), (5, (2, 4, 0)), (6, (0, (-2147483648), 2147483647)), (7, (0, 0, 4)), (8, (2, 27, 0)), (9, (0, 0, 12)), (10, (0, (-1), 19))], [], [(0, 0, 5), (0, 13, 6), (0, 14, 7), (0, 5, 8), (5, 6, 9)], [], [], [], none)], [], 0, 0)
set_option maxRecDepth 100000 in
def qP379 : zk_P := ([(47, 11, 5, 4)], [], [], [], [], [(3, qC368), (23, qC377), (40, qC378)], [])
set_option maxRecDepth 100000 in
def qH379 : List zk_Hd := []
set_option maxRecDepth 100000 in
def qX379 : List zk_Hd := []
set_option maxRecDepth 100000 in
theorem qk379 : zk_chk qK qP379 prog_1_method_10_code 5 qC379 (some .int) qH379 qX379 82 0 = true := zk_chkD_ok (T := qdt_1_10) qdo_1_10 (by decide +kernel)
set_option maxRecDepth 100000 in
/-- UnaskedLettersModel.in(III)Z UnaskedLettersModel.force(IZII)I@19 -/
def qC380 : zk_C := ((3, [], [0, 1, 2], [(0, (0, (-2147483648), 2147483647)), (1, (0, 0, 0)), (2, (0, (-1), 11))], [], [], [], [], [], none), [(4, [], [3], [(0, (0, (-2147483648), (-1))), (1, (0, 0, 0)), (2, (0, (-1), 11)), (3, (0, 0, 0))], [], [], [], [], [], none), (4, [], [3], [(0, (0, 0, 2147483647)), (1, (0, 0, 0)), (2, (0, (-1), 11)), (3, (0, 0, 0))], [(2, 0, (-1))], [], [], [], [], none), (4, [], [3], [(0, (0, 0, 11)), (1, (0, 0, 0)), (2, (0, 0, 11)), (3, (0, 1, 1))], [(0, 2, 0)], [], [], [], [], none)], [], 0, 0)
set_option maxRecDepth 100000 in
def qP380 : zk_P := ([], [], [], [], [], [], [])
set_option maxRecDepth 100000 in
def qH380 : List zk_Hd := []
set_option maxRecDepth 100000 in
def qX380 : List zk_Hd := []
set_option maxRecDepth 100000 in
theorem qk380 : zk_chk qK qP380 prog_14_method_1_code 3 qC380 (some .boolean) qH380 qX380 69 0 = true := zk_chkD_ok (T := qdt_14_1) qdo_14_1 (by decide +kernel)
set_option maxRecDepth 100000 in
/-- UnaskedLettersModel.in(III)Z UnaskedLettersModel.force(IZII)I@30 -/
def qC381 : zk_C := ((3, [], [0, 1, 2], [(0, (0, (-2147483648), 2147483647)), (1, (0, 0, 0)), (2, (0, 2000, 2000))], [], [], [], [], [], none), [(4, [], [3], [(0, (0, (-2147483648), (-1))), (1, (0, 0, 0)), (2, (0, 2000, 2000)), (3, (0, 0, 0))], [], [], [], [], [], none), (4, [], [3], [(0, (0, 2001, 2147483647)), (1, (0, 0, 0)), (2, (0, 2000, 2000)), (3, (0, 0, 0))], [], [], [], [], [], none), (4, [], [3], [(0, (0, 0, 2000)), (1, (0, 0, 0)), (2, (0, 2000, 2000)), (3, (0, 1, 1))], [], [], [], [], [], none)], [], 0, 0)
set_option maxRecDepth 100000 in
def qP381 : zk_P := ([], [], [], [], [], [], [])
set_option maxRecDepth 100000 in
def qH381 : List zk_Hd := []
set_option maxRecDepth 100000 in
def qX381 : List zk_Hd := []
set_option maxRecDepth 100000 in
theorem qk381 : zk_chk qK qP381 prog_14_method_1_code 3 qC381 (some .boolean) qH381 qX381 69 0 = true := zk_chkD_ok (T := qdt_14_1) qdo_14_1 (by decide +kernel)
set_option maxRecDepth 100000 in
/-- UnaskedLettersModel.in(III)Z UnaskedLettersModel.isKnowing(I)Z@6 -/
def qC382 : zk_C := ((3, [], [0, 1, 2], [(0, (0, (-2147483648), 2147483647)), (1, (0, 0, 0)), (2, (0, (-2147483648), 2147483647))], [], [], [], [], [], none), [(4, [], [3], [(0, (0, (-2147483648), (-1))), (1, (0, 0, 0)), (2, (0, (-2147483648), 2147483647)), (3, (0, 0, 0))], [], [], [], [], [], none), (4, [], [3], [(0, (0, 0, 2147483647)), (1, (0, 0, 0)), (2, (0, (-2147483648), 2147483646)), (3, (0, 0, 0))], [(2, 0, (-1))], [], [], [], [], none), (4, [], [3], [(0, (0, 0, 2147483647)), (1, (0, 0, 0)), (2, (0, 0, 2147483647)), (3, (0, 1, 1))], [(0, 2, 0)], [], [], [], [], none)], [], 0, 0)
set_option maxRecDepth 100000 in
def qP382 : zk_P := ([], [], [], [], [], [], [])
set_option maxRecDepth 100000 in
def qH382 : List zk_Hd := []
set_option maxRecDepth 100000 in
def qX382 : List zk_Hd := []
set_option maxRecDepth 100000 in
theorem qk382 : zk_chk qK qP382 prog_14_method_1_code 3 qC382 (some .boolean) qH382 qX382 69 0 = true := zk_chkD_ok (T := qdt_14_1) qdo_14_1 (by decide +kernel)
set_option maxRecDepth 100000 in
/-- UnaskedLettersModel.isKnowing(I)Z  -/
def qC383 : zk_C := ((3, [], [0, 1], [(0, (2, 57, 0)), (1, (0, (-2147483648), 2147483647)), (2, (0, (-2147483648), 2147483647))], [], [(0, 0, 2)], [], [], [], none), [(4, [], [3], [(0, (2, 57, 0)), (1, (0, (-2147483648), (-1))), (2, (0, (-2147483648), 2147483647)), (3, (0, 0, 0))], [], [(0, 0, 2)], [], [], [], none), (4, [], [3], [(0, (2, 57, 0)), (1, (0, 0, 2147483647)), (2, (0, (-2147483648), 2147483646)), (3, (0, 0, 0))], [(2, 1, (-1))], [(0, 0, 2)], [], [], [], none), (4, [], [3], [(0, (2, 57, 0)), (1, (0, 0, 2147483647)), (2, (0, 0, 2147483647)), (3, (0, 1, 1))], [(1, 2, 0)], [(0, 0, 2)], [], [], [], none)], [], 0, 0)
set_option maxRecDepth 100000 in
def qP383 : zk_P := ([(156, 12, 0, 0)], [], [], [], [], [(6, qC382)], [])
set_option maxRecDepth 100000 in
def qH383 : List zk_Hd := []
set_option maxRecDepth 100000 in
def qX383 : List zk_Hd := []
set_option maxRecDepth 100000 in
theorem qk383 : zk_chk qK qP383 prog_14_method_3_code 2 qC383 (some .boolean) qH383 qX383 66 0 = true := zk_chkD_ok (T := qdt_14_3) qdo_14_3 (by decide +kernel)
set_option maxRecDepth 100000 in
/-- UnaskedLettersModel.forceOf(IZII)I  -/
def qC384 : zk_C := ((6, [], [0, 1, 2, 3, 4], [(0, (2, 57, 0)), (1, (0, 0, 11)), (2, (0, 0, 1)), (3, (0, (-2147483648), 2147483647)), (4, (0, (-2147483648), 2147483647)), (5, (0, 0, 20))], [], [(0, 26, 5)], [], [], [], none), [(7, [], [6], [(0, (2, 57, 0)), (1, (0, 0, 11)), (2, (0, 0, 1)), (3, (0, (-2147483648), 2147483647)), (4, (0, (-2147483648), 2147483647)), (5, (0, 0, 20)), (6, (0, (-1), 19))], [(6, 5, (-1))], [(0, 26, 5)], [], [], [], none)], [], 0, 0)
set_option maxRecDepth 100000 in
def qP384 : zk_P := ([(301, 12, 26, 0), (44, 12, 21, 4), (47, 12, 22, 4), (53, 12, 24, 4), (50, 12, 23, 4)], [], [], [], [], [], [(0, [(1000, some 26)])])
set_option maxRecDepth 100000 in
def qH384 : List zk_Hd := [(6, (8, [(0, 0), (1, 1), (2, 2), (3, 3), (4, 4), (5, 6), (6, 7)], [], [(0, (2, 57, 0)), (1, (0, 0, 11)), (2, (0, 0, 1)), (3, (0, (-2147483648), 2147483647)), (4, (0, (-2147483648), 2147483647)), (5, (0, 0, 20)), (6, (0, (-1), 19)), (7, (0, 0, 20))], [(6, 5, (-1)), (6, 7, (-1)), (7, 5, 0)], [(0, 26, 5)], [], [], [], none), [(1, none, none), (21, none, some 7), (1, none, none)], 0, 0)]
set_option maxRecDepth 100000 in
def qX384 : List zk_Hd := []
set_option maxRecDepth 100000 in
theorem qk384 : zk_chk qK qP384 prog_14_method_45_code 8 qC384 (some .int) qH384 qX384 111 3 = true := zk_chkD_ok (T := qdt_14_45) qdo_14_45 (by decide +kernel)
set_option maxRecDepth 100000 in
/-- UnaskedLettersModel.force(IZII)I  -/
def qC385 : zk_C := ((8, [], [0, 1, 2, 3, 4], [(0, (2, 57, 0)), (1, (0, (-2147483648), 2147483647)), (2, (0, 0, 1)), (3, (0, (-2147483648), 2147483647)), (4, (0, (-2147483648), 2147483647)), (5, (0, (-2147483648), 2147483647)), (6, (0, 0, 4)), (7, (0, 0, 12))], [], [(0, 0, 5), (0, 57, 6), (0, 6, 7)], [], [], [], none), [(9, [], [8], [(0, (2, 57, 0)), (1, (0, (-2147483648), 2147483647)), (2, (0, 0, 1)), (3, (0, (-2147483648), 2147483647)), (4, (0, (-2147483648), 2147483647)), (5, (0, (-2147483648), 2147483647)), (6, (0, 0, 4)), (7, (0, 0, 12)), (8, (0, (-1), 19))], [], [(0, 0, 5), (0, 57, 6), (0, 6, 7)], [], [], [], none)], [], 0, 0)
set_option maxRecDepth 100000 in
def qP385 : zk_P := ([(298, 12, 57, 0), (164, 12, 6, 0)], [], [], [], [], [(19, qC380), (30, qC381), (39, qC383), (51, qC384)], [(0, [(1000, some 26)])])
set_option maxRecDepth 100000 in
def qH385 : List zk_Hd := []
set_option maxRecDepth 100000 in
def qX385 : List zk_Hd := []
set_option maxRecDepth 100000 in
theorem qk385 : zk_chk qK qP385 prog_14_method_46_code 5 qC385 (some .int) qH385 qX385 88 0 = true := zk_chkD_ok (T := qdt_14_46) qdo_14_46 (by decide +kernel)
set_option maxRecDepth 100000 in
/-- UnaskedLetters.list()I  -/
def qC386 : zk_C := ((2, [], [0], [(0, (2, 2, 0)), (1, (0, 0, 4))], [], [(0, 14, 1)], [], [], [], none), [(3, [], [2], [(0, (2, 2, 0)), (1, (0, 4, 4)), (2, (0, (-1), (-1)))], [], [(0, 14, 1)], [], [], [], none), (3, [], [1], [(0, (2, 2, 0)), (1, (0, 0, 3)), (2, (0, 1, 4))], [(1, 2, (-1)), (2, 1, 1)], [(0, 14, 2)], [], [], [], none)], [(2, 14)], 0, 0)
set_option maxRecDepth 100000 in
def qP386 : zk_P := ([(155, 11, 14, 0)], [], [], [], [], [], [])
set_option maxRecDepth 100000 in
def qH386 : List zk_Hd := []
set_option maxRecDepth 100000 in
def qX386 : List zk_Hd := []
set_option maxRecDepth 100000 in
theorem qk386 : zk_chk qK qP386 prog_1_method_11_code 1 qC386 (some .int) qH386 qX386 73 0 = true := zk_chkD_ok (T := qdt_1_11) qdo_1_11 (by decide +kernel)
set_option maxRecDepth 100000 in
/-- UnaskedLettersModel.list()I  -/
def qC387 : zk_C := ((2, [], [0], [(0, (2, 57, 0)), (1, (0, 0, 4))], [], [(0, 57, 1)], [], [], [], none), [(4, [], [2], [(0, (2, 57, 0)), (1, (0, 0, 3)), (2, (0, 0, 3)), (3, (0, 1, 4))], [(1, 2, 0), (1, 3, (-1)), (2, 1, 0), (2, 3, (-1)), (3, 1, 1), (3, 2, 1)], [(0, 57, 3)], [], [], [], none), (3, [], [2], [(0, (2, 57, 0)), (1, (0, 4, 4)), (2, (0, (-1), (-1)))], [], [(0, 57, 1)], [], [], [], none)], [(57, 57)], 0, 0)
set_option maxRecDepth 100000 in
def qP387 : zk_P := ([(298, 12, 57, 0)], [], [], [], [], [], [])
set_option maxRecDepth 100000 in
def qH387 : List zk_Hd := []
set_option maxRecDepth 100000 in
def qX387 : List zk_Hd := []
set_option maxRecDepth 100000 in
theorem qk387 : zk_chk qK qP387 prog_14_method_76_code 1 qC387 (some .int) qH387 qX387 75 0 = true := zk_chkD_ok (T := qdt_14_76) qdo_14_76 (by decide +kernel)
set_option maxRecDepth 100000 in
/-- UnaskedLetters$RuleBook.ask(III)Z  -/
def qC388 : zk_C := ((5, [], [0, 1, 2, 3], [(0, (2, 27, 0)), (1, (0, 0, 3)), (2, (0, 0, 11)), (3, (0, (-2147483648), 2147483647)), (4, (0, 0, 100))], [], [(0, 9, 4)], [], [], [], none), [(7, [], [5], [(0, (2, 27, 0)), (1, (0, 0, 3)), (2, (0, 0, 11)), (3, (0, (-2147483648), 2147483647)), (4, (0, 0, 99)), (5, (0, 1, 1)), (6, (0, 1, 100))], [(4, 6, (-1)), (6, 4, 1)], [(0, 9, 6)], [], [], [], none), (6, [], [5], [(0, (2, 27, 0)), (1, (0, 0, 3)), (2, (0, 0, 11)), (3, (0, (-2147483648), 2147483647)), (4, (0, 100, 100)), (5, (0, 0, 0))], [], [(0, 9, 4)], [], [], [], none)], [(27, 9), (34, 0), (35, 0), (36, 0)], 0, 0)
set_option maxRecDepth 100000 in
def qP388 : zk_P := ([(47, 5, 9, 0), (30, 5, 6, 4), (33, 5, 7, 4), (36, 5, 8, 4)], [], [], [], [], [], [])
set_option maxRecDepth 100000 in
def qH388 : List zk_Hd := []
set_option maxRecDepth 100000 in
def qX388 : List zk_Hd := []
set_option maxRecDepth 100000 in
theorem qk388 : zk_chk qK qP388 prog_7_method_6_code 4 qC388 (some .boolean) qH388 qX388 90 0 = true := zk_chkD_ok (T := qdt_7_6) qdo_7_6 (by decide +kernel)
set_option maxRecDepth 100000 in
/-- UnaskedLetters.off(II)Z  -/
def qC389 : zk_C := ((9, [], [0, 1, 2], [(0, (2, 2, 0)), (1, (0, (-2147483648), 2147483647)), (2, (0, (-2147483648), 2147483647)), (3, (2, 4, 0)), (4, (0, (-2147483648), 2147483647)), (5, (0, 0, 4)), (6, (2, 27, 0)), (7, (0, 0, 12)), (8, (0, 0, 100))], [], [(0, 0, 3), (0, 13, 4), (0, 14, 5), (0, 5, 6), (3, 6, 7), (6, 9, 8)], [], [], [], none), [(10, [], [9], [(0, (2, 2, 0)), (1, (0, (-2147483648), (-1))), (2, (0, (-2147483648), 2147483647)), (3, (2, 4, 0)), (4, (0, (-2147483648), 2147483647)), (5, (0, 0, 4)), (6, (2, 27, 0)), (7, (0, 0, 12)), (8, (0, 0, 100)), (9, (0, 0, 0))], [], [(0, 0, 3), (0, 13, 4), (0, 14, 5), (0, 5, 6), (3, 6, 7), (6, 9, 8)], [], [], [], none), (10, [], [9], [(0, (2, 2, 0)), (1, (0, 0, 2147483647)), (2, (0, (-2147483648), 2147483647)), (3, (2, 4, 0)), (4, (0, (-2147483648), 2147483647)), (5, (0, 0, 4)), (6, (2, 27, 0)), (7, (0, 0, 12)), (8, (0, 0, 100)), (9, (0, 0, 0))], [(5, 1, 0)], [(0, 0, 3), (0, 13, 4), (0, 14, 5), (0, 5, 6), (3, 6, 7), (6, 9, 8)], [], [], [], none), (10, [], [9], [(0, (2, 2, 0)), (1, (0, 0, 3)), (2, (0, (-2147483648), (-1))), (3, (2, 4, 0)), (4, (0, (-2147483648), 2147483647)), (5, (0, 1, 4)), (6, (2, 27, 0)), (7, (0, 0, 12)), (8, (0, 0, 100)), (9, (0, 0, 0))], [(1, 5, (-1))], [(0, 0, 3), (0, 13, 4), (0, 14, 5), (0, 5, 6), (3, 6, 7), (6, 9, 8)], [], [], [], none), (10, [], [9], [(0, (2, 2, 0)), (1, (0, 0, 3)), (2, (0, 0, 2147483647)), (3, (2, 4, 0)), (4, (0, (-2147483648), 2147483647)), (5, (0, 1, 4)), (6, (2, 27, 0)), (7, (0, 0, 12)), (8, (0, 0, 100)), (9, (0, 0, 0))], [(1, 5, (-1)), (7, 2, 0)], [(0, 0, 3), (0, 13, 4), (0, 14, 5), (0, 5, 6), (3, 6, 7), (6, 9, 8)], [], [], [], none), (11, [], [9], [(0, (2, 2, 0)), (1, (0, 0, 3)), (2, (0, 0, 11)), (3, (2, 4, 0)), (4, (0, (-2147483648), 2147483647)), (5, (0, 1, 4)), (6, (2, 27, 0)), (7, (0, 1, 12)), (8, (0, 0, 99)), (9, (0, 1, 1)), (10, (0, 1, 100))], [(1, 5, (-1)), (2, 7, (-1)), (8, 10, (-1)), (10, 8, 1)], [(0, 0, 3), (0, 13, 4), (0, 14, 5), (0, 5, 6), (3, 6, 7), (6, 9, 10)], [], [], [], none), (10, [], [9], [(0, (2, 2, 0)), (1, (0, 0, 3)), (2, (0, 0, 11)), (3, (2, 4, 0)), (4, (0, (-2147483648), 2147483647)), (5, (0, 1, 4)), (6, (2, 27, 0)), (7, (0, 1, 12)), (8, (0, 100, 100)), (9, (0, 0, 0))], [(1, 5, (-1)), (2, 7, (-1))], [(0, 0, 3), (0, 13, 4), (0, 14, 5), (0, 5, 6), (3, 6, 7), (6, 9, 8)], [], [], [], none)], [(27, 9), (34, 0), (35, 0), (36, 0)], 0, 0)
set_option maxRecDepth 100000 in
def qP389 : zk_P := ([(10, 11, 0, 4), (47, 11, 5, 4), (88, 11, 13, 0)], [], [], [], [], [(2, qC367), (13, qC16), (29, qC388)], [])
set_option maxRecDepth 100000 in
def qH389 : List zk_Hd := []
set_option maxRecDepth 100000 in
def qX389 : List zk_Hd := []
set_option maxRecDepth 100000 in
theorem qk389 : zk_chk qK qP389 prog_1_method_12_code 3 qC389 (some .boolean) qH389 qX389 80 0 = true := zk_chkD_ok (T := qdt_1_12) qdo_1_12 (by decide +kernel)
set_option maxRecDepth 100000 in
/-- UnaskedLettersModel.in(III)Z UnaskedLettersModel.isList(I)Z@8 -/
def qC390 : zk_C := ((3, [], [0, 1, 2], [(0, (0, (-2147483648), 2147483647)), (1, (0, 0, 0)), (2, (0, (-1), 3))], [], [], [], [], [], none), [(4, [], [3], [(0, (0, (-2147483648), (-1))), (1, (0, 0, 0)), (2, (0, (-1), 3)), (3, (0, 0, 0))], [], [], [], [], [], none), (4, [], [3], [(0, (0, 0, 2147483647)), (1, (0, 0, 0)), (2, (0, (-1), 3)), (3, (0, 0, 0))], [(2, 0, (-1))], [], [], [], [], none), (4, [], [3], [(0, (0, 0, 3)), (1, (0, 0, 0)), (2, (0, 0, 3)), (3, (0, 1, 1))], [(0, 2, 0)], [], [], [], [], none)], [], 0, 0)
set_option maxRecDepth 100000 in
def qP390 : zk_P := ([], [], [], [], [], [], [])
set_option maxRecDepth 100000 in
def qH390 : List zk_Hd := []
set_option maxRecDepth 100000 in
def qX390 : List zk_Hd := []
set_option maxRecDepth 100000 in
theorem qk390 : zk_chk qK qP390 prog_14_method_1_code 3 qC390 (some .boolean) qH390 qX390 69 0 = true := zk_chkD_ok (T := qdt_14_1) qdo_14_1 (by decide +kernel)
set_option maxRecDepth 100000 in
/-- UnaskedLettersModel.isList(I)Z  -/
def qC391 : zk_C := ((3, [], [0, 1], [(0, (2, 57, 0)), (1, (0, (-2147483648), 2147483647)), (2, (0, 0, 4))], [], [(0, 57, 2)], [], [], [], none), [(4, [], [3], [(0, (2, 57, 0)), (1, (0, (-2147483648), (-1))), (2, (0, 0, 4)), (3, (0, 0, 0))], [], [(0, 57, 2)], [], [], [], none), (4, [], [3], [(0, (2, 57, 0)), (1, (0, 0, 2147483647)), (2, (0, 0, 4)), (3, (0, 0, 0))], [(2, 1, 0)], [(0, 57, 2)], [], [], [], none), (4, [], [3], [(0, (2, 57, 0)), (1, (0, 0, 3)), (2, (0, 1, 4)), (3, (0, 1, 1))], [(1, 2, (-1))], [(0, 57, 2)], [], [], [], none)], [], 0, 0)
set_option maxRecDepth 100000 in
def qP391 : zk_P := ([(298, 12, 57, 0)], [], [], [], [], [(8, qC390)], [])
set_option maxRecDepth 100000 in
def qH391 : List zk_Hd := []
set_option maxRecDepth 100000 in
def qX391 : List zk_Hd := []
set_option maxRecDepth 100000 in
theorem qk391 : zk_chk qK qP391 prog_14_method_77_code 2 qC391 (some .boolean) qH391 qX391 68 0 = true := zk_chkD_ok (T := qdt_14_77) qdo_14_77 (by decide +kernel)
set_option maxRecDepth 100000 in
/-- UnaskedLettersModel.off(II)Z  -/
def qC392 : zk_C := ((7, [], [0, 1, 2], [(0, (2, 57, 0)), (1, (0, (-2147483648), 2147483647)), (2, (0, (-2147483648), 2147483647)), (3, (0, (-2147483648), 2147483647)), (4, (0, 0, 4)), (5, (0, 0, 100)), (6, (0, 0, 12))], [], [(0, 0, 3), (0, 57, 4), (0, 58, 5), (0, 6, 6)], [], [], [], none), [(8, [], [7], [(0, (2, 57, 0)), (1, (0, (-2147483648), (-1))), (2, (0, (-2147483648), 2147483647)), (3, (0, (-2147483648), 2147483647)), (4, (0, 0, 4)), (5, (0, 0, 100)), (6, (0, 0, 12)), (7, (0, 0, 0))], [], [(0, 0, 3), (0, 57, 4), (0, 58, 5), (0, 6, 6)], [], [], [], none), (8, [], [7], [(0, (2, 57, 0)), (1, (0, 0, 2147483647)), (2, (0, (-2147483648), 2147483647)), (3, (0, (-2147483648), 2147483647)), (4, (0, 0, 4)), (5, (0, 0, 100)), (6, (0, 0, 12)), (7, (0, 0, 0))], [(4, 1, 0)], [(0, 0, 3), (0, 57, 4), (0, 58, 5), (0, 6, 6)], [], [], [], none), (8, [], [7], [(0, (2, 57, 0)), (1, (0, 0, 3)), (2, (0, (-2147483648), (-1))), (3, (0, (-2147483648), 2147483647)), (4, (0, 1, 4)), (5, (0, 0, 100)), (6, (0, 0, 12)), (7, (0, 0, 0))], [(1, 4, (-1))], [(0, 0, 3), (0, 57, 4), (0, 58, 5), (0, 6, 6)], [], [], [], none), (8, [], [7], [(0, (2, 57, 0)), (1, (0, 0, 3)), (2, (0, 0, 2147483647)), (3, (0, (-2147483648), 2147483647)), (4, (0, 1, 4)), (5, (0, 0, 100)), (6, (0, 0, 12)), (7, (0, 0, 0))], [(1, 4, (-1)), (6, 2, 0)], [(0, 0, 3), (0, 57, 4), (0, 58, 5), (0, 6, 6)], [], [], [], none), (9, [], [7], [(0, (2, 57, 0)), (1, (0, 0, 3)), (2, (0, 0, 11)), (3, (0, (-2147483648), 2147483647)), (4, (0, 1, 4)), (5, (0, 0, 99)), (6, (0, 1, 12)), (7, (0, 1, 1)), (8, (0, 1, 100))], [(1, 4, (-1)), (2, 6, (-1)), (5, 8, (-1)), (8, 5, 1)], [(0, 0, 3), (0, 57, 4), (0, 58, 8), (0, 6, 6)], [], [], [], none), (8, [], [7], [(0, (2, 57, 0)), (1, (0, 0, 3)), (2, (0, 0, 11)), (3, (0, (-2147483648), 2147483647)), (4, (0, 1, 4)), (5, (0, 100, 100)), (6, (0, 1, 12)), (7, (0, 0, 0))], [(1, 4, (-1)), (2, 6, (-1))], [(0, 0, 3), (0, 57, 4), (0, 58, 5), (0, 6, 6)], [], [], [], none)], [(57, 58), (96, 0), (97, 0), (98, 0)], 0, 0)
set_option maxRecDepth 100000 in
def qP392 : zk_P := ([(409, 12, 58, 0), (123, 12, 54, 4), (126, 12, 55, 4), (129, 12, 56, 4), (156, 12, 0, 0)], [], [], [], [], [(2, qC391), (10, qC21)], [])
set_option maxRecDepth 100000 in
def qH392 : List zk_Hd := []
set_option maxRecDepth 100000 in
def qX392 : List zk_Hd := []
set_option maxRecDepth 100000 in
theorem qk392 : zk_chk qK qP392 prog_14_method_78_code 3 qC392 (some .boolean) qH392 qX392 99 0 = true := zk_chkD_ok (T := qdt_14_78) qdo_14_78 (by decide +kernel)
set_option maxRecDepth 100000 in
/-- java/util/Arrays.fill([II)V UnaskedLetters$Marks.know(I)V@5 -/
def qC393 : zk_C := ((2, [], [0, 1], [(0, (2, 49, 0)), (1, (0, 0, 0))], [], [], [], [], [], none), [(2, [], [], [(0, (2, 49, 0)), (1, (0, 0, 0))], [], [], [], [], [], none)], [(49, 0)], 0, 0)
set_option maxRecDepth 100000 in
def qP393 : zk_P := ([], [], [], [], [], [], [])
set_option maxRecDepth 100000 in
def qH393 : List zk_Hd := [(5, (4, [(0, 0), (1, 1), (2, 2), (3, 3)], [], [(0, (2, 49, 0)), (1, (0, 0, 0)), (2, (0, 0, 120)), (3, (0, 120, 120))], [], [], [], [], [], none), [(1, none, none), (121, none, some 2), (1, none, none)], 0, 0)]
set_option maxRecDepth 100000 in
def qX393 : List zk_Hd := []
set_option maxRecDepth 100000 in
theorem qk393 : zk_chk qK qP393 prog_23_method_103_code 4 qC393 none qH393 qX393 70 3 = true := zk_chkD_ok (T := qdt_23_103) qdo_23_103 (by decide +kernel)
set_option maxRecDepth 100000 in
/-- UnaskedLetters$Marks.know(I)V  -/
def qC394 : zk_C := ((2, [], [0, 1], [(0, (2, 44, 0)), (1, (0, (-2147483648), 2147483647))], [], [], [], [], [], none), [(2, [], [], [(0, (2, 44, 0)), (1, (0, (-2147483648), 2147483647))], [], [], [], [], [], none)], [(49, 0)], 0, 0)
set_option maxRecDepth 100000 in
def qP394 : zk_P := ([(21, 3, 3, 4), (24, 3, 4, 0), (15, 3, 1, 4), (11, 3, 0, 4), (18, 3, 2, 4)], [], [], [], [], [(5, qC393)], [])
set_option maxRecDepth 100000 in
def qH394 : List zk_Hd := [(10, (3, [(0, 0), (1, 1), (2, 2)], [], [(0, (2, 44, 0)), (1, (0, (-2147483648), 2147483647)), (2, (0, 0, 200))], [], [], [], [], [], none), [(1, none, none), (201, none, some 2), (1, none, none)], 0, 0)]
set_option maxRecDepth 100000 in
def qX394 : List zk_Hd := []
set_option maxRecDepth 100000 in
theorem qk394 : zk_chk qK qP394 prog_5_method_3_code 3 qC394 none qH394 qX394 84 3 = true := zk_chkD_ok (T := qdt_5_3) qdo_5_3 (by decide +kernel)
set_option maxRecDepth 100000 in
/-- UnaskedLetters$RuleBook.codeOf(I)[I  -/
def qC395 : zk_C := ((2, [], [0, 1], [(0, (2, 27, 0)), (1, (0, (-1), 19))], [], [], [], [], [], none), [(3, [], [2], [(0, (2, 27, 0)), (1, (0, (-1), (-1))), (2, (2, 0, 1))], [], [], [], [], [], none), (4, [], [2], [(0, (2, 27, 0)), (1, (0, 0, 19)), (2, (2, 0, 1)), (3, (0, 0, 19))], [(3, 1, 0)], [(0, 5, 3)], [], [], [], none), (4, [], [2], [(0, (2, 27, 0)), (1, (0, 0, 19)), (2, (2, 124, 1)), (3, (0, 1, 20))], [(1, 3, (-1))], [(0, 5, 3)], [], [], [], none)], [], 0, 0)
set_option maxRecDepth 100000 in
def qP395 : zk_P := ([(39, 5, 5, 0), (26, 5, 4, 4)], [], [], [], [], [], [])
set_option maxRecDepth 100000 in
def qH395 : List zk_Hd := []
set_option maxRecDepth 100000 in
def qX395 : List zk_Hd := []
set_option maxRecDepth 100000 in
theorem qk395 : zk_chk qK qP395 prog_7_method_4_code 2 qC395 (some (.array .int)) qH395 qX395 72 0 = true := zk_chkD_ok (T := qdt_7_4) qdo_7_4 (by decide +kernel)
set_option maxRecDepth 100000 in
/-- java/lang/Math.min(II)I UnaskedLetters.barred(IIII)Z@31 -/
def qC396 : zk_C := ((2, [], [0, 1], [(0, (0, (-2147483648), 2147483647)), (1, (0, (-2147483648), 2147483647))], [], [], [], [], [], none), [(2, [], [1], [(0, (0, (-2147483647), 2147483647)), (1, (0, (-2147483648), 2147483646))], [(1, 0, (-1))], [], [], [], [], none), (2, [], [0], [(0, (0, (-2147483648), 2147483647)), (1, (0, (-2147483648), 2147483647))], [(0, 1, 0)], [], [], [], [], none)], [], 0, 0)
set_option maxRecDepth 100000 in
def qP396 : zk_P := ([], [], [], [], [], [], [])
set_option maxRecDepth 100000 in
def qH396 : List zk_Hd := []
set_option maxRecDepth 100000 in
def qX396 : List zk_Hd := []
set_option maxRecDepth 100000 in
theorem qk396 : zk_chk qK qP396 prog_18_method_69_code 2 qC396 (some .int) qH396 qX396 66 0 = true := zk_chkD_ok (T := qdt_18_69) qdo_18_69 (by decide +kernel)
set_option maxRecDepth 100000 in
/-- UnaskedLetters$RuleBook.lastAsked(III)I  -/
def qC397 : zk_C := ((5, [], [0, 1, 2, 3], [(0, (2, 27, 0)), (1, (0, 0, 3)), (2, (0, 0, 11)), (3, (0, (-2147483648), 2147483647)), (4, (0, 0, 100))], [], [(0, 9, 4)], [], [], [], none), [(6, [], [5], [(0, (2, 27, 0)), (1, (0, 0, 3)), (2, (0, 0, 11)), (3, (0, (-2147483648), 2147483647)), (4, (0, 0, 100)), (5, (0, (-2147483648), 2147483647))], [], [(0, 9, 4)], [], [], [], none)], [], 0, 0)
set_option maxRecDepth 100000 in
def qP397 : zk_P := ([(47, 5, 9, 0), (36, 5, 8, 4), (30, 5, 6, 4), (33, 5, 7, 4)], [], [], [], [], [], [])
set_option maxRecDepth 100000 in
def qH397 : List zk_Hd := [(6, (7, [(0, 0), (1, 1), (2, 2), (3, 3), (4, 5), (5, 6)], [], [(0, (2, 27, 0)), (1, (0, 0, 3)), (2, (0, 0, 11)), (3, (0, (-2147483648), 2147483647)), (4, (0, 0, 100)), (5, (0, (-2147483648), 2147483647)), (6, (0, 0, 100))], [(6, 4, 0)], [(0, 9, 4)], [], [], [], none), [(1, none, none), (101, none, some 6), (1, none, none)], 0, 0)]
set_option maxRecDepth 100000 in
def qX397 : List zk_Hd := []
set_option maxRecDepth 100000 in
theorem qk397 : zk_chk qK qP397 prog_7_method_7_code 6 qC397 (some .int) qH397 qX397 90 3 = true := zk_chkD_ok (T := qdt_7_7) qdo_7_7 (by decide +kernel)
set_option maxRecDepth 100000 in
/-- java/util/Arrays.fill([II)V UnaskedLetters$Judge.clear()V@5 -/
def qC398 : zk_C := ((2, [], [0, 1], [(0, (2, 25, 0)), (1, (0, 0, 0))], [], [], [], [], [], none), [(2, [], [], [(0, (2, 25, 0)), (1, (0, 0, 0))], [], [], [], [], [], none)], [(25, 0)], 0, 0)
set_option maxRecDepth 100000 in
def qP398 : zk_P := ([], [], [], [], [], [], [])
set_option maxRecDepth 100000 in
def qH398 : List zk_Hd := [(5, (4, [(0, 0), (1, 1), (2, 2), (3, 3)], [], [(0, (2, 25, 0)), (1, (0, 0, 0)), (2, (0, 0, 12)), (3, (0, 12, 12))], [], [], [], [], [], none), [(1, none, none), (13, none, some 2), (1, none, none)], 0, 0)]
set_option maxRecDepth 100000 in
def qX398 : List zk_Hd := []
set_option maxRecDepth 100000 in
theorem qk398 : zk_chk qK qP398 prog_23_method_103_code 4 qC398 none qH398 qX398 70 3 = true := zk_chkD_ok (T := qdt_23_103) qdo_23_103 (by decide +kernel)
set_option maxRecDepth 100000 in
/-- UnaskedLetters$Judge.clear()V  -/
def qC399 : zk_C := ((1, [], [0], [(0, (2, 21, 0))], [], [], [], [], [], none), [(1, [], [], [(0, (2, 21, 0))], [], [], [], [], [], none)], [(25, 0)], 0, 0)
set_option maxRecDepth 100000 in
def qP399 : zk_P := ([(19, 0, 0, 4)], [], [], [], [], [(5, qC398)], [])
set_option maxRecDepth 100000 in
def qH399 : List zk_Hd := []
set_option maxRecDepth 100000 in
def qX399 : List zk_Hd := []
set_option maxRecDepth 100000 in
theorem qk399 : zk_chk qK qP399 prog_2_method_2_code 1 qC399 none qH399 qX399 65 0 = true := zk_chkD_ok (T := qdt_2_2) qdo_2_2 (by decide +kernel)
set_option maxRecDepth 100000 in
/-- java/lang/String.isLatin1()Z java/lang/String.indexOf(II)I@1java/lang/String.indexOf(I)I@3UnaskedLetters$Judge.set(CI)V@3 -/
def qC400 : zk_C := ((1, [], [0], [(0, (2, 24, 0))], [], [], [], [], [], none), [(2, [], [1], [(0, (2, 24, 0)), (1, (0, 1, 1))], [], [], [], [], [], none)], [], 0, 0)
set_option maxRecDepth 100000 in
def qP400 : zk_P := ([(15, 13, 1, 4)], [], [], [], [(0, 3, (0, 1, 1))], [], [])
set_option maxRecDepth 100000 in
def qH400 : List zk_Hd := []
set_option maxRecDepth 100000 in
def qX400 : List zk_Hd := []
set_option maxRecDepth 100000 in
theorem qk400 : zk_chk qK qP400 prog_19_method_154_code 1 qC400 (some .boolean) qH400 qX400 68 0 = true := zk_chkD_ok (T := qdt_19_154) qdo_19_154 (by decide +kernel)
set_option maxRecDepth 100000 in
/-- java/lang/String.coder()B java/lang/String.length()I@6java/lang/String.indexOf(II)I@14java/lang/String.indexOf(I)I@3UnaskedLetters$Judge.set(CI)V@3 -/
def qC401 : zk_C := ((1, [], [0], [(0, (2, 24, 0))], [], [], [], [], [], none), [(2, [], [1], [(0, (2, 24, 0)), (1, (0, 0, 0))], [], [], [], [], [], none)], [], 0, 0)
set_option maxRecDepth 100000 in
def qP401 : zk_P := ([(15, 13, 1, 4)], [], [], [], [(0, 3, (0, 1, 1))], [], [])
set_option maxRecDepth 100000 in
def qH401 : List zk_Hd := []
set_option maxRecDepth 100000 in
def qX401 : List zk_Hd := []
set_option maxRecDepth 100000 in
theorem qk401 : zk_chk qK qP401 prog_19_method_152_code 1 qC401 (some .byte) qH401 qX401 66 0 = true := zk_chkD_ok (T := qdt_19_152) qdo_19_152 (by decide +kernel)
set_option maxRecDepth 100000 in
/-- java/lang/String.length()I java/lang/String.indexOf(II)I@14java/lang/String.indexOf(I)I@3UnaskedLetters$Judge.set(CI)V@3 -/
def qC402 : zk_C := ((1, [], [0], [(0, (2, 24, 0))], [], [], [], [], [], none), [(2, [], [1], [(0, (2, 24, 0)), (1, (0, 12, 12))], [], [], [], [], [], none)], [], 0, 0)
set_option maxRecDepth 100000 in
def qP402 : zk_P := ([(9, 13, 0, 4)], [], [], [], [], [(6, qC401)], [])
set_option maxRecDepth 100000 in
def qH402 : List zk_Hd := []
set_option maxRecDepth 100000 in
def qX402 : List zk_Hd := []
set_option maxRecDepth 100000 in
theorem qk402 : zk_chk qK qP402 prog_19_method_54_code 1 qC402 (some .int) qH402 qX402 67 0 = true := zk_chkD_ok (T := qdt_19_54) qdo_19_54 (by decide +kernel)
set_option maxRecDepth 100000 in
/-- java/lang/StringLatin1.canEncode(I)Z java/lang/StringLatin1.indexOf([BIII)I@1java/lang/String.indexOf(II)I@17java/lang/String.indexOf(I)I@3UnaskedLetters$Judge.set(CI)V@3 -/
def qC403 : zk_C := ((1, [], [0], [(0, (0, 97, 121))], [], [], [], [], [], none), [(2, [], [1], [(0, (0, 97, 121)), (1, (0, 1, 1))], [], [], [], [], [], none)], [], 0, 0)
set_option maxRecDepth 100000 in
def qP403 : zk_P := ([], [], [], [], [], [], [])
set_option maxRecDepth 100000 in
def qH403 : List zk_Hd := []
set_option maxRecDepth 100000 in
def qX403 : List zk_Hd := []
set_option maxRecDepth 100000 in
theorem qk403 : zk_chk qK qP403 prog_20_method_4_code 1 qC403 (some .boolean) qH403 qX403 68 0 = true := zk_chkD_ok (T := qdt_20_4) qdo_20_4 (by decide +kernel)
set_option maxRecDepth 100000 in
/-- java/lang/Math.max(II)I java/lang/StringLatin1.indexOf([BIII)I@11java/lang/String.indexOf(II)I@17java/lang/String.indexOf(I)I@3UnaskedLetters$Judge.set(CI)V@3 -/
def qC404 : zk_C := ((2, [], [0, 1], [(0, (0, 0, 0)), (1, (0, 0, 0))], [], [], [], [], [], none), [(2, [], [0], [(0, (0, 0, 0)), (1, (0, 0, 0))], [], [], [], [], [], none)], [], 0, 0)
set_option maxRecDepth 100000 in
def qP404 : zk_P := ([], [], [], [], [], [], [])
set_option maxRecDepth 100000 in
def qH404 : List zk_Hd := []
set_option maxRecDepth 100000 in
def qX404 : List zk_Hd := []
set_option maxRecDepth 100000 in
theorem qk404 : zk_chk qK qP404 prog_18_method_65_code 2 qC404 (some .int) qH404 qX404 66 0 = true := zk_chkD_ok (T := qdt_18_65) qdo_18_65 (by decide +kernel)
set_option maxRecDepth 100000 in
/-- java/lang/Math.min(II)I java/lang/StringLatin1.indexOf([BIII)I@18java/lang/String.indexOf(II)I@17java/lang/String.indexOf(I)I@3UnaskedLetters$Judge.set(CI)V@3 -/
def qC405 : zk_C := ((2, [], [0, 1], [(0, (0, 12, 12)), (1, (0, 12, 12))], [], [], [], [], [], none), [(2, [], [0], [(0, (0, 12, 12)), (1, (0, 12, 12))], [], [], [], [], [], none)], [], 0, 0)
set_option maxRecDepth 100000 in
def qP405 : zk_P := ([], [], [], [], [], [], [])
set_option maxRecDepth 100000 in
def qH405 : List zk_Hd := []
set_option maxRecDepth 100000 in
def qX405 : List zk_Hd := []
set_option maxRecDepth 100000 in
theorem qk405 : zk_chk qK qP405 prog_18_method_69_code 2 qC405 (some .int) qH405 qX405 66 0 = true := zk_chkD_ok (T := qdt_18_69) qdo_18_69 (by decide +kernel)
set_option maxRecDepth 100000 in
/-- java/lang/StringLatin1.indexOfChar([BIII)I java/lang/StringLatin1.indexOf([BIII)I@33java/lang/String.indexOf(II)I@17java/lang/String.indexOf(I)I@3UnaskedLetters$Judge.set(CI)V@3 -/
def qC406 : zk_C := ((4, [], [0, 1, 2, 3], [(0, (2, 23, 0)), (1, (0, 97, 121)), (2, (0, 0, 0)), (3, (0, 12, 12))], [], [], [], [], [], none), [(5, [], [4], [(0, (2, 23, 0)), (1, (0, 97, 121)), (2, (0, 0, 0)), (3, (0, 12, 12)), (4, (0, (-1), (-1)))], [], [], [], [], [], none), (5, [], [4], [(0, (2, 23, 0)), (1, (0, 97, 121)), (2, (0, 0, 0)), (3, (0, 12, 12)), (4, (0, 0, 11))], [], [], [], [], [], none)], [], 0, 0)
set_option maxRecDepth 100000 in
def qP406 : zk_P := ([], [], [], [], [], [], [])
set_option maxRecDepth 100000 in
def qH406 : List zk_Hd := [(7, (6, [(0, 0), (3, 3), (4, 4), (5, 5)], [], [(0, (2, 23, 0)), (1, (0, 97, 121)), (2, (0, 0, 0)), (3, (0, 12, 12)), (4, (0, 97, 121)), (5, (0, 0, 12))], [], [], [], [], [], none), [(1, none, none), (13, none, some 5), (1, none, none)], 0, 0)]
set_option maxRecDepth 100000 in
def qX406 : List zk_Hd := []
set_option maxRecDepth 100000 in
theorem qk406 : zk_chk qK qP406 prog_20_method_23_code 6 qC406 (some .int) qH406 qX406 71 3 = true := zk_chkD_ok (T := qdt_20_23) qdo_20_23 (by decide +kernel)
set_option maxRecDepth 100000 in
/-- java/lang/StringLatin1.indexOf([BIII)I java/lang/String.indexOf(II)I@17java/lang/String.indexOf(I)I@3UnaskedLetters$Judge.set(CI)V@3 -/
def qC407 : zk_C := ((4, [], [0, 1, 2, 3], [(0, (2, 23, 0)), (1, (0, 97, 121)), (2, (0, 0, 0)), (3, (0, 12, 12))], [], [], [], [], [], none), [(5, [], [4], [(0, (2, 23, 0)), (1, (0, 97, 121)), (2, (0, 0, 0)), (3, (0, 12, 12)), (4, (0, (-1), (-1)))], [], [], [], [], [], none), (5, [], [4], [(0, (2, 23, 0)), (1, (0, 97, 121)), (2, (0, 0, 0)), (3, (0, 12, 12)), (4, (0, 0, 11))], [], [], [], [], [], none)], [], 0, 0)
set_option maxRecDepth 100000 in
def qP407 : zk_P := ([], [], [], [], [], [(1, qC403), (11, qC404), (18, qC405), (33, qC406)], [])
set_option maxRecDepth 100000 in
def qH407 : List zk_Hd := []
set_option maxRecDepth 100000 in
def qX407 : List zk_Hd := []
set_option maxRecDepth 100000 in
theorem qk407 : zk_chk qK qP407 prog_20_method_22_code 4 qC407 (some .int) qH407 qX407 81 0 = true := zk_chkD_ok (T := qdt_20_22) qdo_20_22 (by decide +kernel)
set_option maxRecDepth 100000 in
/-- java/lang/String.indexOf(II)I java/lang/String.indexOf(I)I@3UnaskedLetters$Judge.set(CI)V@3 -/
def qC408 : zk_C := ((3, [], [0, 1, 2], [(0, (2, 24, 0)), (1, (0, 97, 121)), (2, (0, 0, 0))], [], [], [], [], [], none), [(4, [], [3], [(0, (2, 24, 0)), (1, (0, 97, 121)), (2, (0, 0, 0)), (3, (0, (-1), (-1)))], [], [], [], [], [], none), (4, [], [3], [(0, (2, 24, 0)), (1, (0, 97, 121)), (2, (0, 0, 0)), (3, (0, 0, 11))], [], [], [], [], [], none)], [], 0, 0)
set_option maxRecDepth 100000 in
def qP408 : zk_P := ([(9, 13, 0, 4)], [], [], [], [], [(1, qC400), (14, qC402), (17, qC407)], [])
set_option maxRecDepth 100000 in
def qH408 : List zk_Hd := []
set_option maxRecDepth 100000 in
def qX408 : List zk_Hd := []
set_option maxRecDepth 100000 in
theorem qk408 : zk_chk qK qP408 prog_19_method_80_code 3 qC408 (some .int) qH408 qX408 72 0 = true := zk_chkD_ok (T := qdt_19_80) qdo_19_80 (by decide +kernel)
set_option maxRecDepth 100000 in
/-- java/lang/String.indexOf(I)I UnaskedLetters$Judge.set(CI)V@3 -/
def qC409 : zk_C := ((2, [], [0, 1], [(0, (2, 24, 0)), (1, (0, 97, 121))], [], [], [], [], [], none), [(3, [], [2], [(0, (2, 24, 0)), (1, (0, 97, 121)), (2, (0, (-1), (-1)))], [], [], [], [], [], none), (3, [], [2], [(0, (2, 24, 0)), (1, (0, 97, 121)), (2, (0, 0, 11))], [], [], [], [], [], none)], [], 0, 0)
set_option maxRecDepth 100000 in
def qP409 : zk_P := ([], [], [], [], [], [(3, qC408)], [])
set_option maxRecDepth 100000 in
def qH409 : List zk_Hd := []
set_option maxRecDepth 100000 in
def qX409 : List zk_Hd := []
set_option maxRecDepth 100000 in
theorem qk409 : zk_chk qK qP409 prog_19_method_79_code 2 qC409 (some .int) qH409 qX409 65 0 = true := zk_chkD_ok (T := qdt_19_79) qdo_19_79 (by decide +kernel)
set_option maxRecDepth 100000 in
/-- UnaskedLetters$Judge.set(CI)V  -/
def qC410 : zk_C := ((3, [], [0, 1, 2], [(0, (2, 21, 0)), (1, (0, 97, 121)), (2, (0, (-2147483648), 2147483647))], [], [], [], [], [], none), [(3, [], [], [(0, (2, 21, 0)), (1, (0, 97, 121)), (2, (0, (-2147483648), 2147483647))], [], [], [], [], [], none)], [(25, 0)], 0, 0)
set_option maxRecDepth 100000 in
def qP410 : zk_P := ([(19, 0, 0, 4)], [], [], [], [(0, 2, (2, 24, 0))], [(3, qC409)], [])
set_option maxRecDepth 100000 in
def qH410 : List zk_Hd := []
set_option maxRecDepth 100000 in
def qX410 : List zk_Hd := []
set_option maxRecDepth 100000 in
theorem qk410 : zk_chk qK qP410 prog_2_method_3_code 4 qC410 none qH410 qX410 77 0 = true := zk_chkD_ok (T := qdt_2_3) qdo_2_3 (by decide +kernel)
set_option maxRecDepth 100000 in
/-- UnaskedLetters$Judge.pop()I  -/
def qC411 : zk_C := ((2, [], [0], [(0, (2, 21, 0)), (1, (0, 0, 64))], [], [(0, 2, 1)], [], [], [], none), [(4, [], [2], [(0, (2, 21, 0)), (1, (0, 1, 64)), (2, (0, (-2147483648), 2147483647)), (3, (0, 0, 63))], [(1, 3, 1), (3, 1, (-1))], [(0, 2, 3)], [], [], [], none), (3, [], [2], [(0, (2, 21, 0)), (1, (0, 0, 0)), (2, (0, 0, 0))], [], [(0, 2, 1)], [], [], [], none)], [(21, 2)], 0, 0)
set_option maxRecDepth 100000 in
def qP411 : zk_P := ([(38, 0, 2, 0), (25, 0, 1, 4)], [], [], [], [], [], [])
set_option maxRecDepth 100000 in
def qH411 : List zk_Hd := []
set_option maxRecDepth 100000 in
def qX411 : List zk_Hd := []
set_option maxRecDepth 100000 in
theorem qk411 : zk_chk qK qP411 prog_2_method_9_code 1 qC411 (some .int) qH411 qX411 75 0 = true := zk_chkD_ok (T := qdt_2_9) qdo_2_9 (by decide +kernel)
set_option maxRecDepth 100000 in
/-- UnaskedLetters$Judge.push(I)V  -/
def qC412 : zk_C := ((3, [], [0, 1], [(0, (2, 21, 0)), (1, (0, (-2147483648), 2147483647)), (2, (0, 0, 64))], [], [(0, 2, 2)], [], [], [], none), [(3, [], [], [(0, (2, 21, 0)), (1, (0, (-2147483648), 2147483647)), (2, (0, 64, 64))], [], [(0, 2, 2)], [], [], [], none), (4, [], [], [(0, (2, 21, 0)), (1, (0, (-2147483648), 2147483647)), (2, (0, 0, 63)), (3, (0, 1, 64))], [(2, 3, (-1)), (3, 2, 1)], [(0, 2, 3)], [], [], [], none)], [(21, 2), (26, 0)], 0, 0)
set_option maxRecDepth 100000 in
def qP412 : zk_P := ([(38, 0, 2, 0), (25, 0, 1, 4)], [], [], [], [], [], [])
set_option maxRecDepth 100000 in
def qH412 : List zk_Hd := []
set_option maxRecDepth 100000 in
def qX412 : List zk_Hd := []
set_option maxRecDepth 100000 in
theorem qk412 : zk_chk qK qP412 prog_2_method_8_code 2 qC412 none qH412 qX412 79 0 = true := zk_chkD_ok (T := qdt_2_8) qdo_2_8 (by decide +kernel)
set_option maxRecDepth 100000 in
/-- UnaskedLetters$Judge.joined(IJJ)J  -/
def qC413 : zk_C := ((3, [], [0, 1, 2], [(0, (0, 0, 2147463647)), (1, (1, (-2147483648), 2147483647)), (2, (1, (-2147483648), 2147483647))], [], [], [], [], [], none), [(4, [], [3], [(0, (0, 0, 2147463647)), (1, (1, (-2147483648), 2147483647)), (2, (1, (-2147483648), 2147483647)), (3, (1, 0, 0))], [], [], [], [], [], none), (4, [], [3], [(0, (0, 38, 124)), (1, (1, (-2147483648), 2147483647)), (2, (1, (-2147483648), 2147483647)), (3, (1, (-9223372036854775808), 9223372036854775807))], [], [], [], [], [], none), (4, [], [3], [(0, (0, 60, 62)), (1, (1, (-2147483648), 2147483647)), (2, (1, (-2147483648), 2147483647)), (3, (1, 1, 1))], [], [], [], [], [], none)], [], 0, 0)
set_option maxRecDepth 100000 in
def qP413 : zk_P := ([], [], [], [], [], [], [])
set_option maxRecDepth 100000 in
def qH413 : List zk_Hd := []
set_option maxRecDepth 100000 in
def qX413 : List zk_Hd := []
set_option maxRecDepth 100000 in
theorem qk413 : zk_chk qK qP413 prog_2_method_6_code 5 qC413 (some .long) qH413 qX413 70 0 = true := zk_chkD_ok (T := qdt_2_6) qdo_2_6 (by decide +kernel)
set_option maxRecDepth 100000 in
/-- java/lang/Math.min(JJ)J UnaskedLetters$Judge.bounded(J)I@7 -/
def qC414 : zk_C := ((2, [], [0, 1], [(0, (1, 1000000, 1000000)), (1, (1, (-9223372036854775808), 9223372036854775807))], [], [], [], [], [], none), [(2, [], [1], [(0, (1, 1000000, 1000000)), (1, (1, (-9223372036854775808), 999999))], [], [], [], [], [], none), (2, [], [0], [(0, (1, 1000000, 1000000)), (1, (1, 1000000, 9223372036854775807))], [], [], [], [], [], none)], [], 0, 0)
set_option maxRecDepth 100000 in
def qP414 : zk_P := ([], [], [], [], [], [], [])
set_option maxRecDepth 100000 in
def qH414 : List zk_Hd := []
set_option maxRecDepth 100000 in
def qX414 : List zk_Hd := []
set_option maxRecDepth 100000 in
theorem qk414 : zk_chk qK qP414 prog_18_method_70_code 4 qC414 (some .long) qH414 qX414 67 0 = true := zk_chkD_ok (T := qdt_18_70) qdo_18_70 (by decide +kernel)
set_option maxRecDepth 100000 in
/-- java/lang/Math.max(JJ)J UnaskedLetters$Judge.bounded(J)I@10 -/
def qC415 : zk_C := ((2, [], [0, 1], [(0, (1, (-1000000), (-1000000))), (1, (1, (-9223372036854775808), 1000000))], [], [], [], [], [], none), [(2, [], [1], [(0, (1, (-1000000), (-1000000))), (1, (1, (-999999), 1000000))], [], [], [], [], [], none), (2, [], [0], [(0, (1, (-1000000), (-1000000))), (1, (1, (-9223372036854775808), (-1000000)))], [], [], [], [], [], none)], [], 0, 0)
set_option maxRecDepth 100000 in
def qP415 : zk_P := ([], [], [], [], [], [], [])
set_option maxRecDepth 100000 in
def qH415 : List zk_Hd := []
set_option maxRecDepth 100000 in
def qX415 : List zk_Hd := []
set_option maxRecDepth 100000 in
theorem qk415 : zk_chk qK qP415 prog_18_method_66_code 4 qC415 (some .long) qH415 qX415 67 0 = true := zk_chkD_ok (T := qdt_18_66) qdo_18_66 (by decide +kernel)
set_option maxRecDepth 100000 in
/-- UnaskedLetters$Judge.bounded(J)I  -/
def qC416 : zk_C := ((1, [], [0], [(0, (1, (-9223372036854775808), 9223372036854775807))], [], [], [], [], [], none), [(2, [], [1], [(0, (1, (-999999), 999999)), (1, (0, (-999999), 999999))], [], [], [], [], [], none), (2, [], [1], [(0, (1, (-9223372036854775808), (-1000000))), (1, (0, (-1000000), (-1000000)))], [], [], [], [], [], none), (2, [], [1], [(0, (1, 1000000, 9223372036854775807)), (1, (0, 1000000, 1000000))], [], [], [], [], [], none)], [], 0, 0)
set_option maxRecDepth 100000 in
def qP416 : zk_P := ([], [], [], [], [(0, 3, (1, (-1000000), (-1000000))), (3, 3, (1, 1000000, 1000000))], [(7, qC414), (10, qC415)], [])
set_option maxRecDepth 100000 in
def qH416 : List zk_Hd := []
set_option maxRecDepth 100000 in
def qX416 : List zk_Hd := []
set_option maxRecDepth 100000 in
theorem qk416 : zk_chk qK qP416 prog_2_method_7_code 2 qC416 (some .int) qH416 qX416 67 0 = true := zk_chkD_ok (T := qdt_2_7) qdo_2_7 (by decide +kernel)
set_option maxRecDepth 100000 in
/-- UnaskedLetters$Judge.act(IC)V  -/
def qC417 : zk_C := ((8, [], [0, 1, 2], [(0, (2, 21, 0)), (1, (0, 0, 2147463647)), (2, (0, 98, 120)), (3, (0, 0, 64)), (4, (0, (-2147483648), 2147483647)), (5, (0, 0, 1)), (6, (0, (-2147483648), 2147483647)), (7, (0, (-1), (-1)))], [], [(0, 2, 3), (0, 3, 4), (0, 4, 5), (0, 5, 6), (0, 6, 7)], [], [], [], none), [(13, [], [], [(0, (2, 21, 0)), (1, (0, 0, 2147463647)), (2, (0, 98, 120)), (3, (0, 0, 64)), (4, (0, (-2147483648), 2147483647)), (5, (0, 0, 1)), (6, (0, (-2147483648), 2147483647)), (7, (0, (-1), (-1))), (8, (0, 0, 64)), (9, (0, (-2147483648), 2147483647)), (10, (0, 0, 1)), (11, (0, (-2147483648), 2147483647)), (12, (0, (-2147483648), 2147483647))], [(3, 8, 1), (8, 3, 1)], [(0, 2, 8), (0, 3, 9), (0, 4, 10), (0, 5, 11), (0, 6, 12)], [], [], [], none)], [(21, 2), (21, 3), (21, 4), (21, 5), (21, 6), (26, 0)], 0, 0)
set_option maxRecDepth 100000 in
def qP417 : zk_P := ([(45, 0, 4, 2), (49, 0, 5, 0), (42, 0, 3, 0), (52, 0, 6, 0)], [], [], [], [], [(87, qC411), (112, qC411), (166, qC411), (177, qC412), (184, qC411), (190, qC411), (203, qC413), (206, qC416), (209, qC412)], [])
set_option maxRecDepth 100000 in
def qH417 : List zk_Hd := []
set_option maxRecDepth 100000 in
def qX417 : List zk_Hd := []
set_option maxRecDepth 100000 in
theorem qk417 : zk_chk qK qP417 prog_2_method_5_code 6 qC417 none qH417 qX417 88 0 = true := zk_chkD_ok (T := qdt_2_5) qdo_2_5 (by decide +kernel)
end
