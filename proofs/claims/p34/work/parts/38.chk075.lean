/-! CONTRACTS: found by wip/an (python). -/
set_option maxRecDepth 100000 in
/-- UnaskedLetters.isPast(I)Z  -/
def qC379 : zk_C := ((2, [], [0, 1], [(0, (2, 2, 0)), (1, (0, (-2147483648), 2147483647))], [], [], [], [], [], none), [(3, [], [2], [(0, (2, 2, 0)), (1, (0, (-2147483648), (-1))), (2, (0, 0, 0))], [], [], [], [], [], none), (4, [], [2], [(0, (2, 2, 0)), (1, (0, 0, 2147483647)), (2, (0, 0, 0)), (3, (0, (-2147483648), 2147483646))], [(3, 1, (-1))], [(0, 13, 3)], [], [], [], none), (4, [], [2], [(0, (2, 2, 0)), (1, (0, 0, 2147483647)), (2, (0, 1, 1)), (3, (0, 0, 2147483647))], [(1, 3, 0)], [(0, 13, 3)], [], [], [], none)], [], 0, 0)
set_option maxRecDepth 100000 in
def qP379 : zk_P := ([(88, 11, 13, 0)], [], [], [], [], [], [])
set_option maxRecDepth 100000 in
def qH379 : List zk_Hd := []
set_option maxRecDepth 100000 in
def qX379 : List zk_Hd := []
set_option maxRecDepth 100000 in
theorem qk379 : zk_chk qK qP379 prog_1_method_39_code 2 qC379 (some .boolean) qH379 qX379 69 0 = true := zk_chkD_ok (T := qdt_1_39) qdo_1_39 (by decide +kernel)
set_option maxRecDepth 100000 in
/-- UnaskedLetters$RuleBook.inForce(IZII)I  -/
def qC380 : zk_C := ((5, [], [0, 1, 2, 3, 4], [(0, (2, 27, 0)), (1, (0, 0, 11)), (2, (0, 0, 1)), (3, (0, (-2147483648), 2147483647)), (4, (0, (-2147483648), 2147483647))], [], [], [], [], [], none), [(6, [], [5], [(0, (2, 27, 0)), (1, (0, 0, 11)), (2, (0, 0, 1)), (3, (0, (-2147483648), 2147483647)), (4, (0, (-2147483648), 2147483647)), (5, (0, (-1), 19))], [], [], [], [], [], none)], [], 0, 0)
set_option maxRecDepth 100000 in
def qP380 : zk_P := ([(39, 5, 5, 0), (19, 5, 2, 4), (11, 5, 0, 4), (15, 5, 1, 4), (22, 5, 3, 4)], [], [], [], [], [], [])
set_option maxRecDepth 100000 in
def qH380 : List zk_Hd := [(9, (8, [(0, 0), (1, 1), (2, 2), (3, 3), (4, 4), (5, 5), (6, 6), (7, 7)], [], [(0, (2, 27, 0)), (1, (0, 0, 11)), (2, (0, 0, 1)), (3, (0, (-2147483648), 2147483647)), (4, (0, (-2147483648), 2147483647)), (5, (0, (-1), 19)), (6, (0, (-1), 2147483647)), (7, (0, 0, 20))], [(5, 7, (-1))], [], [], [], [], none), [(1, none, none), (21, none, some 7), (1, none, none)], 0, 0)]
set_option maxRecDepth 100000 in
def qX380 : List zk_Hd := []
set_option maxRecDepth 100000 in
theorem qk380 : zk_chk qK qP380 prog_7_method_5_code 9 qC380 (some .int) qH380 qX380 109 3 = true := zk_chkD_ok (T := qdt_7_5) qdo_7_5 (by decide +kernel)
set_option maxRecDepth 100000 in
/-- UnaskedLetters.force(IZII)I  -/
def qC381 : zk_C := ((5, [], [0, 1, 2, 3, 4], [(0, (2, 2, 0)), (1, (0, (-2147483648), 2147483647)), (2, (0, 0, 1)), (3, (0, (-2147483648), 2147483647)), (4, (0, (-2147483648), 2147483647))], [], [], [], [], [], none), [(6, [], [5], [(0, (2, 2, 0)), (1, (0, (-2147483648), 2147483647)), (2, (0, 0, 1)), (3, (0, (-2147483648), 2147483647)), (4, (0, (-2147483648), 2147483647)), (5, (0, (-1), 19))], [], [], [], [], [], none)], [], 0, 0)
set_option maxRecDepth 100000 in
def qP381 : zk_P := ([(47, 11, 5, 4)], [], [], [], [], [(3, qC370), (23, qC379), (40, qC380)], [])
set_option maxRecDepth 100000 in
def qH381 : List zk_Hd := []
set_option maxRecDepth 100000 in
def qX381 : List zk_Hd := []
set_option maxRecDepth 100000 in
theorem qk381 : zk_chk qK qP381 prog_1_method_10_code 5 qC381 (some .int) qH381 qX381 82 0 = true := zk_chkD_ok (T := qdt_1_10) qdo_1_10 (by decide +kernel)
set_option maxRecDepth 100000 in
/-- UnaskedLettersModel.in(III)Z UnaskedLettersModel.force(IZII)I@19 -/
def qC382 : zk_C := ((3, [], [0, 1, 2], [(0, (0, (-2147483648), 2147483647)), (1, (0, 0, 0)), (2, (0, (-1), 11))], [], [], [], [], [], none), [(4, [], [3], [(0, (0, (-2147483648), (-1))), (1, (0, 0, 0)), (2, (0, (-1), 11)), (3, (0, 0, 0))], [], [], [], [], [], none), (4, [], [3], [(0, (0, 0, 2147483647)), (1, (0, 0, 0)), (2, (0, (-1), 11)), (3, (0, 0, 0))], [(2, 0, (-1))], [], [], [], [], none), (4, [], [3], [(0, (0, 0, 11)), (1, (0, 0, 0)), (2, (0, 0, 11)), (3, (0, 1, 1))], [(0, 2, 0)], [], [], [], [], none)], [], 0, 0)
set_option maxRecDepth 100000 in
def qP382 : zk_P := ([], [], [], [], [], [], [])
set_option maxRecDepth 100000 in
def qH382 : List zk_Hd := []
set_option maxRecDepth 100000 in
def qX382 : List zk_Hd := []
set_option maxRecDepth 100000 in
theorem qk382 : zk_chk qK qP382 prog_14_method_1_code 3 qC382 (some .boolean) qH382 qX382 69 0 = true := zk_chkD_ok (T := qdt_14_1) qdo_14_1 (by decide +kernel)
set_option maxRecDepth 100000 in
/-- UnaskedLettersModel.in(III)Z UnaskedLettersModel.force(IZII)I@30 -/
def qC383 : zk_C := ((3, [], [0, 1, 2], [(0, (0, (-2147483648), 2147483647)), (1, (0, 0, 0)), (2, (0, 2000, 2000))], [], [], [], [], [], none), [(4, [], [3], [(0, (0, (-2147483648), (-1))), (1, (0, 0, 0)), (2, (0, 2000, 2000)), (3, (0, 0, 0))], [], [], [], [], [], none), (4, [], [3], [(0, (0, 2001, 2147483647)), (1, (0, 0, 0)), (2, (0, 2000, 2000)), (3, (0, 0, 0))], [], [], [], [], [], none), (4, [], [3], [(0, (0, 0, 2000)), (1, (0, 0, 0)), (2, (0, 2000, 2000)), (3, (0, 1, 1))], [], [], [], [], [], none)], [], 0, 0)
set_option maxRecDepth 100000 in
def qP383 : zk_P := ([], [], [], [], [], [], [])
set_option maxRecDepth 100000 in
def qH383 : List zk_Hd := []
set_option maxRecDepth 100000 in
def qX383 : List zk_Hd := []
set_option maxRecDepth 100000 in
theorem qk383 : zk_chk qK qP383 prog_14_method_1_code 3 qC383 (some .boolean) qH383 qX383 69 0 = true := zk_chkD_ok (T := qdt_14_1) qdo_14_1 (by decide +kernel)
set_option maxRecDepth 100000 in
/-- UnaskedLettersModel.in(III)Z UnaskedLettersModel.isKnowing(I)Z@6 -/
def qC384 : zk_C := ((3, [], [0, 1, 2], [(0, (0, (-2147483648), 2147483647)), (1, (0, 0, 0)), (2, (0, (-2147483648), 2147483647))], [], [], [], [], [], none), [(4, [], [3], [(0, (0, (-2147483648), (-1))), (1, (0, 0, 0)), (2, (0, (-2147483648), 2147483647)), (3, (0, 0, 0))], [], [], [], [], [], none), (4, [], [3], [(0, (0, 0, 2147483647)), (1, (0, 0, 0)), (2, (0, (-2147483648), 2147483646)), (3, (0, 0, 0))], [(2, 0, (-1))], [], [], [], [], none), (4, [], [3], [(0, (0, 0, 2147483647)), (1, (0, 0, 0)), (2, (0, 0, 2147483647)), (3, (0, 1, 1))], [(0, 2, 0)], [], [], [], [], none)], [], 0, 0)
set_option maxRecDepth 100000 in
def qP384 : zk_P := ([], [], [], [], [], [], [])
set_option maxRecDepth 100000 in
def qH384 : List zk_Hd := []
set_option maxRecDepth 100000 in
def qX384 : List zk_Hd := []
set_option maxRecDepth 100000 in
theorem qk384 : zk_chk qK qP384 prog_14_method_1_code 3 qC384 (some .boolean) qH384 qX384 69 0 = true := zk_chkD_ok (T := qdt_14_1) qdo_14_1 (by decide +kernel)
set_option maxRecDepth 100000 in
/-- UnaskedLettersModel.isKnowing(I)Z  -/
def qC385 : zk_C := ((2, [], [0, 1], [(0, (2, 57, 0)), (1, (0, (-2147483648), 2147483647))], [], [], [], [], [], none), [(3, [], [2], [(0, (2, 57, 0)), (1, (0, (-2147483648), (-1))), (2, (0, 0, 0))], [], [], [], [], [], none), (4, [], [2], [(0, (2, 57, 0)), (1, (0, 0, 2147483647)), (2, (0, 0, 0)), (3, (0, (-2147483648), 2147483646))], [(3, 1, (-1))], [(0, 0, 3)], [], [], [], none), (4, [], [2], [(0, (2, 57, 0)), (1, (0, 0, 2147483647)), (2, (0, 1, 1)), (3, (0, 0, 2147483647))], [(1, 3, 0)], [(0, 0, 3)], [], [], [], none)], [], 0, 0)
set_option maxRecDepth 100000 in
def qP385 : zk_P := ([(156, 12, 0, 0)], [], [], [], [], [(6, qC384)], [])
set_option maxRecDepth 100000 in
def qH385 : List zk_Hd := []
set_option maxRecDepth 100000 in
def qX385 : List zk_Hd := []
set_option maxRecDepth 100000 in
theorem qk385 : zk_chk qK qP385 prog_14_method_3_code 2 qC385 (some .boolean) qH385 qX385 66 0 = true := zk_chkD_ok (T := qdt_14_3) qdo_14_3 (by decide +kernel)
set_option maxRecDepth 100000 in
/-- UnaskedLettersModel.forceOf(IZII)I  -/
def qC386 : zk_C := ((6, [], [0, 1, 2, 3, 4], [(0, (2, 57, 0)), (1, (0, 0, 11)), (2, (0, 0, 1)), (3, (0, (-2147483648), 2147483647)), (4, (0, (-2147483648), 2147483647)), (5, (0, 0, 20))], [], [(0, 26, 5)], [], [], [], none), [(7, [], [6], [(0, (2, 57, 0)), (1, (0, 0, 11)), (2, (0, 0, 1)), (3, (0, (-2147483648), 2147483647)), (4, (0, (-2147483648), 2147483647)), (5, (0, 0, 20)), (6, (0, (-1), 19))], [(6, 5, (-1))], [(0, 26, 5)], [], [], [], none)], [], 0, 0)
set_option maxRecDepth 100000 in
def qP386 : zk_P := ([(301, 12, 26, 0), (44, 12, 21, 4), (47, 12, 22, 4), (53, 12, 24, 4), (50, 12, 23, 4)], [], [], [], [], [], [(0, [(1000, some 26)])])
set_option maxRecDepth 100000 in
def qH386 : List zk_Hd := [(6, (8, [(0, 0), (1, 1), (2, 2), (3, 3), (4, 4), (5, 6), (6, 7)], [], [(0, (2, 57, 0)), (1, (0, 0, 11)), (2, (0, 0, 1)), (3, (0, (-2147483648), 2147483647)), (4, (0, (-2147483648), 2147483647)), (5, (0, 0, 20)), (6, (0, (-1), 19)), (7, (0, 0, 20))], [(6, 5, (-1)), (6, 7, (-1)), (7, 5, 0)], [(0, 26, 5)], [], [], [], none), [(1, none, none), (21, none, some 7), (1, none, none)], 0, 0)]
set_option maxRecDepth 100000 in
def qX386 : List zk_Hd := []
set_option maxRecDepth 100000 in
theorem qk386 : zk_chk qK qP386 prog_14_method_45_code 8 qC386 (some .int) qH386 qX386 111 3 = true := zk_chkD_ok (T := qdt_14_45) qdo_14_45 (by decide +kernel)
set_option maxRecDepth 100000 in
/-- UnaskedLettersModel.force(IZII)I  -/
def qC387 : zk_C := ((5, [], [0, 1, 2, 3, 4], [(0, (2, 57, 0)), (1, (0, (-2147483648), 2147483647)), (2, (0, 0, 1)), (3, (0, (-2147483648), 2147483647)), (4, (0, (-2147483648), 2147483647))], [], [], [], [], [], none), [(6, [], [5], [(0, (2, 57, 0)), (1, (0, (-2147483648), 2147483647)), (2, (0, 0, 1)), (3, (0, (-2147483648), 2147483647)), (4, (0, (-2147483648), 2147483647)), (5, (0, (-1), 19))], [], [], [], [], [], none)], [], 0, 0)
set_option maxRecDepth 100000 in
def qP387 : zk_P := ([(298, 12, 57, 0), (164, 12, 6, 0)], [], [], [], [], [(19, qC382), (30, qC383), (39, qC385), (51, qC386)], [(0, [(1000, some 26)])])
set_option maxRecDepth 100000 in
def qH387 : List zk_Hd := []
set_option maxRecDepth 100000 in
def qX387 : List zk_Hd := []
set_option maxRecDepth 100000 in
theorem qk387 : zk_chk qK qP387 prog_14_method_46_code 5 qC387 (some .int) qH387 qX387 88 0 = true := zk_chkD_ok (T := qdt_14_46) qdo_14_46 (by decide +kernel)
set_option maxRecDepth 100000 in
/-- UnaskedLetters.list()I  -/
def qC388 : zk_C := ((1, [], [0], [(0, (2, 2, 0))], [], [], [], [], [], none), [(3, [], [1], [(0, (2, 2, 0)), (1, (0, (-1), 3)), (2, (0, 1, 4))], [(1, 2, (-1))], [(0, 14, 2)], [], [], [], none)], [(2, 14)], 0, 0)
set_option maxRecDepth 100000 in
def qP388 : zk_P := ([(155, 11, 14, 0)], [], [], [], [], [], [])
set_option maxRecDepth 100000 in
def qH388 : List zk_Hd := []
set_option maxRecDepth 100000 in
def qX388 : List zk_Hd := []
set_option maxRecDepth 100000 in
theorem qk388 : zk_chk qK qP388 prog_1_method_11_code 1 qC388 (some .int) qH388 qX388 73 0 = true := zk_chkD_ok (T := qdt_1_11) qdo_1_11 (by decide +kernel)
set_option maxRecDepth 100000 in
/-- UnaskedLettersModel.list()I  -/
def qC389 : zk_C := ((1, [], [0], [(0, (2, 57, 0))], [], [], [], [], [], none), [(3, [], [1], [(0, (2, 57, 0)), (1, (0, (-1), 3)), (2, (0, 1, 4))], [(1, 2, (-1))], [(0, 57, 2)], [], [], [], none)], [(57, 57)], 0, 0)
set_option maxRecDepth 100000 in
def qP389 : zk_P := ([(298, 12, 57, 0)], [], [], [], [], [], [])
set_option maxRecDepth 100000 in
def qH389 : List zk_Hd := []
set_option maxRecDepth 100000 in
def qX389 : List zk_Hd := []
set_option maxRecDepth 100000 in
theorem qk389 : zk_chk qK qP389 prog_14_method_76_code 1 qC389 (some .int) qH389 qX389 75 0 = true := zk_chkD_ok (T := qdt_14_76) qdo_14_76 (by decide +kernel)
set_option maxRecDepth 100000 in
/-- UnaskedLetters$RuleBook.ask(III)Z  -/
def qC390 : zk_C := ((4, [], [0, 1, 2, 3], [(0, (2, 27, 0)), (1, (0, 0, 3)), (2, (0, 0, 11)), (3, (0, (-2147483648), 2147483647))], [], [], [], [], [], none), [(6, [], [4], [(0, (2, 27, 0)), (1, (0, 0, 3)), (2, (0, 0, 11)), (3, (0, (-2147483648), 2147483647)), (4, (0, 1, 1)), (5, (0, 1, 100))], [], [(0, 9, 5)], [], [], [], none), (6, [], [4], [(0, (2, 27, 0)), (1, (0, 0, 3)), (2, (0, 0, 11)), (3, (0, (-2147483648), 2147483647)), (4, (0, 0, 0)), (5, (0, 100, 100))], [], [(0, 9, 5)], [], [], [], none)], [(27, 9), (34, 0), (35, 0), (36, 0)], 0, 0)
set_option maxRecDepth 100000 in
def qP390 : zk_P := ([(47, 5, 9, 0), (30, 5, 6, 4), (33, 5, 7, 4), (36, 5, 8, 4)], [], [], [], [], [], [])
set_option maxRecDepth 100000 in
def qH390 : List zk_Hd := []
set_option maxRecDepth 100000 in
def qX390 : List zk_Hd := []
set_option maxRecDepth 100000 in
theorem qk390 : zk_chk qK qP390 prog_7_method_6_code 4 qC390 (some .boolean) qH390 qX390 90 0 = true := zk_chkD_ok (T := qdt_7_6) qdo_7_6 (by decide +kernel)
set_option maxRecDepth 100000 in
/-- UnaskedLetters.off(II)Z  -/
def qC391 : zk_C := ((3, [], [0, 1, 2], [(0, (2, 2, 0)), (1, (0, (-2147483648), 2147483647)), (2, (0, (-2147483648), 2147483647))], [], [], [], [], [], none), [(4, [], [3], [(0, (2, 2, 0)), (1, (0, (-2147483648), 2147483647)), (2, (0, (-2147483648), 2147483647)), (3, (0, 0, 1))], [], [], [], [], [], none)], [(27, 9), (34, 0), (35, 0), (36, 0)], 0, 0)
set_option maxRecDepth 100000 in
def qP391 : zk_P := ([(10, 11, 0, 4), (47, 11, 5, 4), (88, 11, 13, 0)], [], [], [], [], [(2, qC369), (13, qC16), (29, qC390)], [])
set_option maxRecDepth 100000 in
def qH391 : List zk_Hd := []
set_option maxRecDepth 100000 in
def qX391 : List zk_Hd := []
set_option maxRecDepth 100000 in
theorem qk391 : zk_chk qK qP391 prog_1_method_12_code 3 qC391 (some .boolean) qH391 qX391 80 0 = true := zk_chkD_ok (T := qdt_1_12) qdo_1_12 (by decide +kernel)
