/-! CONTRACTS: found by wip/an (python). -/
set_option maxRecDepth 100000 in
/-- UnaskedLetters.barred(IIII)Z  -/
def qC421 : zk_C := ((7, [], [0, 1, 2, 3, 4], [(0, (2, 2, 0)), (1, (0, 0, 3)), (2, (0, 0, 11)), (3, (0, (-2147483648), 2147483647)), (4, (0, (-2147483648), 2147483647)), (5, (2, 4, 0)), (6, (2, 44, 0))], [], [(0, 0, 5), (0, 8, 6)], [], [], [], none), [(16, [], [7], [(0, (2, 2, 0)), (1, (0, 0, 3)), (2, (0, 0, 11)), (3, (0, (-2147483648), 2147483647)), (4, (0, (-2147483648), 2147483647)), (5, (2, 4, 0)), (6, (2, 44, 0)), (7, (0, 1, 1)), (8, (2, 21, 0)), (9, (2, 27, 0)), (10, (0, 0, 64)), (11, (0, (-2147483648), 2147483647)), (12, (0, 0, 1)), (13, (0, (-2147483648), 2147483647)), (14, (0, (-2147483648), 2147483647)), (15, (0, 1, 20))], [], [(0, 0, 5), (0, 4, 8), (0, 5, 9), (0, 8, 6), (8, 2, 10), (8, 3, 11), (8, 4, 12), (8, 5, 13), (8, 6, 14), (9, 5, 15)], [], [], [(2, 13, 0, 0)], none), (9, [], [7], [(0, (2, 2, 0)), (1, (0, 0, 3)), (2, (0, 0, 11)), (3, (0, (-2147483648), 2147483647)), (4, (0, (-2147483648), 2147483647)), (5, (2, 4, 0)), (6, (2, 44, 0)), (7, (0, 0, 0)), (8, (2, 27, 0))], [], [(0, 0, 5), (0, 5, 8), (0, 8, 6)], [], [], [], none)], [(21, 2), (21, 3), (21, 4), (21, 5), (21, 6), (25, 0), (26, 0)], 0, 0)
set_option maxRecDepth 100000 in
def qP421 : zk_P := ([(47, 11, 5, 4), (181, 11, 15, 0), (60, 11, 7, 4), (244, 1, 4, 4), (10, 11, 0, 4), (316, 4, 2, 4), (247, 1, 0, 4), (450, 4, 3, 4), (250, 1, 1, 4), (67, 11, 8, 4), (289, 3, 3, 4), (40, 11, 4, 4)], [], [], [], [], [(13, qC380), (16, qC397), (31, qC398), (166, qC399), (175, qC401), (186, qC412), (197, qC412), (208, qC412), (233, qC412), (243, qC412), (254, qC420)], [])
set_option maxRecDepth 100000 in
def qH421 : List zk_Hd := [(48, (15, [(0, 0), (1, 1), (2, 2), (3, 3), (5, 7), (6, 8), (7, 9), (8, 10), (9, 11), (10, 12)], [], [(0, (2, 2, 0)), (1, (0, 0, 3)), (2, (0, 0, 11)), (3, (0, (-2147483648), 2147483647)), (4, (0, (-2147483648), 2147483647)), (5, (2, 4, 0)), (6, (2, 44, 0)), (7, (2, 124, 0)), (8, (0, (-2147483648), 2147483647)), (9, (0, 0, 120)), (10, (0, 0, 120)), (11, (0, 0, 120)), (12, (0, 0, 120)), (13, (2, 27, 0)), (14, (0, 1, 20))], [(8, 3, 0), (8, 4, 0), (9, 10, 0), (9, 12, 0), (10, 12, 0), (11, 10, 0), (11, 12, 0)], [(0, 0, 5), (0, 5, 13), (0, 8, 6), (13, 5, 14)], [], [], [], none), [(1, none, none), (121, none, some 12), (1, none, none)], 0, 0)]
set_option maxRecDepth 100000 in
def qX421 : List zk_Hd := []
set_option maxRecDepth 100000 in
theorem qk421 : zk_chk qK qP421 prog_1_method_52_code 11 qC421 (some .boolean) qH421 qX421 120 3 = true := zk_chkD_ok (T := qdt_1_52) qdo_1_52 (by decide +kernel)
set_option maxRecDepth 100000 in
/-- UnaskedLetters.bars(IIII)I  -/
def qC422 : zk_C := ((5, [], [0, 1, 2, 3, 4], [(0, (2, 2, 0)), (1, (0, (-2147483648), 2147483647)), (2, (0, (-2147483648), 2147483647)), (3, (0, (-2147483648), 2147483647)), (4, (0, (-2147483648), 2147483647))], [], [], [], [], [], none), [(6, [], [5], [(0, (2, 2, 0)), (1, (0, (-2147483648), 2147483647)), (2, (0, (-2147483648), 2147483647)), (3, (0, (-2147483648), 2147483647)), (4, (0, (-2147483648), 2147483647)), (5, (0, (-1), 1))], [], [], [], [], [], none)], [(21, 2), (21, 3), (21, 4), (21, 5), (21, 6), (25, 0), (26, 0), (49, 0)], 0, 0)
set_option maxRecDepth 100000 in
def qP422 : zk_P := ([(10, 11, 0, 4), (67, 11, 8, 4)], [], [], [], [], [(2, qC369), (13, qC16), (21, qC379), (30, qC379), (44, qC396), (53, qC421)], [])
set_option maxRecDepth 100000 in
def qH422 : List zk_Hd := []
set_option maxRecDepth 100000 in
def qX422 : List zk_Hd := []
set_option maxRecDepth 100000 in
theorem qk422 : zk_chk qK qP422 prog_1_method_13_code 5 qC422 (some .int) qH422 qX422 91 0 = true := zk_chkD_ok (T := qdt_1_13) qdo_1_13 (by decide +kernel)
set_option maxRecDepth 100000 in
/-- UnaskedLettersModel.in(III)Z UnaskedLettersModel.bars(IIII)I@22 -/
def qC423 : zk_C := ((3, [], [0, 1, 2], [(0, (0, (-2147483648), 2147483647)), (1, (0, 0, 0)), (2, (0, (-2147483648), 2147483647))], [], [], [], [], [], none), [(4, [], [3], [(0, (0, (-2147483648), (-1))), (1, (0, 0, 0)), (2, (0, (-2147483648), 2147483647)), (3, (0, 0, 0))], [], [], [], [], [], none), (4, [], [3], [(0, (0, 0, 2147483647)), (1, (0, 0, 0)), (2, (0, (-2147483648), 2147483646)), (3, (0, 0, 0))], [(2, 0, (-1))], [], [], [], [], none), (4, [], [3], [(0, (0, 0, 2147483647)), (1, (0, 0, 0)), (2, (0, 0, 2147483647)), (3, (0, 1, 1))], [(0, 2, 0)], [], [], [], [], none)], [], 0, 0)
set_option maxRecDepth 100000 in
def qP423 : zk_P := ([], [], [], [], [], [], [])
set_option maxRecDepth 100000 in
def qH423 : List zk_Hd := []
set_option maxRecDepth 100000 in
def qX423 : List zk_Hd := []
set_option maxRecDepth 100000 in
theorem qk423 : zk_chk qK qP423 prog_14_method_1_code 3 qC423 (some .boolean) qH423 qX423 69 0 = true := zk_chkD_ok (T := qdt_14_1) qdo_14_1 (by decide +kernel)
set_option maxRecDepth 100000 in
/-- UnaskedLettersModel.gather(I)V  -/
def qC424 : zk_C := ((2, [], [0, 1], [(0, (2, 57, 0)), (1, (0, (-2147483648), 2147483647))], [], [], [], [], [], none), [(2, [], [], [(0, (2, 57, 0)), (1, (0, (-2147483648), 2147483647))], [], [], [], [], [], none)], [(92, 0)], 0, 0)
set_option maxRecDepth 100000 in
def qP424 : zk_P := ([(341, 12, 44, 0), (111, 12, 48, 4), (366, 12, 49, 0), (108, 12, 47, 4), (102, 12, 45, 4), (105, 12, 46, 4)], [], [], [], [], [], [])
set_option maxRecDepth 100000 in
def qH424 : List zk_Hd := [(2, (3, [(0, 0), (1, 1), (2, 2)], [], [(0, (2, 57, 0)), (1, (0, (-2147483648), 2147483647)), (2, (0, 0, 120))], [], [], [], [], [], none), [(2, none, none), (121, none, some 2), (1, none, none)], 0, 0), (25, (4, [(0, 0), (1, 1), (2, 2)], [], [(0, (2, 57, 0)), (1, (0, (-2147483648), 2147483647)), (2, (0, 0, 200)), (3, (0, 0, 120))], [], [(0, 44, 3)], [], [], [], none), [(1, none, none), (201, none, some 2), (1, none, none)], 0, 0)]
set_option maxRecDepth 100000 in
def qX424 : List zk_Hd := []
set_option maxRecDepth 100000 in
theorem qk424 : zk_chk qK qP424 prog_14_method_63_code 3 qC424 none qH424 qX424 84 3 = true := zk_chkD_ok (T := qdt_14_63) qdo_14_63 (by decide +kernel)
set_option maxRecDepth 100000 in
/-- java/lang/Math.min(II)I UnaskedLettersModel.isBarred(IIII)Z@28 -/
def qC425 : zk_C := ((2, [], [0, 1], [(0, (0, (-2147483648), 2147483647)), (1, (0, (-2147483648), 2147483647))], [], [], [], [], [], none), [(2, [], [1], [(0, (0, (-2147483647), 2147483647)), (1, (0, (-2147483648), 2147483646))], [(1, 0, (-1))], [], [], [], [], none), (2, [], [0], [(0, (0, (-2147483648), 2147483647)), (1, (0, (-2147483648), 2147483647))], [(0, 1, 0)], [], [], [], [], none)], [], 0, 0)
set_option maxRecDepth 100000 in
def qP425 : zk_P := ([], [], [], [], [], [], [])
set_option maxRecDepth 100000 in
def qH425 : List zk_Hd := []
set_option maxRecDepth 100000 in
def qX425 : List zk_Hd := []
set_option maxRecDepth 100000 in
theorem qk425 : zk_chk qK qP425 prog_18_method_69_code 2 qC425 (some .int) qH425 qX425 66 0 = true := zk_chkD_ok (T := qdt_18_69) qdo_18_69 (by decide +kernel)
set_option maxRecDepth 100000 in
/-- UnaskedLettersModel.clean()V  -/
def qC426 : zk_C := ((1, [], [0], [(0, (2, 57, 0))], [], [], [], [], [], none), [(1, [], [], [(0, (2, 57, 0))], [], [], [], [], [], none)], [(74, 0)], 0, 0)
set_option maxRecDepth 100000 in
def qP426 : zk_P := ([(56, 12, 27, 4)], [], [], [], [], [], [])
set_option maxRecDepth 100000 in
def qH426 : List zk_Hd := [(2, (2, [(0, 0), (1, 1)], [], [(0, (2, 57, 0)), (1, (0, 0, 128))], [], [], [], [], [], none), [(1, none, none), (129, none, some 1), (1, none, none)], 0, 0)]
set_option maxRecDepth 100000 in
def qX426 : List zk_Hd := []
set_option maxRecDepth 100000 in
theorem qk426 : zk_chk qK qP426 prog_14_method_51_code 2 qC426 none qH426 qX426 71 3 = true := zk_chkD_ok (T := qdt_14_51) qdo_14_51 (by decide +kernel)
set_option maxRecDepth 100000 in
/-- java/lang/Math.min(JJ)J UnaskedLettersModel.bounded(J)I@7 -/
def qC427 : zk_C := ((2, [], [0, 1], [(0, (1, 1000000, 1000000)), (1, (1, (-9223372036854775808), 9223372036854775807))], [], [], [], [], [], none), [(2, [], [1], [(0, (1, 1000000, 1000000)), (1, (1, (-9223372036854775808), 999999))], [], [], [], [], [], none), (2, [], [0], [(0, (1, 1000000, 1000000)), (1, (1, 1000000, 9223372036854775807))], [], [], [], [], [], none)], [], 0, 0)
set_option maxRecDepth 100000 in
def qP427 : zk_P := ([], [], [], [], [], [], [])
set_option maxRecDepth 100000 in
def qH427 : List zk_Hd := []
set_option maxRecDepth 100000 in
def qX427 : List zk_Hd := []
set_option maxRecDepth 100000 in
theorem qk427 : zk_chk qK qP427 prog_18_method_70_code 4 qC427 (some .long) qH427 qX427 67 0 = true := zk_chkD_ok (T := qdt_18_70) qdo_18_70 (by decide +kernel)
set_option maxRecDepth 100000 in
/-- java/lang/Math.max(JJ)J UnaskedLettersModel.bounded(J)I@10 -/
def qC428 : zk_C := ((2, [], [0, 1], [(0, (1, (-1000000), (-1000000))), (1, (1, (-9223372036854775808), 1000000))], [], [], [], [], [], none), [(2, [], [1], [(0, (1, (-1000000), (-1000000))), (1, (1, (-999999), 1000000))], [], [], [], [], [], none), (2, [], [0], [(0, (1, (-1000000), (-1000000))), (1, (1, (-9223372036854775808), (-1000000)))], [], [], [], [], [], none)], [], 0, 0)
set_option maxRecDepth 100000 in
def qP428 : zk_P := ([], [], [], [], [], [], [])
set_option maxRecDepth 100000 in
def qH428 : List zk_Hd := []
set_option maxRecDepth 100000 in
def qX428 : List zk_Hd := []
set_option maxRecDepth 100000 in
theorem qk428 : zk_chk qK qP428 prog_18_method_66_code 4 qC428 (some .long) qH428 qX428 67 0 = true := zk_chkD_ok (T := qdt_18_66) qdo_18_66 (by decide +kernel)
set_option maxRecDepth 100000 in
/-- UnaskedLettersModel.bounded(J)I  -/
def qC429 : zk_C := ((1, [], [0], [(0, (1, (-9223372036854775808), 9223372036854775807))], [], [], [], [], [], none), [(2, [], [1], [(0, (1, (-999999), 999999)), (1, (0, (-999999), 999999))], [], [], [], [], [], none), (2, [], [1], [(0, (1, (-9223372036854775808), (-1000000))), (1, (0, (-1000000), (-1000000)))], [], [], [], [], [], none), (2, [], [1], [(0, (1, 1000000, 9223372036854775807)), (1, (0, 1000000, 1000000))], [], [], [], [], [], none)], [], 0, 0)
set_option maxRecDepth 100000 in
def qP429 : zk_P := ([], [], [], [], [(0, 3, (1, (-1000000), (-1000000))), (3, 3, (1, 1000000, 1000000))], [(7, qC427), (10, qC428)], [])
set_option maxRecDepth 100000 in
def qH429 : List zk_Hd := []
set_option maxRecDepth 100000 in
def qX429 : List zk_Hd := []
set_option maxRecDepth 100000 in
theorem qk429 : zk_chk qK qP429 prog_14_method_47_code 2 qC429 (some .int) qH429 qX429 67 0 = true := zk_chkD_ok (T := qdt_14_47) qdo_14_47 (by decide +kernel)
