/-! CONTRACTS: found by wip/an (python). -/
noncomputable section
set_option maxRecDepth 100000 in
/-- UnaskedLetters.plan(II)I  -/
def qC609 : zk_C := ((5, [], [0, 1, 2], [(0, (2, 2, 0)), (1, (0, (-2147483648), 2147483647)), (2, (0, (-2147483648), 2147483647)), (3, (0, (-2147483648), 2147483647)), (4, (0, 0, 8))], [], [(0, 13, 3), (0, 16, 4)], [], [], [], none), [(6, [], [5], [(0, (2, 2, 0)), (1, (0, (-2147483648), 2147483647)), (2, (0, (-2147483648), 2147483647)), (3, (0, (-2147483648), 2147483647)), (4, (0, 0, 8)), (5, (0, (-1), 255))], [], [(0, 13, 3), (0, 16, 4)], [], [], [], none)], [(49, 0)], 0, 0)
set_option maxRecDepth 100000 in
def qP609 : zk_P := ([(67, 11, 8, 4), (88, 11, 13, 0), (382, 11, 16, 0)], [], [], [], [], [(29, qC394), (34, qC605), (40, qC605), (68, qC606), (78, qC607), (101, qC556), (123, qC608)], [])
set_option maxRecDepth 100000 in
def qH609 : List zk_Hd := [(54, (12, [(0, 0), (1, 1), (2, 2), (3, 5), (4, 6), (5, 7), (6, 8), (7, 9)], [], [(0, (2, 2, 0)), (1, (0, 0, 30)), (2, (0, 0, 1)), (3, (0, (-2147483648), 2147483647)), (4, (0, 0, 8)), (5, (0, (-2147483648), 2147483647)), (6, (0, (-2147483648), 2147483647)), (7, (0, 0, 255)), (8, (0, 0, 63)), (9, (0, 1, 256)), (10, (0, 0, 120)), (11, (2, 44, 0))], [(7, 9, (-1))], [(0, 13, 3), (0, 15, 10), (0, 16, 4), (0, 8, 11)], [], [], [], none), [(1, none, none), (256, none, some 7), (1, none, none), (257, none, some 9), (1, none, none)], 0, 0)]
set_option maxRecDepth 100000 in
def qX609 : List zk_Hd := []
set_option maxRecDepth 100000 in
theorem qk609 : zk_chk qK qP609 prog_1_method_37_code 11 qC609 (some .int) qH609 qX609 103 5 = true := zk_chkD_ok (T := qdt_1_37) qdo_1_37 (by decide +kernel)
set_option maxRecDepth 100000 in
/-- UnaskedLettersModel.in(III)Z UnaskedLettersModel.plan(II)I@4 -/
def qC610 : zk_C := ((3, [], [0, 1, 2], [(0, (0, (-2147483648), 2147483647)), (1, (0, 0, 0)), (2, (0, 30, 30))], [], [], [], [], [], none), [(4, [], [3], [(0, (0, (-2147483648), (-1))), (1, (0, 0, 0)), (2, (0, 30, 30)), (3, (0, 0, 0))], [], [], [], [], [], none), (4, [], [3], [(0, (0, 31, 2147483647)), (1, (0, 0, 0)), (2, (0, 30, 30)), (3, (0, 0, 0))], [], [], [], [], [], none), (4, [], [3], [(0, (0, 0, 30)), (1, (0, 0, 0)), (2, (0, 30, 30)), (3, (0, 1, 1))], [], [], [], [], [], none)], [], 0, 0)
set_option maxRecDepth 100000 in
def qP610 : zk_P := ([], [], [], [], [], [], [])
set_option maxRecDepth 100000 in
def qH610 : List zk_Hd := []
set_option maxRecDepth 100000 in
def qX610 : List zk_Hd := []
set_option maxRecDepth 100000 in
theorem qk610 : zk_chk qK qP610 prog_14_method_1_code 3 qC610 (some .boolean) qH610 qX610 69 0 = true := zk_chkD_ok (T := qdt_14_1) qdo_14_1 (by decide +kernel)
set_option maxRecDepth 100000 in
/-- UnaskedLettersModel.in(III)Z UnaskedLettersModel.plan(II)I@13 -/
def qC611 : zk_C := ((3, [], [0, 1, 2], [(0, (0, (-2147483648), 2147483647)), (1, (0, 0, 0)), (2, (0, 1, 1))], [], [], [], [], [], none), [(4, [], [3], [(0, (0, (-2147483648), (-1))), (1, (0, 0, 0)), (2, (0, 1, 1)), (3, (0, 0, 0))], [], [], [], [], [], none), (4, [], [3], [(0, (0, 2, 2147483647)), (1, (0, 0, 0)), (2, (0, 1, 1)), (3, (0, 0, 0))], [], [], [], [], [], none), (4, [], [3], [(0, (0, 0, 1)), (1, (0, 0, 0)), (2, (0, 1, 1)), (3, (0, 1, 1))], [], [], [], [], [], none)], [], 0, 0)
set_option maxRecDepth 100000 in
def qP611 : zk_P := ([], [], [], [], [], [], [])
set_option maxRecDepth 100000 in
def qH611 : List zk_Hd := []
set_option maxRecDepth 100000 in
def qX611 : List zk_Hd := []
set_option maxRecDepth 100000 in
theorem qk611 : zk_chk qK qP611 prog_14_method_1_code 3 qC611 (some .boolean) qH611 qX611 69 0 = true := zk_chkD_ok (T := qdt_14_1) qdo_14_1 (by decide +kernel)
set_option maxRecDepth 100000 in
/-- UnaskedLettersModel.stopped(II)I  -/
def qC612 : zk_C := ((4, [], [0, 1, 2], [(0, (2, 57, 0)), (1, (0, 0, 1000)), (2, (0, 0, 1)), (3, (0, 0, 8))], [], [(0, 70, 3)], [], [], [], none), [(6, [], [4], [(0, (2, 57, 0)), (1, (0, 0, 1000)), (2, (0, 0, 1)), (3, (0, 0, 8)), (4, (0, 0, 30)), (5, (0, 0, 30))], [], [(0, 44, 5), (0, 70, 3)], [], [], [], none), (6, [], [4], [(0, (2, 57, 0)), (1, (0, 0, 1000)), (2, (0, 0, 1)), (3, (0, 0, 8)), (4, (0, 0, 30)), (5, (0, 31, 120))], [], [(0, 44, 5), (0, 70, 3)], [], [], [], none)], [], 0, 0)
set_option maxRecDepth 100000 in
def qP612 : zk_P := ([(463, 12, 70, 0), (153, 12, 69, 4), (341, 12, 44, 0), (111, 12, 48, 4)], [], [], [], [], [], [])
set_option maxRecDepth 100000 in
def qH612 : List zk_Hd := [(5, (6, [(0, 0), (1, 1), (2, 2), (3, 4), (4, 5)], [], [(0, (2, 57, 0)), (1, (0, 0, 1000)), (2, (0, 0, 1)), (3, (0, 0, 8)), (4, (0, (-2147483648), 2147483647)), (5, (0, 0, 8))], [(5, 3, 0)], [(0, 70, 3)], [], [], [], none), [(2, none, none), (9, none, some 5), (1, none, none)], 0, 0), (50, (7, [(0, 0), (2, 2), (3, 4), (4, 5), (5, 6)], [], [(0, (2, 57, 0)), (1, (0, 0, 1000)), (2, (0, 0, 1)), (3, (0, 0, 8)), (4, (0, (-2147483648), 2147483647)), (5, (0, 0, 30)), (6, (0, 0, 30))], [(5, 6, 0)], [(0, 70, 3)], [], [], [], none), [(1, none, none), (31, none, some 6), (1, none, none)], 0, 0)]
set_option maxRecDepth 100000 in
def qX612 : List zk_Hd := []
set_option maxRecDepth 100000 in
theorem qk612 : zk_chk qK qP612 prog_14_method_99_code 6 qC612 (some .int) qH612 qX612 88 3 = true := zk_chkD_ok (T := qdt_14_99) qdo_14_99 (by decide +kernel)
set_option maxRecDepth 100000 in
/-- java/lang/Integer.bitCount(I)I UnaskedLettersModel.plan(II)I@96 -/
def qC613 : zk_C := ((1, [], [0], [(0, (0, 0, 254))], [], [], [], [], [], none), [(2, [], [1], [(0, (0, 0, 254)), (1, (0, 0, 63))], [], [], [], [], [], none)], [], 0, 0)
set_option maxRecDepth 100000 in
def qP613 : zk_P := ([], [], [], [], [(4, 3, (0, 1431655765, 1431655765)), (11, 3, (0, 858993459, 858993459)), (18, 3, (0, 858993459, 858993459)), (29, 3, (0, 252645135, 252645135))], [], [])
set_option maxRecDepth 100000 in
def qH613 : List zk_Hd := []
set_option maxRecDepth 100000 in
def qX613 : List zk_Hd := []
set_option maxRecDepth 100000 in
theorem qk613 : zk_chk qK qP613 prog_17_method_49_code 1 qC613 (some .int) qH613 qX613 102 0 = true := zk_chkD_ok (T := qdt_17_49) qdo_17_49 (by decide +kernel)
set_option maxRecDepth 100000 in
/-- java/lang/Integer.bitCount(I)I UnaskedLettersModel.plan(II)I@101 -/
def qC614 : zk_C := ((1, [], [0], [(0, (0, 1, 255))], [], [], [], [], [], none), [(2, [], [1], [(0, (0, 1, 255)), (1, (0, 0, 63))], [], [], [], [], [], none)], [], 0, 0)
set_option maxRecDepth 100000 in
def qP614 : zk_P := ([], [], [], [], [(4, 3, (0, 1431655765, 1431655765)), (11, 3, (0, 858993459, 858993459)), (18, 3, (0, 858993459, 858993459)), (29, 3, (0, 252645135, 252645135))], [], [])
set_option maxRecDepth 100000 in
def qH614 : List zk_Hd := []
set_option maxRecDepth 100000 in
def qX614 : List zk_Hd := []
set_option maxRecDepth 100000 in
theorem qk614 : zk_chk qK qP614 prog_17_method_49_code 1 qC614 (some .int) qH614 qX614 102 0 = true := zk_chkD_ok (T := qdt_17_49) qdo_17_49 (by decide +kernel)
set_option maxRecDepth 100000 in
/-- UnaskedLettersModel.plan(II)I  -/
def qC615 : zk_C := ((5, [], [0, 1, 2], [(0, (2, 57, 0)), (1, (0, (-2147483648), 2147483647)), (2, (0, (-2147483648), 2147483647)), (3, (0, (-2147483648), 2147483647)), (4, (0, 0, 8))], [], [(0, 0, 3), (0, 70, 4)], [], [], [], none), [(6, [], [5], [(0, (2, 57, 0)), (1, (0, (-2147483648), 2147483647)), (2, (0, (-2147483648), 2147483647)), (3, (0, (-2147483648), 2147483647)), (4, (0, 0, 8)), (5, (0, (-1), 255))], [], [(0, 0, 3), (0, 70, 4)], [], [], [], none)], [(92, 0)], 0, 0)
set_option maxRecDepth 100000 in
def qP615 : zk_P := ([(156, 12, 0, 0), (463, 12, 70, 0)], [], [], [], [], [(4, qC610), (13, qC611), (26, qC422), (52, qC612), (66, qC612), (96, qC613), (101, qC614)], [])
set_option maxRecDepth 100000 in
def qH615 : List zk_Hd := [(37, (8, [(0, 0), (1, 1), (2, 2), (3, 5), (4, 6), (5, 7)], [], [(0, (2, 57, 0)), (1, (0, 0, 30)), (2, (0, 0, 1)), (3, (0, (-2147483648), 2147483647)), (4, (0, 0, 8)), (5, (0, (-1), 255)), (6, (0, (-1), 30)), (7, (0, 0, 256))], [(5, 7, (-1))], [(0, 0, 3), (0, 70, 4)], [], [], [], none), [(1, none, none), (256, none, some 5), (1, none, none), (257, none, some 7), (1, none, none)], 0, 0)]
set_option maxRecDepth 100000 in
def qX615 : List zk_Hd := []
set_option maxRecDepth 100000 in
theorem qk615 : zk_chk qK qP615 prog_14_method_100_code 9 qC615 (some .int) qH615 qX615 117 5 = true := zk_chkD_ok (T := qdt_14_100) qdo_14_100 (by decide +kernel)
set_option maxRecDepth 100000 in
/-- UnaskedLetters.inState(I)I  -/
def qC616 : zk_C := ((2, [], [0, 1], [(0, (2, 2, 0)), (1, (0, 1, 5))], [], [], [], [], [], none), [(3, [], [2], [(0, (2, 2, 0)), (1, (0, 1, 5)), (2, (0, 0, 120))], [], [], [], [], [], none)], [], 0, 0)
set_option maxRecDepth 100000 in
def qP616 : zk_P := ([(181, 11, 15, 0), (60, 11, 7, 4), (235, 1, 5, 0)], [], [], [], [], [], [])
set_option maxRecDepth 100000 in
def qH616 : List zk_Hd := [(4, (4, [(0, 0), (1, 1), (2, 2), (3, 3)], [], [(0, (2, 2, 0)), (1, (0, 1, 5)), (2, (0, 0, 120)), (3, (0, 0, 120))], [(2, 3, 0)], [], [], [], [], none), [(1, none, none), (121, none, some 2), (1, none, none), (121, none, some 3), (1, none, none)], 0, 0)]
set_option maxRecDepth 100000 in
def qX616 : List zk_Hd := []
set_option maxRecDepth 100000 in
theorem qk616 : zk_chk qK qP616 prog_1_method_44_code 4 qC616 (some .int) qH616 qX616 79 5 = true := zk_chkD_ok (T := qdt_1_44) qdo_1_44 (by decide +kernel)
set_option maxRecDepth 100000 in
/-- UnaskedLetters.count(I)I  -/
def qC617 : zk_C := ((9, [], [0, 1], [(0, (2, 2, 0)), (1, (0, (-2147483648), 2147483647)), (2, (2, 4, 0)), (3, (0, (-2147483648), 2147483647)), (4, (0, 0, 4)), (5, (0, 0, 8)), (6, (2, 27, 0)), (7, (0, 0, 12)), (8, (0, 0, 40))], [], [(0, 0, 2), (0, 13, 3), (0, 14, 4), (0, 16, 5), (0, 5, 6), (2, 6, 7), (2, 7, 8)], [], [], [], none), [(10, [], [9], [(0, (2, 2, 0)), (1, (0, (-2147483648), 2147483647)), (2, (2, 4, 0)), (3, (0, (-2147483648), 2147483647)), (4, (0, 0, 4)), (5, (0, 0, 8)), (6, (2, 27, 0)), (7, (0, 0, 12)), (8, (0, 0, 40)), (9, (0, (-2147483648), 2147483647))], [], [(0, 0, 2), (0, 13, 3), (0, 14, 4), (0, 16, 5), (0, 5, 6), (2, 6, 7), (2, 7, 8)], [], [], [], none)], [], 0, 0)
set_option maxRecDepth 100000 in
def qP617 : zk_P := ([(88, 11, 13, 0), (10, 11, 0, 4), (172, 4, 6, 0), (391, 4, 7, 0), (181, 11, 15, 0), (47, 11, 5, 4), (397, 5, 5, 0), (155, 11, 14, 0), (67, 11, 8, 4), (400, 3, 4, 0), (54, 11, 6, 4), (340, 10, 4, 0), (382, 11, 16, 0), (19, 11, 1, 4), (120, 8, 1, 0)], [], [], [], [], [(100, qC616), (106, qC616), (112, qC616), (118, qC616)], [])
set_option maxRecDepth 100000 in
def qH617 : List zk_Hd := []
set_option maxRecDepth 100000 in
def qX617 : List zk_Hd := []
set_option maxRecDepth 100000 in
theorem qk617 : zk_chk qK qP617 prog_1_method_38_code 2 qC617 (some .int) qH617 qX617 66 0 = true := zk_chkD_ok (T := qdt_1_38) qdo_1_38 (by decide +kernel)
set_option maxRecDepth 100000 in
/-- UnaskedLettersModel.inState(I)I  -/
def qC618 : zk_C := ((2, [], [0, 1], [(0, (2, 57, 0)), (1, (0, 1, 5))], [], [], [], [], [], none), [(3, [], [2], [(0, (2, 57, 0)), (1, (0, 1, 5)), (2, (0, 0, 120))], [], [], [], [], [], none)], [], 0, 0)
set_option maxRecDepth 100000 in
def qP618 : zk_P := ([(341, 12, 44, 0), (90, 12, 40, 4)], [], [], [], [], [], [])
set_option maxRecDepth 100000 in
def qH618 : List zk_Hd := [(4, (4, [(0, 0), (1, 1), (2, 2), (3, 3)], [], [(0, (2, 57, 0)), (1, (0, 1, 5)), (2, (0, 0, 120)), (3, (0, 0, 120))], [(2, 3, 0)], [], [], [], [], none), [(1, none, none), (121, none, some 2), (1, none, none), (121, none, some 3), (1, none, none)], 0, 0)]
set_option maxRecDepth 100000 in
def qX618 : List zk_Hd := []
set_option maxRecDepth 100000 in
theorem qk618 : zk_chk qK qP618 prog_14_method_101_code 4 qC618 (some .int) qH618 qX618 78 5 = true := zk_chkD_ok (T := qdt_14_101) qdo_14_101 (by decide +kernel)
set_option maxRecDepth 100000 in
/-- UnaskedLettersModel.count(I)I  -/
def qC619 : zk_C := ((7, [], [0, 1], [(0, (2, 57, 0)), (1, (0, (-2147483648), 2147483647)), (2, (0, (-2147483648), 2147483647)), (3, (0, 0, 4)), (4, (0, 0, 12)), (5, (0, 0, 40)), (6, (0, 0, 8))], [], [(0, 0, 2), (0, 57, 3), (0, 6, 4), (0, 7, 5), (0, 70, 6)], [], [], [], none), [(8, [], [7], [(0, (2, 57, 0)), (1, (0, (-2147483648), 2147483647)), (2, (0, (-2147483648), 2147483647)), (3, (0, 0, 4)), (4, (0, 0, 12)), (5, (0, 0, 40)), (6, (0, 0, 8)), (7, (0, (-2147483648), 2147483647))], [], [(0, 0, 2), (0, 57, 3), (0, 6, 4), (0, 7, 5), (0, 70, 6)], [], [], [], none)], [], 0, 0)
set_option maxRecDepth 100000 in
def qP619 : zk_P := ([(156, 12, 0, 0), (164, 12, 6, 0), (167, 12, 7, 0), (341, 12, 44, 0), (301, 12, 26, 0), (298, 12, 57, 0), (366, 12, 49, 0), (443, 12, 65, 0), (463, 12, 70, 0), (181, 12, 9, 0)], [], [], [], [], [(94, qC618), (100, qC618), (106, qC618), (112, qC618)], [])
set_option maxRecDepth 100000 in
def qH619 : List zk_Hd := []
set_option maxRecDepth 100000 in
def qX619 : List zk_Hd := []
set_option maxRecDepth 100000 in
theorem qk619 : zk_chk qK qP619 prog_14_method_102_code 2 qC619 (some .int) qH619 qX619 66 0 = true := zk_chkD_ok (T := qdt_14_102) qdo_14_102 (by decide +kernel)
end
