/-! CONTRACTS: found by wip/an (python). -/
set_option maxRecDepth 100000 in
/-- UnaskedLettersModel.in(III)Z UnaskedLettersModel.measure(I)I@5 -/
def qC605 : zk_C := ((3, [], [0, 1, 2], [(0, (0, (-2147483648), 2147483647)), (1, (0, 0, 0)), (2, (0, 1073741823, 1073741823))], [], [], [], [], [], none), [(4, [], [3], [(0, (0, (-2147483648), (-1))), (1, (0, 0, 0)), (2, (0, 1073741823, 1073741823)), (3, (0, 0, 0))], [], [], [], [], [], none), (4, [], [3], [(0, (0, 1073741824, 2147483647)), (1, (0, 0, 0)), (2, (0, 1073741823, 1073741823)), (3, (0, 0, 0))], [], [], [], [], [], none), (4, [], [3], [(0, (0, 0, 1073741823)), (1, (0, 0, 0)), (2, (0, 1073741823, 1073741823)), (3, (0, 1, 1))], [], [], [], [], [], none)], [], 0, 0)
set_option maxRecDepth 100000 in
def qP605 : zk_P := ([], [], [], [], [], [], [])
set_option maxRecDepth 100000 in
def qH605 : List zk_Hd := []
set_option maxRecDepth 100000 in
def qX605 : List zk_Hd := []
set_option maxRecDepth 100000 in
theorem qk605 : zk_chk qK qP605 prog_14_method_1_code 3 qC605 (some .boolean) qH605 qX605 69 0 = true := zk_chkD_ok (T := qdt_14_1) qdo_14_1 (by decide +kernel)
set_option maxRecDepth 100000 in
/-- UnaskedLettersModel.measure(I)I  -/
def qC606 : zk_C := ((3, [], [0, 1], [(0, (2, 57, 0)), (1, (0, (-2147483648), 2147483647)), (2, (0, 0, 8))], [], [(0, 70, 2)], [], [], [], none), [(4, [], [3], [(0, (2, 57, 0)), (1, (0, (-2147483648), (-1))), (2, (0, 0, 8)), (3, (0, (-1), (-1)))], [], [(0, 70, 2)], [], [], [], none), (4, [], [3], [(0, (2, 57, 0)), (1, (0, 1073741824, 2147483647)), (2, (0, 0, 8)), (3, (0, (-1), (-1)))], [], [(0, 70, 2)], [], [], [], none), (5, [], [3], [(0, (2, 57, 0)), (1, (0, 0, 1073741823)), (2, (0, 0, 7)), (3, (0, 0, 7)), (4, (0, 1, 8))], [(2, 3, 0), (2, 4, (-1)), (3, 2, 0), (3, 4, (-1)), (4, 2, 1), (4, 3, 1)], [(0, 70, 4)], [], [], [], none), (4, [], [3], [(0, (2, 57, 0)), (1, (0, 0, 1073741823)), (2, (0, 8, 8)), (3, (0, (-1), (-1)))], [], [(0, 70, 2)], [], [], [], none)], [(57, 70), (106, 0)], 0, 0)
set_option maxRecDepth 100000 in
def qP606 : zk_P := ([(463, 12, 70, 0), (153, 12, 69, 4)], [], [], [], [(2, 3, (0, 1073741823, 1073741823))], [(5, qC605)], [])
set_option maxRecDepth 100000 in
def qH606 : List zk_Hd := []
set_option maxRecDepth 100000 in
def qX606 : List zk_Hd := []
set_option maxRecDepth 100000 in
theorem qk606 : zk_chk qK qP606 prog_14_method_98_code 2 qC606 (some .int) qH606 qX606 86 0 = true := zk_chkD_ok (T := qdt_14_98) qdo_14_98 (by decide +kernel)
set_option maxRecDepth 100000 in
/-- UnaskedLetters.markedBits(I)I  -/
def qC607 : zk_C := ((3, [], [0, 1], [(0, (2, 2, 0)), (1, (0, 1, 2)), (2, (2, 44, 0))], [], [(0, 8, 2)], [], [], [], none), [(5, [], [3], [(0, (2, 2, 0)), (1, (0, 1, 2)), (2, (2, 44, 0)), (3, (0, (-2147483648), 2147483647)), (4, (0, 0, 30))], [], [(0, 15, 4), (0, 8, 2)], [], [], [], none), (5, [], [3], [(0, (2, 2, 0)), (1, (0, 1, 2)), (2, (2, 44, 0)), (3, (0, (-2147483648), 2147483647)), (4, (0, 31, 120))], [], [(0, 15, 4), (0, 8, 2)], [], [], [], none)], [], 0, 0)
set_option maxRecDepth 100000 in
def qP607 : zk_P := ([(181, 11, 15, 0), (67, 11, 8, 4), (289, 3, 3, 4)], [], [], [], [], [], [])
set_option maxRecDepth 100000 in
def qH607 : List zk_Hd := [(4, (5, [(0, 0), (1, 1), (2, 3), (3, 4)], [], [(0, (2, 2, 0)), (1, (0, 1, 2)), (2, (2, 44, 0)), (3, (0, (-2147483648), 2147483647)), (4, (0, 0, 30))], [], [(0, 8, 2)], [], [], [], none), [(1, none, none), (31, none, some 4), (1, none, none)], 0, 0)]
set_option maxRecDepth 100000 in
def qX607 : List zk_Hd := []
set_option maxRecDepth 100000 in
theorem qk607 : zk_chk qK qP607 prog_1_method_60_code 4 qC607 (some .int) qH607 qX607 84 3 = true := zk_chkD_ok (T := qdt_1_60) qdo_1_60 (by decide +kernel)
set_option maxRecDepth 100000 in
/-- UnaskedLetters.stoppedBy(I)I  -/
def qC608 : zk_C := ((3, [], [0, 1], [(0, (2, 2, 0)), (1, (0, 1, 1000)), (2, (0, 0, 8))], [], [(0, 16, 2)], [], [], [], none), [(4, [], [3], [(0, (2, 2, 0)), (1, (0, 1, 1000)), (2, (0, 0, 8)), (3, (0, (-2147483648), 2147483647))], [], [(0, 16, 2)], [], [], [], none)], [], 0, 0)
set_option maxRecDepth 100000 in
def qP608 : zk_P := ([(382, 11, 16, 0), (78, 11, 10, 4)], [], [], [], [], [], [])
set_option maxRecDepth 100000 in
def qH608 : List zk_Hd := [(4, (5, [(0, 0), (1, 1), (2, 3), (3, 4)], [], [(0, (2, 2, 0)), (1, (0, 1, 1000)), (2, (0, 0, 8)), (3, (0, (-2147483648), 2147483647)), (4, (0, 0, 8))], [(4, 2, 0)], [(0, 16, 2)], [], [], [], none), [(1, none, none), (9, none, some 4), (1, none, none)], 0, 0)]
set_option maxRecDepth 100000 in
def qX608 : List zk_Hd := []
set_option maxRecDepth 100000 in
theorem qk608 : zk_chk qK qP608 prog_1_method_61_code 4 qC608 (some .int) qH608 qX608 81 3 = true := zk_chkD_ok (T := qdt_1_61) qdo_1_61 (by decide +kernel)
set_option maxRecDepth 100000 in
/-- java/lang/Integer.bitCount(I)I UnaskedLetters.plan(II)I@78 -/
def qC609 : zk_C := ((1, [], [0], [(0, (0, (-2147483648), 2147483647))], [], [], [], [], [], none), [(2, [], [1], [(0, (0, (-2147483648), 2147483647)), (1, (0, 0, 63))], [], [], [], [], [], none)], [], 0, 0)
set_option maxRecDepth 100000 in
def qP609 : zk_P := ([], [], [], [], [(4, 3, (0, 1431655765, 1431655765)), (11, 3, (0, 858993459, 858993459)), (18, 3, (0, 858993459, 858993459)), (29, 3, (0, 252645135, 252645135))], [], [])
set_option maxRecDepth 100000 in
def qH609 : List zk_Hd := []
set_option maxRecDepth 100000 in
def qX609 : List zk_Hd := []
set_option maxRecDepth 100000 in
theorem qk609 : zk_chk qK qP609 prog_17_method_49_code 1 qC609 (some .int) qH609 qX609 102 0 = true := zk_chkD_ok (T := qdt_17_49) qdo_17_49 (by decide +kernel)
set_option maxRecDepth 100000 in
/-- java/lang/Integer.bitCount(I)I UnaskedLetters.plan(II)I@123 -/
def qC610 : zk_C := ((1, [], [0], [(0, (0, (-2147483648), 2147483647))], [], [], [], [], [], none), [(2, [], [1], [(0, (0, (-2147483648), 2147483647)), (1, (0, 0, 63))], [], [], [], [], [], none)], [], 0, 0)
set_option maxRecDepth 100000 in
def qP610 : zk_P := ([], [], [], [], [(4, 3, (0, 1431655765, 1431655765)), (11, 3, (0, 858993459, 858993459)), (18, 3, (0, 858993459, 858993459)), (29, 3, (0, 252645135, 252645135))], [], [])
set_option maxRecDepth 100000 in
def qH610 : List zk_Hd := []
set_option maxRecDepth 100000 in
def qX610 : List zk_Hd := []
set_option maxRecDepth 100000 in
theorem qk610 : zk_chk qK qP610 prog_17_method_49_code 1 qC610 (some .int) qH610 qX610 102 0 = true := zk_chkD_ok (T := qdt_17_49) qdo_17_49 (by decide +kernel)
set_option maxRecDepth 100000 in
/-- UnaskedLetters.plan(II)I  -/
def qC611 : zk_C := ((5, [], [0, 1, 2], [(0, (2, 2, 0)), (1, (0, (-2147483648), 2147483647)), (2, (0, (-2147483648), 2147483647)), (3, (0, (-2147483648), 2147483647)), (4, (0, 0, 8))], [], [(0, 13, 3), (0, 16, 4)], [], [], [], none), [(6, [], [5], [(0, (2, 2, 0)), (1, (0, (-2147483648), 2147483647)), (2, (0, (-2147483648), 2147483647)), (3, (0, (-2147483648), 2147483647)), (4, (0, 0, 8)), (5, (0, (-1), 255))], [], [(0, 13, 3), (0, 16, 4)], [], [], [], none)], [(49, 0)], 0, 0)
set_option maxRecDepth 100000 in
def qP611 : zk_P := ([(67, 11, 8, 4), (88, 11, 13, 0), (382, 11, 16, 0)], [], [], [], [], [(29, qC396), (34, qC607), (40, qC607), (68, qC608), (78, qC609), (101, qC558), (123, qC610)], [])
set_option maxRecDepth 100000 in
def qH611 : List zk_Hd := [(54, (12, [(0, 0), (1, 1), (2, 2), (3, 5), (4, 6), (5, 7), (6, 8), (7, 9)], [], [(0, (2, 2, 0)), (1, (0, 0, 30)), (2, (0, 0, 1)), (3, (0, (-2147483648), 2147483647)), (4, (0, 0, 8)), (5, (0, (-2147483648), 2147483647)), (6, (0, (-2147483648), 2147483647)), (7, (0, 0, 255)), (8, (0, 0, 63)), (9, (0, 1, 256)), (10, (0, 0, 120)), (11, (2, 44, 0))], [(7, 9, (-1))], [(0, 13, 3), (0, 15, 10), (0, 16, 4), (0, 8, 11)], [], [], [], none), [(1, none, none), (256, none, some 7), (1, none, none), (257, none, some 9), (1, none, none)], 0, 0)]
set_option maxRecDepth 100000 in
def qX611 : List zk_Hd := []
set_option maxRecDepth 100000 in
theorem qk611 : zk_chk qK qP611 prog_1_method_37_code 11 qC611 (some .int) qH611 qX611 103 5 = true := zk_chkD_ok (T := qdt_1_37) qdo_1_37 (by decide +kernel)
set_option maxRecDepth 100000 in
/-- UnaskedLettersModel.in(III)Z UnaskedLettersModel.plan(II)I@4 -/
def qC612 : zk_C := ((3, [], [0, 1, 2], [(0, (0, (-2147483648), 2147483647)), (1, (0, 0, 0)), (2, (0, 30, 30))], [], [], [], [], [], none), [(4, [], [3], [(0, (0, (-2147483648), (-1))), (1, (0, 0, 0)), (2, (0, 30, 30)), (3, (0, 0, 0))], [], [], [], [], [], none), (4, [], [3], [(0, (0, 31, 2147483647)), (1, (0, 0, 0)), (2, (0, 30, 30)), (3, (0, 0, 0))], [], [], [], [], [], none), (4, [], [3], [(0, (0, 0, 30)), (1, (0, 0, 0)), (2, (0, 30, 30)), (3, (0, 1, 1))], [], [], [], [], [], none)], [], 0, 0)
set_option maxRecDepth 100000 in
def qP612 : zk_P := ([], [], [], [], [], [], [])
set_option maxRecDepth 100000 in
def qH612 : List zk_Hd := []
set_option maxRecDepth 100000 in
def qX612 : List zk_Hd := []
set_option maxRecDepth 100000 in
theorem qk612 : zk_chk qK qP612 prog_14_method_1_code 3 qC612 (some .boolean) qH612 qX612 69 0 = true := zk_chkD_ok (T := qdt_14_1) qdo_14_1 (by decide +kernel)
set_option maxRecDepth 100000 in
/-- UnaskedLettersModel.in(III)Z UnaskedLettersModel.plan(II)I@13 -/
def qC613 : zk_C := ((3, [], [0, 1, 2], [(0, (0, (-2147483648), 2147483647)), (1, (0, 0, 0)), (2, (0, 1, 1))], [], [], [], [], [], none), [(4, [], [3], [(0, (0, (-2147483648), (-1))), (1, (0, 0, 0)), (2, (0, 1, 1)), (3, (0, 0, 0))], [], [], [], [], [], none), (4, [], [3], [(0, (0, 2, 2147483647)), (1, (0, 0, 0)), (2, (0, 1, 1)), (3, (0, 0, 0))], [], [], [], [], [], none), (4, [], [3], [(0, (0, 0, 1)), (1, (0, 0, 0)), (2, (0, 1, 1)), (3, (0, 1, 1))], [], [], [], [], [], none)], [], 0, 0)
set_option maxRecDepth 100000 in
def qP613 : zk_P := ([], [], [], [], [], [], [])
set_option maxRecDepth 100000 in
def qH613 : List zk_Hd := []
set_option maxRecDepth 100000 in
def qX613 : List zk_Hd := []
set_option maxRecDepth 100000 in
theorem qk613 : zk_chk qK qP613 prog_14_method_1_code 3 qC613 (some .boolean) qH613 qX613 69 0 = true := zk_chkD_ok (T := qdt_14_1) qdo_14_1 (by decide +kernel)
set_option maxRecDepth 100000 in
/-- UnaskedLettersModel.stopped(II)I  -/
def qC614 : zk_C := ((4, [], [0, 1, 2], [(0, (2, 57, 0)), (1, (0, 0, 1000)), (2, (0, 0, 1)), (3, (0, 0, 8))], [], [(0, 70, 3)], [], [], [], none), [(6, [], [4], [(0, (2, 57, 0)), (1, (0, 0, 1000)), (2, (0, 0, 1)), (3, (0, 0, 8)), (4, (0, 0, 30)), (5, (0, 0, 30))], [], [(0, 44, 5), (0, 70, 3)], [], [], [], none), (6, [], [4], [(0, (2, 57, 0)), (1, (0, 0, 1000)), (2, (0, 0, 1)), (3, (0, 0, 8)), (4, (0, 0, 30)), (5, (0, 31, 120))], [], [(0, 44, 5), (0, 70, 3)], [], [], [], none)], [], 0, 0)
set_option maxRecDepth 100000 in
def qP614 : zk_P := ([(463, 12, 70, 0), (153, 12, 69, 4), (341, 12, 44, 0), (111, 12, 48, 4)], [], [], [], [], [], [])
set_option maxRecDepth 100000 in
def qH614 : List zk_Hd := [(5, (6, [(0, 0), (1, 1), (2, 2), (3, 4), (4, 5)], [], [(0, (2, 57, 0)), (1, (0, 0, 1000)), (2, (0, 0, 1)), (3, (0, 0, 8)), (4, (0, (-2147483648), 2147483647)), (5, (0, 0, 8))], [(5, 3, 0)], [(0, 70, 3)], [], [], [], none), [(2, none, none), (9, none, some 5), (1, none, none)], 0, 0), (50, (7, [(0, 0), (2, 2), (3, 4), (4, 5), (5, 6)], [], [(0, (2, 57, 0)), (1, (0, 0, 1000)), (2, (0, 0, 1)), (3, (0, 0, 8)), (4, (0, (-2147483648), 2147483647)), (5, (0, 0, 30)), (6, (0, 0, 30))], [(5, 6, 0)], [(0, 70, 3)], [], [], [], none), [(1, none, none), (31, none, some 6), (1, none, none)], 0, 0)]
set_option maxRecDepth 100000 in
def qX614 : List zk_Hd := []
set_option maxRecDepth 100000 in
theorem qk614 : zk_chk qK qP614 prog_14_method_99_code 6 qC614 (some .int) qH614 qX614 88 3 = true := zk_chkD_ok (T := qdt_14_99) qdo_14_99 (by decide +kernel)
set_option maxRecDepth 100000 in
/-- java/lang/Integer.bitCount(I)I UnaskedLettersModel.plan(II)I@96 -/
def qC615 : zk_C := ((1, [], [0], [(0, (0, 0, 254))], [], [], [], [], [], none), [(2, [], [1], [(0, (0, 0, 254)), (1, (0, 0, 63))], [], [], [], [], [], none)], [], 0, 0)
set_option maxRecDepth 100000 in
def qP615 : zk_P := ([], [], [], [], [(4, 3, (0, 1431655765, 1431655765)), (11, 3, (0, 858993459, 858993459)), (18, 3, (0, 858993459, 858993459)), (29, 3, (0, 252645135, 252645135))], [], [])
set_option maxRecDepth 100000 in
def qH615 : List zk_Hd := []
set_option maxRecDepth 100000 in
def qX615 : List zk_Hd := []
set_option maxRecDepth 100000 in
theorem qk615 : zk_chk qK qP615 prog_17_method_49_code 1 qC615 (some .int) qH615 qX615 102 0 = true := zk_chkD_ok (T := qdt_17_49) qdo_17_49 (by decide +kernel)
