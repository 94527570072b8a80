/-! CONTRACTS: found by wip/an (python). -/
set_option maxRecDepth 100000 in
/-- UnaskedLettersModel.findRound(II)Z  -/
def qC587 : zk_C := ((3, [], [0, 1, 2], [(0, (2, 57, 0)), (1, (0, (-2147483648), 2147483647)), (2, (0, (-2147483648), 2147483647))], [], [], [], [], [], none), [(6, [], [3], [(0, (2, 57, 0)), (1, (0, 0, 119)), (2, (0, (-2147483648), 2147483647)), (3, (0, 1, 1)), (4, (0, 0, 255)), (5, (0, (-2147483648), 256))], [], [(0, 66, 4), (0, 67, 5)], [], [], [], none), (4, [], [3], [(0, (2, 57, 0)), (1, (0, (-2147483648), (-1))), (2, (0, (-2147483648), 2147483647)), (3, (0, 0, 0))], [], [], [], [], [], none), (4, [], [3], [(0, (2, 57, 0)), (1, (0, 0, 2147483647)), (2, (0, (-2147483648), 2147483647)), (3, (0, 0, 0))], [], [], [], [], [], none)], [(57, 52), (57, 66), (57, 67), (92, 0), (93, 0), (94, 0), (104, 0)], 0, 0)
set_option maxRecDepth 100000 in
def qP587 : zk_P := ([(156, 12, 0, 0), (446, 12, 66, 0), (449, 12, 67, 0), (443, 12, 65, 0)], [], [], [], [], [(2, qC477), (15, qC424), (41, qC582), (65, qC583), (80, qC586)], [])
set_option maxRecDepth 100000 in
def qH587 : List zk_Hd := [(30, (7, [(0, 0), (1, 1), (2, 2), (3, 3)], [], [(0, (2, 57, 0)), (1, (0, 0, 119)), (2, (0, (-2147483648), 2147483647)), (3, (0, 0, 256)), (4, (0, (-2147483648), 2147483647)), (5, (0, (-1), 255)), (6, (0, (-2147483648), 256))], [(5, 3, (-1)), (6, 3, 0)], [(0, 0, 4), (0, 66, 5), (0, 67, 6)], [], [], [], none), [(1, none, none), (257, none, some 3), (1, none, none)], 0, 0)]
set_option maxRecDepth 100000 in
def qX587 : List zk_Hd := []
set_option maxRecDepth 100000 in
theorem qk587 : zk_chk qK qP587 prog_14_method_93_code 7 qC587 (some .boolean) qH587 qX587 120 3 = true := zk_chkD_ok (T := qdt_14_93) qdo_14_93 (by decide +kernel)
set_option maxRecDepth 100000 in
/-- java/lang/Integer.bitCount(I)I UnaskedLettersModel.round(III)I@28 -/
def qC588 : zk_C := ((1, [], [0], [(0, (0, 0, 255))], [], [], [], [], [], none), [(2, [], [1], [(0, (0, 0, 255)), (1, (0, 0, 63))], [], [], [], [], [], none)], [], 0, 0)
set_option maxRecDepth 100000 in
def qP588 : zk_P := ([], [], [], [], [(4, 3, (0, 1431655765, 1431655765)), (11, 3, (0, 858993459, 858993459)), (18, 3, (0, 858993459, 858993459)), (29, 3, (0, 252645135, 252645135))], [], [])
set_option maxRecDepth 100000 in
def qH588 : List zk_Hd := []
set_option maxRecDepth 100000 in
def qX588 : List zk_Hd := []
set_option maxRecDepth 100000 in
theorem qk588 : zk_chk qK qP588 prog_17_method_49_code 1 qC588 (some .int) qH588 qX588 102 0 = true := zk_chkD_ok (T := qdt_17_49) qdo_17_49 (by decide +kernel)
set_option maxRecDepth 100000 in
/-- UnaskedLettersModel.round(III)I  -/
def qC589 : zk_C := ((4, [], [0, 1, 2, 3], [(0, (2, 57, 0)), (1, (0, (-2147483648), 2147483647)), (2, (0, (-2147483648), 2147483647)), (3, (0, (-2147483648), 2147483647))], [], [], [], [], [], none), [(5, [], [4], [(0, (2, 57, 0)), (1, (0, (-2147483648), 2147483647)), (2, (0, (-2147483648), 2147483647)), (3, (0, (-2147483648), 2147483647)), (4, (0, (-2147483648), 256))], [], [], [], [], [], none)], [(57, 52), (57, 66), (57, 67), (92, 0), (93, 0), (94, 0), (104, 0)], 0, 0)
set_option maxRecDepth 100000 in
def qP589 : zk_P := ([(446, 12, 66, 0), (449, 12, 67, 0)], [], [], [], [], [(3, qC581), (12, qC587), (28, qC588)], [])
set_option maxRecDepth 100000 in
def qH589 : List zk_Hd := []
set_option maxRecDepth 100000 in
def qX589 : List zk_Hd := []
set_option maxRecDepth 100000 in
theorem qk589 : zk_chk qK qP589 prog_14_method_94_code 4 qC589 (some .int) qH589 qX589 79 0 = true := zk_chkD_ok (T := qdt_14_94) qdo_14_94 (by decide +kernel)
set_option maxRecDepth 100000 in
/-- UnaskedLetters.ends(IIII)I  -/
def qC590 : zk_C := ((5, [], [0, 1, 2, 3, 4], [(0, (2, 2, 0)), (1, (0, (-2147483648), 2147483647)), (2, (0, (-2147483648), 2147483647)), (3, (0, (-2147483648), 2147483647)), (4, (0, (-2147483648), 2147483647))], [], [], [], [], [], none), [(6, [], [5], [(0, (2, 2, 0)), (1, (0, (-2147483648), 2147483647)), (2, (0, (-2147483648), 2147483647)), (3, (0, (-2147483648), 2147483647)), (4, (0, (-2147483648), 2147483647)), (5, (0, (-1), 20))], [], [], [], [], [], none)], [], 0, 0)
set_option maxRecDepth 100000 in
def qP590 : zk_P := ([], [], [], [], [(5, 3, (0, 1000000, 1000000)), (16, 3, (0, 1000000, 1000000))], [], [])
set_option maxRecDepth 100000 in
def qH590 : List zk_Hd := [(61, (7, [(1, 1), (2, 2), (5, 5), (7, 6)], [], [(0, (2, 2, 0)), (1, (0, 0, 1000000)), (2, (0, 0, 1000)), (3, (0, 0, 1000000)), (4, (0, 0, 1000)), (5, (1, 0, 1000000000)), (6, (0, 0, 21))], [], [], [], [], [], none), [(1, none, none), (22, none, some 6), (1, none, none)], 0, 0)]
set_option maxRecDepth 100000 in
def qX590 : List zk_Hd := []
set_option maxRecDepth 100000 in
theorem qk590 : zk_chk qK qP590 prog_1_method_34_code 8 qC590 (some .int) qH590 qX590 89 3 = true := zk_chkD_ok (T := qdt_1_34) qdo_1_34 (by decide +kernel)
set_option maxRecDepth 100000 in
/-- UnaskedLettersModel.in(III)Z UnaskedLettersModel.ends(IIII)I@5 -/
def qC591 : zk_C := ((3, [], [0, 1, 2], [(0, (0, (-2147483648), 2147483647)), (1, (0, 0, 0)), (2, (0, 1000000, 1000000))], [], [], [], [], [], none), [(4, [], [3], [(0, (0, (-2147483648), (-1))), (1, (0, 0, 0)), (2, (0, 1000000, 1000000)), (3, (0, 0, 0))], [], [], [], [], [], none), (4, [], [3], [(0, (0, 1000001, 2147483647)), (1, (0, 0, 0)), (2, (0, 1000000, 1000000)), (3, (0, 0, 0))], [], [], [], [], [], none), (4, [], [3], [(0, (0, 0, 1000000)), (1, (0, 0, 0)), (2, (0, 1000000, 1000000)), (3, (0, 1, 1))], [], [], [], [], [], none)], [], 0, 0)
set_option maxRecDepth 100000 in
def qP591 : zk_P := ([], [], [], [], [], [], [])
set_option maxRecDepth 100000 in
def qH591 : List zk_Hd := []
set_option maxRecDepth 100000 in
def qX591 : List zk_Hd := []
set_option maxRecDepth 100000 in
theorem qk591 : zk_chk qK qP591 prog_14_method_1_code 3 qC591 (some .boolean) qH591 qX591 69 0 = true := zk_chkD_ok (T := qdt_14_1) qdo_14_1 (by decide +kernel)
set_option maxRecDepth 100000 in
/-- UnaskedLettersModel.in(III)Z UnaskedLettersModel.ends(IIII)I@16 -/
def qC592 : zk_C := ((3, [], [0, 1, 2], [(0, (0, (-2147483648), 2147483647)), (1, (0, 0, 0)), (2, (0, 1000000, 1000000))], [], [], [], [], [], none), [(4, [], [3], [(0, (0, (-2147483648), (-1))), (1, (0, 0, 0)), (2, (0, 1000000, 1000000)), (3, (0, 0, 0))], [], [], [], [], [], none), (4, [], [3], [(0, (0, 1000001, 2147483647)), (1, (0, 0, 0)), (2, (0, 1000000, 1000000)), (3, (0, 0, 0))], [], [], [], [], [], none), (4, [], [3], [(0, (0, 0, 1000000)), (1, (0, 0, 0)), (2, (0, 1000000, 1000000)), (3, (0, 1, 1))], [], [], [], [], [], none)], [], 0, 0)
set_option maxRecDepth 100000 in
def qP592 : zk_P := ([], [], [], [], [], [], [])
set_option maxRecDepth 100000 in
def qH592 : List zk_Hd := []
set_option maxRecDepth 100000 in
def qX592 : List zk_Hd := []
set_option maxRecDepth 100000 in
theorem qk592 : zk_chk qK qP592 prog_14_method_1_code 3 qC592 (some .boolean) qH592 qX592 69 0 = true := zk_chkD_ok (T := qdt_14_1) qdo_14_1 (by decide +kernel)
set_option maxRecDepth 100000 in
/-- UnaskedLettersModel.in(III)Z UnaskedLettersModel.ends(IIII)I@27 -/
def qC593 : zk_C := ((3, [], [0, 1, 2], [(0, (0, (-2147483648), 2147483647)), (1, (0, 0, 0)), (2, (0, 1000, 1000))], [], [], [], [], [], none), [(4, [], [3], [(0, (0, (-2147483648), (-1))), (1, (0, 0, 0)), (2, (0, 1000, 1000)), (3, (0, 0, 0))], [], [], [], [], [], none), (4, [], [3], [(0, (0, 1001, 2147483647)), (1, (0, 0, 0)), (2, (0, 1000, 1000)), (3, (0, 0, 0))], [], [], [], [], [], none), (4, [], [3], [(0, (0, 0, 1000)), (1, (0, 0, 0)), (2, (0, 1000, 1000)), (3, (0, 1, 1))], [], [], [], [], [], none)], [], 0, 0)
set_option maxRecDepth 100000 in
def qP593 : zk_P := ([], [], [], [], [], [], [])
set_option maxRecDepth 100000 in
def qH593 : List zk_Hd := []
set_option maxRecDepth 100000 in
def qX593 : List zk_Hd := []
set_option maxRecDepth 100000 in
theorem qk593 : zk_chk qK qP593 prog_14_method_1_code 3 qC593 (some .boolean) qH593 qX593 69 0 = true := zk_chkD_ok (T := qdt_14_1) qdo_14_1 (by decide +kernel)
set_option maxRecDepth 100000 in
/-- UnaskedLettersModel.in(III)Z UnaskedLettersModel.ends(IIII)I@39 -/
def qC594 : zk_C := ((3, [], [0, 1, 2], [(0, (0, (-2147483648), 2147483647)), (1, (0, 0, 0)), (2, (0, 1000, 1000))], [], [], [], [], [], none), [(4, [], [3], [(0, (0, (-2147483648), (-1))), (1, (0, 0, 0)), (2, (0, 1000, 1000)), (3, (0, 0, 0))], [], [], [], [], [], none), (4, [], [3], [(0, (0, 1001, 2147483647)), (1, (0, 0, 0)), (2, (0, 1000, 1000)), (3, (0, 0, 0))], [], [], [], [], [], none), (4, [], [3], [(0, (0, 0, 1000)), (1, (0, 0, 0)), (2, (0, 1000, 1000)), (3, (0, 1, 1))], [], [], [], [], [], none)], [], 0, 0)
set_option maxRecDepth 100000 in
def qP594 : zk_P := ([], [], [], [], [], [], [])
set_option maxRecDepth 100000 in
def qH594 : List zk_Hd := []
set_option maxRecDepth 100000 in
def qX594 : List zk_Hd := []
set_option maxRecDepth 100000 in
theorem qk594 : zk_chk qK qP594 prog_14_method_1_code 3 qC594 (some .boolean) qH594 qX594 69 0 = true := zk_chkD_ok (T := qdt_14_1) qdo_14_1 (by decide +kernel)
set_option maxRecDepth 100000 in
/-- UnaskedLettersModel.ends(IIII)I  -/
def qC595 : zk_C := ((5, [], [0, 1, 2, 3, 4], [(0, (2, 57, 0)), (1, (0, (-2147483648), 2147483647)), (2, (0, (-2147483648), 2147483647)), (3, (0, (-2147483648), 2147483647)), (4, (0, (-2147483648), 2147483647))], [], [], [], [], [], none), [(6, [], [5], [(0, (2, 57, 0)), (1, (0, (-2147483648), 2147483647)), (2, (0, (-2147483648), 2147483647)), (3, (0, (-2147483648), 2147483647)), (4, (0, (-2147483648), 2147483647)), (5, (0, (-1), 20))], [], [], [], [], [], none)], [], 0, 0)
set_option maxRecDepth 100000 in
def qP595 : zk_P := ([], [], [], [], [(2, 3, (0, 1000000, 1000000)), (13, 3, (0, 1000000, 1000000))], [(5, qC591), (16, qC592), (27, qC593), (39, qC594)], [])
set_option maxRecDepth 100000 in
def qH595 : List zk_Hd := [(50, (6, [(1, 1), (2, 2), (3, 3), (4, 4), (5, 5)], [], [(0, (2, 57, 0)), (1, (0, 0, 1000000)), (2, (0, 0, 1000)), (3, (0, 0, 1000000)), (4, (0, 0, 1000)), (5, (0, 0, 21))], [], [], [], [], [], none), [(1, none, none), (22, none, some 5), (1, none, none)], 0, 0)]
set_option maxRecDepth 100000 in
def qX595 : List zk_Hd := []
set_option maxRecDepth 100000 in
theorem qk595 : zk_chk qK qP595 prog_14_method_95_code 6 qC595 (some .int) qH595 qX595 83 3 = true := zk_chkD_ok (T := qdt_14_95) qdo_14_95 (by decide +kernel)
set_option maxRecDepth 100000 in
/-- java/util/Arrays.fill([II)V UnaskedLetters.hands(I)I@15 -/
def qC596 : zk_C := ((2, [], [0, 1], [(0, (2, 56, 0)), (1, (0, (-1), (-1)))], [], [], [], [], [], none), [(2, [], [], [(0, (2, 56, 0)), (1, (0, (-1), (-1)))], [], [], [], [], [], none)], [(56, 0)], 0, 0)
set_option maxRecDepth 100000 in
def qP596 : zk_P := ([], [], [], [], [], [], [])
set_option maxRecDepth 100000 in
def qH596 : List zk_Hd := [(5, (4, [(0, 0), (1, 1), (2, 2), (3, 3)], [], [(0, (2, 56, 0)), (1, (0, (-1), (-1))), (2, (0, 0, 12)), (3, (0, 12, 12))], [], [], [], [], [], none), [(1, none, none), (13, none, some 2), (1, none, none)], 0, 0)]
set_option maxRecDepth 100000 in
def qX596 : List zk_Hd := []
set_option maxRecDepth 100000 in
theorem qk596 : zk_chk qK qP596 prog_23_method_103_code 4 qC596 none qH596 qX596 70 3 = true := zk_chkD_ok (T := qdt_23_103) qdo_23_103 (by decide +kernel)
set_option maxRecDepth 100000 in
/-- UnaskedLetters$Letter.readsAs(LUnaskedLetters$Letter;)Z  -/
def qC597 : zk_C := ((2, [], [0, 1], [(0, (2, 107, 0)), (1, (2, 107, 0))], [], [], [], [], [], none), [(7, [], [2], [(0, (2, 107, 0)), (1, (2, 107, 0)), (2, (0, 1, 1)), (3, (2, 113, 0)), (4, (2, 113, 0)), (5, (0, 0, 160)), (6, (0, 0, 160))], [(5, 6, 0), (6, 5, 0)], [(0, 10, 3), (1, 10, 4)], [(3, 5), (4, 6)], [], [], none), (7, [], [2], [(0, (2, 107, 0)), (1, (2, 107, 0)), (2, (0, 0, 0)), (3, (2, 113, 0)), (4, (2, 113, 0)), (5, (0, 0, 160)), (6, (0, 0, 160))], [], [(0, 10, 3), (1, 10, 4)], [(3, 5), (4, 6)], [], [], none)], [], 0, 0)
set_option maxRecDepth 100000 in
def qP597 : zk_P := ([(54, 1, 10, 3), (58, 9, 0, 4)], [], [], [], [], [], [])
set_option maxRecDepth 100000 in
def qH597 : List zk_Hd := [(17, (7, [(0, 0), (1, 1), (2, 2)], [], [(0, (2, 107, 0)), (1, (2, 107, 0)), (2, (0, 0, 160)), (3, (2, 113, 0)), (4, (2, 113, 0)), (5, (0, 0, 160)), (6, (0, 0, 160))], [(2, 5, 0), (2, 6, 0), (5, 6, 0), (6, 5, 0)], [(0, 10, 3), (1, 10, 4)], [(3, 5), (4, 6)], [], [], none), [(1, none, none), (161, none, some 2), (1, none, none)], 0, 0)]
set_option maxRecDepth 100000 in
def qX597 : List zk_Hd := []
set_option maxRecDepth 100000 in
theorem qk597 : zk_chk qK qP597 prog_3_method_5_code 3 qC597 (some .boolean) qH597 qX597 80 3 = true := zk_chkD_ok (T := qdt_3_5) qdo_3_5 (by decide +kernel)
set_option maxRecDepth 100000 in
/-- java/lang/Math.max(II)I UnaskedLetters.joinHands(I)V@91 -/
def qC598 : zk_C := ((2, [], [0, 1], [(0, (0, (-2147483648), 2147483647)), (1, (0, (-2147483648), 2147483647))], [], [], [], [], [], none), [(2, [], [1], [(0, (0, (-2147483648), 2147483646)), (1, (0, (-2147483647), 2147483647))], [(0, 1, (-1))], [], [], [], [], none), (2, [], [0], [(0, (0, (-2147483648), 2147483647)), (1, (0, (-2147483648), 2147483647))], [(1, 0, 0)], [], [], [], [], none)], [], 0, 0)
set_option maxRecDepth 100000 in
def qP598 : zk_P := ([], [], [], [], [], [], [])
set_option maxRecDepth 100000 in
def qH598 : List zk_Hd := []
set_option maxRecDepth 100000 in
def qX598 : List zk_Hd := []
set_option maxRecDepth 100000 in
theorem qk598 : zk_chk qK qP598 prog_18_method_65_code 2 qC598 (some .int) qH598 qX598 66 0 = true := zk_chkD_ok (T := qdt_18_65) qdo_18_65 (by decide +kernel)
set_option maxRecDepth 100000 in
/-- java/lang/Math.min(II)I UnaskedLetters.joinHands(I)V@109 -/
def qC599 : zk_C := ((2, [], [0, 1], [(0, (0, (-2147483648), 2147483647)), (1, (0, (-2147483648), 2147483647))], [], [], [], [], [], none), [(2, [], [1], [(0, (0, (-2147483647), 2147483647)), (1, (0, (-2147483648), 2147483646))], [(1, 0, (-1))], [], [], [], [], none), (2, [], [0], [(0, (0, (-2147483648), 2147483647)), (1, (0, (-2147483648), 2147483647))], [(0, 1, 0)], [], [], [], [], none)], [], 0, 0)
set_option maxRecDepth 100000 in
def qP599 : zk_P := ([], [], [], [], [], [], [])
set_option maxRecDepth 100000 in
def qH599 : List zk_Hd := []
set_option maxRecDepth 100000 in
def qX599 : List zk_Hd := []
set_option maxRecDepth 100000 in
theorem qk599 : zk_chk qK qP599 prog_18_method_69_code 2 qC599 (some .int) qH599 qX599 66 0 = true := zk_chkD_ok (T := qdt_18_69) qdo_18_69 (by decide +kernel)
