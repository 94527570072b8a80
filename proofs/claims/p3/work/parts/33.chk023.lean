/-! CONTRACTS: found by wip/an (python). -/
noncomputable section
set_option maxRecDepth 100000 in
/-- UnaskedLettersModel.cutUp([II[JI)I %66 -/
def qC470 : zk_C := ((4, [], [0, 1, 2, 3], [(0, (2, 66, 0)), (1, (0, 0, 160)), (2, (2, 77, 0)), (3, (0, 0, 9758))], [], [], [], [], [], none), [(5, [], [4], [(0, (2, 66, 0)), (1, (0, 1, 160)), (2, (2, 77, 0)), (3, (0, 0, 9758)), (4, (0, 0, 80))], [(4, 1, (-1))], [], [], [], [], none), (5, [], [4], [(0, (2, 66, 0)), (1, (0, 1, 160)), (2, (2, 77, 0)), (3, (0, 0, 9758)), (4, (0, 1, 80))], [(4, 1, 0)], [], [], [], [], none), (5, [], [4], [(0, (2, 66, 0)), (1, (0, 0, 0)), (2, (2, 77, 0)), (3, (0, 0, 9758)), (4, (0, 0, 0))], [], [], [], [], [], none)], [(77, 0)], 0, 0)
set_option maxRecDepth 100000 in
def qP470 : zk_P := ([], [], [], [], [(60, 3, (1, 37, 37))], [(19, qC170), (76, qC468)], [])
set_option maxRecDepth 100000 in
def qH470 : List zk_Hd := [(93, (7, [(0, 0), (1, 1), (2, 2), (3, 3), (4, 4), (5, 5), (6, 6)], [], [(0, (2, 66, 0)), (1, (0, 1, 160)), (2, (2, 77, 0)), (3, (0, 0, 9758)), (4, (0, 1, 81)), (5, (0, 0, 159)), (6, (0, 0, 159))], [(4, 1, 0), (4, 6, 1), (5, 1, (-1)), (5, 6, 0), (6, 1, (-1))], [], [], [], [(5, 4, 6, 1002)], none), [(1, none, none), (160, none, some 6), (2, none, none)], 0, 0), (28, (7, [(0, 0), (1, 1), (2, 2), (3, 3), (4, 4), (5, 5), (6, 6)], [], [(0, (2, 66, 0)), (1, (0, 1, 160)), (2, (2, 77, 0)), (3, (0, 0, 9758)), (4, (0, 0, 80)), (5, (0, 0, 0)), (6, (0, 0, 159))], [(4, 1, (-1)), (4, 6, 0), (6, 1, (-1))], [], [], [], [(5, 4, 6, 1001)], none), [(1, none, none), (160, none, some 6), (1, none, none)], 0, 0)]
set_option maxRecDepth 100000 in
def qX470 : List zk_Hd := []
set_option maxRecDepth 100000 in
theorem qk470 : zk_chk qK qP470 prog_14_method_54_code 7 qC470 (some .int) qH470 qX470 110 3 = true := zk_chkD_ok (T := qdt_14_54) qdo_14_54 (by decide +kernel)
set_option maxRecDepth 100000 in
/-- UnaskedLettersModel.write(IIZI)I  -/
def qC471 : zk_C := ((7, [], [0, 1, 2, 3, 4], [(0, (2, 57, 0)), (1, (0, (-2147483648), 2147483647)), (2, (0, (-2147483648), 2147483647)), (3, (0, 0, 1)), (4, (0, (-2147483648), 2147483647)), (5, (0, (-2147483648), 2147483647)), (6, (0, 0, 40))], [], [(0, 0, 5), (0, 7, 6)], [], [], [], none), [(8, [], [7], [(0, (2, 57, 0)), (1, (0, (-2147483648), 2147483647)), (2, (0, (-2147483648), 2147483647)), (3, (0, 0, 1)), (4, (0, (-2147483648), 2147483647)), (5, (0, (-2147483648), 2147483647)), (6, (0, 0, 40)), (7, (0, (-1), 119))], [], [(0, 0, 5), (0, 7, 6)], [], [], [], none)], [(57, 9), (57, 10), (57, 11), (57, 12), (57, 15), (57, 16), (57, 17), (57, 44), (65, 0), (66, 0), (76, 0), (77, 0), (78, 0), (79, 0), (80, 0), (81, 0), (82, 0), (83, 0), (84, 0), (87, 0), (88, 0)], 0, 0)
set_option maxRecDepth 100000 in
def qP471 : zk_P := ([(341, 12, 44, 0), (69, 12, 33, 4), (29, 12, 13, 4), (193, 12, 15, 0), (62, 12, 31, 4), (72, 12, 34, 4), (32, 12, 14, 4), (196, 12, 16, 0), (66, 12, 32, 4), (75, 12, 35, 4), (78, 12, 36, 4), (81, 12, 37, 4), (84, 12, 38, 4), (87, 12, 39, 4), (156, 12, 0, 0), (96, 12, 42, 4), (99, 12, 43, 4), (181, 12, 9, 0)], [], [], [], [], [(2, qC466), (10, qC466), (26, qC467), (42, qC192), (80, qC469), (107, qC470)], [])
set_option maxRecDepth 100000 in
def qH471 : List zk_Hd := []
set_option maxRecDepth 100000 in
def qX471 : List zk_Hd := []
set_option maxRecDepth 100000 in
theorem qk471 : zk_chk qK qP471 prog_14_method_55_code 6 qC471 (some .int) qH471 qX471 165 0 = true := zk_chkD_ok (T := qdt_14_55) qdo_14_55 (by decide +kernel)
set_option maxRecDepth 100000 in
/-- UnaskedLetters.letterAt(I)LUnaskedLetters$Letter;  -/
def qC472 : zk_C := ((2, [], [0, 1], [(0, (2, 2, 0)), (1, (0, (-2147483648), 2147483647))], [], [], [], [], [], none), [(3, [], [2], [(0, (2, 2, 0)), (1, (0, (-2147483648), (-1))), (2, (2, 0, 1))], [], [], [], [], [], none), (3, [], [2], [(0, (2, 2, 0)), (1, (0, 0, 2147483647)), (2, (2, 0, 1))], [], [], [], [], [], none), (4, [], [2], [(0, (2, 2, 0)), (1, (0, 0, 119)), (2, (2, 107, 0)), (3, (0, 1, 120))], [(1, 3, (-1))], [(0, 15, 3)], [], [], [], none)], [], 0, 0)
set_option maxRecDepth 100000 in
def qP472 : zk_P := ([(181, 11, 15, 0), (60, 11, 7, 4)], [], [], [], [], [], [])
set_option maxRecDepth 100000 in
def qH472 : List zk_Hd := []
set_option maxRecDepth 100000 in
def qX472 : List zk_Hd := []
set_option maxRecDepth 100000 in
theorem qk472 : zk_chk qK qP472 prog_1_method_42_code 2 qC472 (some (.object "UnaskedLetters$Letter")) qH472 qX472 72 0 = true := zk_chkD_ok (T := qdt_1_42) qdo_1_42 (by decide +kernel)
set_option maxRecDepth 100000 in
/-- UnaskedLetters.words(II)I  -/
def qC473 : zk_C := ((3, [], [0, 1, 2], [(0, (2, 2, 0)), (1, (0, (-2147483648), 2147483647)), (2, (0, (-2147483648), 2147483647))], [], [], [], [], [], none), [(4, [], [3], [(0, (2, 2, 0)), (1, (0, (-2147483648), (-1))), (2, (0, (-2147483648), 2147483647)), (3, (0, (-1), (-1)))], [], [], [], [], [], none), (4, [], [3], [(0, (2, 2, 0)), (1, (0, 0, 2147483647)), (2, (0, (-2147483648), 2147483647)), (3, (0, (-1), (-1)))], [], [], [], [], [], none), (5, [], [3], [(0, (2, 2, 0)), (1, (0, 0, 119)), (2, (0, 1, 1)), (3, (0, 0, 160)), (4, (0, 1, 120))], [(1, 4, (-1))], [(0, 15, 4)], [], [], [], none), (5, [], [3], [(0, (2, 2, 0)), (1, (0, 0, 119)), (2, (0, 0, 0)), (3, (0, 0, 160)), (4, (0, 1, 120))], [(1, 4, (-1))], [(0, 15, 4)], [], [], [], none)], [], 0, 0)
set_option maxRecDepth 100000 in
def qP473 : zk_P := ([(204, 1, 9, 3), (215, 1, 10, 3)], [], [], [], [], [(2, qC472)], [])
set_option maxRecDepth 100000 in
def qH473 : List zk_Hd := []
set_option maxRecDepth 100000 in
def qX473 : List zk_Hd := []
set_option maxRecDepth 100000 in
theorem qk473 : zk_chk qK qP473 prog_1_method_16_code 4 qC473 (some .int) qH473 qX473 76 0 = true := zk_chkD_ok (T := qdt_1_16) qdo_1_16 (by decide +kernel)
set_option maxRecDepth 100000 in
/-- UnaskedLettersModel.in(III)Z UnaskedLettersModel.isLetter(I)Z@8 -/
def qC474 : zk_C := ((3, [], [0, 1, 2], [(0, (0, (-2147483648), 2147483647)), (1, (0, 0, 0)), (2, (0, (-1), 119))], [], [], [], [], [], none), [(4, [], [3], [(0, (0, (-2147483648), (-1))), (1, (0, 0, 0)), (2, (0, (-1), 119)), (3, (0, 0, 0))], [], [], [], [], [], none), (4, [], [3], [(0, (0, 0, 2147483647)), (1, (0, 0, 0)), (2, (0, (-1), 119)), (3, (0, 0, 0))], [(2, 0, (-1))], [], [], [], [], none), (4, [], [3], [(0, (0, 0, 119)), (1, (0, 0, 0)), (2, (0, 0, 119)), (3, (0, 1, 1))], [(0, 2, 0)], [], [], [], [], none)], [], 0, 0)
set_option maxRecDepth 100000 in
def qP474 : zk_P := ([], [], [], [], [], [], [])
set_option maxRecDepth 100000 in
def qH474 : List zk_Hd := []
set_option maxRecDepth 100000 in
def qX474 : List zk_Hd := []
set_option maxRecDepth 100000 in
theorem qk474 : zk_chk qK qP474 prog_14_method_1_code 3 qC474 (some .boolean) qH474 qX474 69 0 = true := zk_chkD_ok (T := qdt_14_1) qdo_14_1 (by decide +kernel)
set_option maxRecDepth 100000 in
/-- UnaskedLettersModel.isLetter(I)Z  -/
def qC475 : zk_C := ((2, [], [0, 1], [(0, (2, 57, 0)), (1, (0, (-2147483648), 2147483647))], [], [], [], [], [], none), [(3, [], [2], [(0, (2, 57, 0)), (1, (0, (-2147483648), (-1))), (2, (0, 0, 0))], [], [], [], [], [], none), (3, [], [2], [(0, (2, 57, 0)), (1, (0, 0, 2147483647)), (2, (0, 0, 0))], [], [], [], [], [], none), (3, [], [2], [(0, (2, 57, 0)), (1, (0, 0, 119)), (2, (0, 1, 1))], [], [], [], [], [], none)], [], 0, 0)
set_option maxRecDepth 100000 in
def qP475 : zk_P := ([(341, 12, 44, 0)], [], [], [], [], [(8, qC474)], [])
set_option maxRecDepth 100000 in
def qH475 : List zk_Hd := []
set_option maxRecDepth 100000 in
def qX475 : List zk_Hd := []
set_option maxRecDepth 100000 in
theorem qk475 : zk_chk qK qP475 prog_14_method_52_code 2 qC475 (some .boolean) qH475 qX475 68 0 = true := zk_chkD_ok (T := qdt_14_52) qdo_14_52 (by decide +kernel)
set_option maxRecDepth 100000 in
/-- UnaskedLettersModel.in(III)Z UnaskedLettersModel.words(II)I@11 -/
def qC476 : zk_C := ((3, [], [0, 1, 2], [(0, (0, (-2147483648), 2147483647)), (1, (0, 0, 0)), (2, (0, 1, 1))], [], [], [], [], [], none), [(4, [], [3], [(0, (0, (-2147483648), (-1))), (1, (0, 0, 0)), (2, (0, 1, 1)), (3, (0, 0, 0))], [], [], [], [], [], none), (4, [], [3], [(0, (0, 2, 2147483647)), (1, (0, 0, 0)), (2, (0, 1, 1)), (3, (0, 0, 0))], [], [], [], [], [], none), (4, [], [3], [(0, (0, 0, 1)), (1, (0, 0, 0)), (2, (0, 1, 1)), (3, (0, 1, 1))], [], [], [], [], [], none)], [], 0, 0)
set_option maxRecDepth 100000 in
def qP476 : zk_P := ([], [], [], [], [], [], [])
set_option maxRecDepth 100000 in
def qH476 : List zk_Hd := []
set_option maxRecDepth 100000 in
def qX476 : List zk_Hd := []
set_option maxRecDepth 100000 in
theorem qk476 : zk_chk qK qP476 prog_14_method_1_code 3 qC476 (some .boolean) qH476 qX476 69 0 = true := zk_chkD_ok (T := qdt_14_1) qdo_14_1 (by decide +kernel)
set_option maxRecDepth 100000 in
/-- UnaskedLettersModel.words(II)I  -/
def qC477 : zk_C := ((3, [], [0, 1, 2], [(0, (2, 57, 0)), (1, (0, (-2147483648), 2147483647)), (2, (0, (-2147483648), 2147483647))], [], [], [], [], [], none), [(4, [], [3], [(0, (2, 57, 0)), (1, (0, (-2147483648), (-1))), (2, (0, (-2147483648), 2147483647)), (3, (0, (-1), (-1)))], [], [], [], [], [], none), (4, [], [3], [(0, (2, 57, 0)), (1, (0, 0, 2147483647)), (2, (0, (-2147483648), 2147483647)), (3, (0, (-1), (-1)))], [], [], [], [], [], none), (4, [], [3], [(0, (2, 57, 0)), (1, (0, 0, 119)), (2, (0, 1, 1)), (3, (0, 0, 82))], [], [], [], [], [], none), (4, [], [3], [(0, (2, 57, 0)), (1, (0, 0, 119)), (2, (0, 0, 0)), (3, (0, 0, 82))], [], [], [], [], [], none)], [], 0, 0)
set_option maxRecDepth 100000 in
def qP477 : zk_P := ([(69, 12, 33, 4), (72, 12, 34, 4)], [], [], [], [], [(2, qC475), (11, qC476)], [])
set_option maxRecDepth 100000 in
def qH477 : List zk_Hd := []
set_option maxRecDepth 100000 in
def qX477 : List zk_Hd := []
set_option maxRecDepth 100000 in
theorem qk477 : zk_chk qK qP477 prog_14_method_56_code 3 qC477 (some .int) qH477 qX477 77 0 = true := zk_chkD_ok (T := qdt_14_56) qdo_14_56 (by decide +kernel)
set_option maxRecDepth 100000 in
/-- UnaskedLetters$Word.byteOf(JI)I  -/
def qC478 : zk_C := ((2, [], [0, 1], [(0, (1, (-9223372036854775808), 9223372036854775807)), (1, (0, (-2147483648), 2147483647))], [], [], [], [], [], none), [(3, [], [2], [(0, (1, (-9223372036854775808), 9223372036854775807)), (1, (0, 0, 11)), (2, (0, (-2147483648), 2147483647))], [], [], [], [], [], none), (3, [], [2], [(0, (1, (-9223372036854775808), 9223372036854775807)), (1, (0, (-2147483648), (-1))), (2, (0, (-1), (-1)))], [], [], [], [], [], none), (3, [], [2], [(0, (1, (-9223372036854775808), 9223372036854775807)), (1, (0, 0, 2147483647)), (2, (0, (-1), (-1)))], [], [], [], [], [], none)], [], 0, 0)
set_option maxRecDepth 100000 in
def qP478 : zk_P := ([], [], [], [], [(23, 3, (1, 37, 37)), (59, 3, (1, 37, 37)), (73, 3, (1, 37, 37))], [], [])
set_option maxRecDepth 100000 in
def qH478 : List zk_Hd := [(5, (4, [(0, 0), (2, 1), (3, 2), (4, 3)], [], [(0, (1, (-9223372036854775808), 9223372036854775807)), (1, (0, (-2147483648), 2147483647)), (2, (0, 0, 12)), (3, (1, (-9223372036854775808), 9223372036854775807))], [(3, 0, 0)], [], [], [], [], none), [(2, none, none), (13, none, some 2), (1, none, none)], 0, 0), (51, (4, [(2, 1), (4, 2), (6, 3)], [], [(0, (1, (-9223372036854775808), 9223372036854775807)), (1, (0, 0, 11)), (2, (1, (-9223372036854775808), 9223372036854775807)), (3, (0, 0, 11))], [(1, 3, 0)], [], [], [], [], none), [(1, none, none), (1, some 3, none), (1, none, none)], 0, 0)]
set_option maxRecDepth 100000 in
def qX478 : List zk_Hd := []
set_option maxRecDepth 100000 in
theorem qk478 : zk_chk qK qP478 prog_11_method_5_code 7 qC478 (some .int) qH478 qX478 79 3 = true := zk_chkD_ok (T := qdt_11_5) qdo_11_5 (by decide +kernel)
set_option maxRecDepth 100000 in
/-- UnaskedLetters.read(IIII)I  -/
def qC479 : zk_C := ((5, [], [0, 1, 2, 3, 4], [(0, (2, 2, 0)), (1, (0, (-2147483648), 2147483647)), (2, (0, (-2147483648), 2147483647)), (3, (0, (-2147483648), 2147483647)), (4, (0, (-2147483648), 2147483647))], [], [], [], [], [], none), [(6, [], [5], [(0, (2, 2, 0)), (1, (0, (-2147483648), 2147483647)), (2, (0, (-2147483648), 2147483647)), (3, (0, (-2147483648), 2147483647)), (4, (0, (-2147483648), 2147483647)), (5, (0, (-2147483648), 2147483647))], [], [], [], [], [], none)], [], 0, 0)
set_option maxRecDepth 100000 in
def qP479 : zk_P := ([(204, 1, 9, 3), (215, 1, 10, 3), (225, 9, 0, 4)], [], [], [], [], [(2, qC472), (41, qC478), (76, qC478)], [])
set_option maxRecDepth 100000 in
def qH479 : List zk_Hd := []
set_option maxRecDepth 100000 in
def qX479 : List zk_Hd := []
set_option maxRecDepth 100000 in
theorem qk479 : zk_chk qK qP479 prog_1_method_17_code 6 qC479 (some .int) qH479 qX479 87 0 = true := zk_chkD_ok (T := qdt_1_17) qdo_1_17 (by decide +kernel)
set_option maxRecDepth 100000 in
/-- UnaskedLettersModel.in(III)Z UnaskedLettersModel.read(IIII)I@10 -/
def qC480 : zk_C := ((3, [], [0, 1, 2], [(0, (0, (-2147483648), 2147483647)), (1, (0, 0, 0)), (2, (0, (-2), 81))], [], [], [], [], [], none), [(4, [], [3], [(0, (0, (-2147483648), (-1))), (1, (0, 0, 0)), (2, (0, (-2), 81)), (3, (0, 0, 0))], [], [], [], [], [], none), (4, [], [3], [(0, (0, 0, 2147483647)), (1, (0, 0, 0)), (2, (0, (-2), 81)), (3, (0, 0, 0))], [(2, 0, (-1))], [], [], [], [], none), (4, [], [3], [(0, (0, 0, 81)), (1, (0, 0, 0)), (2, (0, 0, 81)), (3, (0, 1, 1))], [(0, 2, 0)], [], [], [], [], none)], [], 0, 0)
set_option maxRecDepth 100000 in
def qP480 : zk_P := ([], [], [], [], [], [], [])
set_option maxRecDepth 100000 in
def qH480 : List zk_Hd := []
set_option maxRecDepth 100000 in
def qX480 : List zk_Hd := []
set_option maxRecDepth 100000 in
theorem qk480 : zk_chk qK qP480 prog_14_method_1_code 3 qC480 (some .boolean) qH480 qX480 69 0 = true := zk_chkD_ok (T := qdt_14_1) qdo_14_1 (by decide +kernel)
set_option maxRecDepth 100000 in
/-- UnaskedLettersModel.wordAt(III)J  -/
def qC481 : zk_C := ((4, [], [0, 1, 2, 3], [(0, (2, 57, 0)), (1, (0, 0, 119)), (2, (0, 0, 1)), (3, (0, 0, 81))], [], [], [], [], [], none), [(5, [], [4], [(0, (2, 57, 0)), (1, (0, 0, 119)), (2, (0, 1, 1)), (3, (0, 0, 81)), (4, (1, (-9223372036854775808), 9223372036854775807))], [], [], [], [], [], none), (5, [], [4], [(0, (2, 57, 0)), (1, (0, 0, 119)), (2, (0, 0, 0)), (3, (0, 0, 81)), (4, (1, (-9223372036854775808), 9223372036854775807))], [], [], [], [], [], none)], [], 0, 0)
set_option maxRecDepth 100000 in
def qP481 : zk_P := ([(62, 12, 31, 4), (66, 12, 32, 4)], [], [], [], [], [], [])
set_option maxRecDepth 100000 in
def qH481 : List zk_Hd := []
set_option maxRecDepth 100000 in
def qX481 : List zk_Hd := []
set_option maxRecDepth 100000 in
theorem qk481 : zk_chk qK qP481 prog_14_method_57_code 4 qC481 (some .long) qH481 qX481 72 0 = true := zk_chkD_ok (T := qdt_14_57) qdo_14_57 (by decide +kernel)
set_option maxRecDepth 100000 in
/-- UnaskedLettersModel.read(IIII)I  -/
def qC482 : zk_C := ((5, [], [0, 1, 2, 3, 4], [(0, (2, 57, 0)), (1, (0, (-2147483648), 2147483647)), (2, (0, (-2147483648), 2147483647)), (3, (0, (-2147483648), 2147483647)), (4, (0, (-2147483648), 2147483647))], [], [], [], [], [], none), [(6, [], [5], [(0, (2, 57, 0)), (1, (0, (-2147483648), 2147483647)), (2, (0, (-2147483648), 2147483647)), (3, (0, (-2147483648), 2147483647)), (4, (0, (-2147483648), 2147483647)), (5, (0, (-2147483648), 2147483647))], [], [], [], [], [], none)], [], 0, 0)
set_option maxRecDepth 100000 in
def qP482 : zk_P := ([], [], [], [], [(51, 3, (1, 37, 37)), (84, 3, (1, 37, 37)), (98, 3, (1, 37, 37))], [(5, qC477), (10, qC480), (27, qC481)], [])
set_option maxRecDepth 100000 in
def qH482 : List zk_Hd := [(39, (8, [(4, 4), (5, 5), (7, 6), (8, 7)], [], [(0, (2, 57, 0)), (1, (0, 0, 119)), (2, (0, 0, 1)), (3, (0, 0, 81)), (4, (0, 0, 2147483647)), (5, (1, (-9223372036854775808), 9223372036854775807)), (6, (0, (-2147483648), 2147483647)), (7, (1, (-9223372036854775808), 9223372036854775807))], [(7, 5, 0)], [], [], [], [], none), [(2, none, none), (1, some 7, some 2), (1, none, none)], 0, 0), (75, (7, [(4, 4), (5, 5), (8, 6)], [], [(0, (2, 57, 0)), (1, (0, 0, 119)), (2, (0, 0, 1)), (3, (0, 0, 81)), (4, (0, 0, 2147483646)), (5, (1, (-9223372036854775808), 9223372036854775807)), (6, (0, 0, 2147483646))], [(4, 6, 0)], [], [], [], [], none), [(1, none, none), (1, some 6, none), (1, none, none)], 0, 0)]
set_option maxRecDepth 100000 in
def qX482 : List zk_Hd := []
set_option maxRecDepth 100000 in
theorem qk482 : zk_chk qK qP482 prog_14_method_58_code 10 qC482 (some .int) qH482 qX482 83 3 = true := zk_chkD_ok (T := qdt_14_58) qdo_14_58 (by decide +kernel)
set_option maxRecDepth 100000 in
/-- java/lang/Math.min(II)I UnaskedLetters.unlike(I)I@22 -/
def qC483 : zk_C := ((2, [], [0, 1], [(0, (0, 0, 160)), (1, (0, 0, 160))], [], [], [], [], [], none), [(2, [], [1], [(0, (0, 1, 160)), (1, (0, 0, 159))], [(1, 0, (-1))], [], [], [], [], none), (2, [], [0], [(0, (0, 0, 160)), (1, (0, 0, 160))], [(0, 1, 0)], [], [], [], [], none)], [], 0, 0)
set_option maxRecDepth 100000 in
def qP483 : zk_P := ([], [], [], [], [], [], [])
set_option maxRecDepth 100000 in
def qH483 : List zk_Hd := []
set_option maxRecDepth 100000 in
def qX483 : List zk_Hd := []
set_option maxRecDepth 100000 in
theorem qk483 : zk_chk qK qP483 prog_18_method_69_code 2 qC483 (some .int) qH483 qX483 66 0 = true := zk_chkD_ok (T := qdt_18_69) qdo_18_69 (by decide +kernel)
set_option maxRecDepth 100000 in
/-- UnaskedLetters.unlike(I)I  -/
def qC484 : zk_C := ((2, [], [0, 1], [(0, (2, 2, 0)), (1, (0, (-2147483648), 2147483647))], [], [], [], [], [], none), [(3, [], [2], [(0, (2, 2, 0)), (1, (0, (-2147483648), 2147483647)), (2, (0, (-1), 160))], [], [], [], [], [], none)], [], 0, 0)
set_option maxRecDepth 100000 in
def qP484 : zk_P := ([(204, 1, 9, 3), (215, 1, 10, 3), (225, 9, 0, 4)], [], [], [], [], [(2, qC472), (22, qC483)], [])
set_option maxRecDepth 100000 in
def qH484 : List zk_Hd := [(29, (10, [(2, 2), (3, 3), (4, 4)], [], [(0, (2, 2, 0)), (1, (0, 0, 119)), (2, (2, 107, 0)), (3, (0, 0, 160)), (4, (0, 0, 160)), (5, (2, 113, 0)), (6, (2, 111, 0)), (7, (0, 1, 120)), (8, (0, 0, 160)), (9, (0, 0, 160))], [(1, 7, (-1)), (3, 8, 0), (3, 9, 0), (4, 3, 0), (4, 8, 0), (4, 9, 0)], [(2, 10, 5), (2, 9, 6), (0, 15, 7)], [(5, 8), (6, 9)], [], [], none), [(1, none, none), (161, none, some 4), (1, none, none)], 0, 0)]
set_option maxRecDepth 100000 in
def qX484 : List zk_Hd := []
set_option maxRecDepth 100000 in
theorem qk484 : zk_chk qK qP484 prog_1_method_18_code 5 qC484 (some .int) qH484 qX484 77 3 = true := zk_chkD_ok (T := qdt_1_18) qdo_1_18 (by decide +kernel)
set_option maxRecDepth 100000 in
/-- java/lang/Math.min(II)I UnaskedLettersModel.unlike(I)I@22 -/
def qC485 : zk_C := ((2, [], [0, 1], [(0, (0, 0, 82)), (1, (0, 0, 82))], [], [], [], [], [], none), [(2, [], [1], [(0, (0, 1, 82)), (1, (0, 0, 81))], [(1, 0, (-1))], [], [], [], [], none), (2, [], [0], [(0, (0, 0, 82)), (1, (0, 0, 82))], [(0, 1, 0)], [], [], [], [], none)], [], 0, 0)
set_option maxRecDepth 100000 in
def qP485 : zk_P := ([], [], [], [], [], [], [])
set_option maxRecDepth 100000 in
def qH485 : List zk_Hd := []
set_option maxRecDepth 100000 in
def qX485 : List zk_Hd := []
set_option maxRecDepth 100000 in
theorem qk485 : zk_chk qK qP485 prog_18_method_69_code 2 qC485 (some .int) qH485 qX485 66 0 = true := zk_chkD_ok (T := qdt_18_69) qdo_18_69 (by decide +kernel)
set_option maxRecDepth 100000 in
/-- UnaskedLettersModel.unlike(I)I  -/
def qC486 : zk_C := ((2, [], [0, 1], [(0, (2, 57, 0)), (1, (0, (-2147483648), 2147483647))], [], [], [], [], [], none), [(3, [], [2], [(0, (2, 57, 0)), (1, (0, (-2147483648), 2147483647)), (2, (0, (-1), 82))], [], [], [], [], [], none)], [], 0, 0)
set_option maxRecDepth 100000 in
def qP486 : zk_P := ([(69, 12, 33, 4), (72, 12, 34, 4)], [], [], [], [], [(2, qC475), (22, qC485), (37, qC481), (44, qC481)], [])
set_option maxRecDepth 100000 in
def qH486 : List zk_Hd := [(28, (4, [(0, 0), (1, 1), (2, 2), (3, 3)], [], [(0, (2, 57, 0)), (1, (0, 0, 119)), (2, (0, 0, 82)), (3, (0, 0, 82))], [(3, 2, 0)], [], [], [], [], none), [(1, none, none), (83, none, some 3), (1, none, none)], 0, 0)]
set_option maxRecDepth 100000 in
def qX486 : List zk_Hd := []
set_option maxRecDepth 100000 in
theorem qk486 : zk_chk qK qP486 prog_14_method_59_code 4 qC486 (some .int) qH486 qX486 78 3 = true := zk_chkD_ok (T := qdt_14_59) qdo_14_59 (by decide +kernel)
set_option maxRecDepth 100000 in
/-- UnaskedLetters.letter(II)I  -/
def qC487 : zk_C := ((3, [], [0, 1, 2], [(0, (2, 2, 0)), (1, (0, (-2147483648), 2147483647)), (2, (0, (-2147483648), 2147483647))], [], [], [], [], [], none), [(4, [], [3], [(0, (2, 2, 0)), (1, (0, (-2147483648), 2147483647)), (2, (0, (-2147483648), 2147483647)), (3, (0, (-2147483648), 2147483647))], [], [], [], [], [], none)], [], 0, 0)
set_option maxRecDepth 100000 in
def qP487 : zk_P := ([(235, 1, 5, 0), (238, 1, 6, 0), (241, 1, 7, 0), (244, 1, 4, 4), (247, 1, 0, 4), (250, 1, 1, 4)], [], [], [], [], [(2, qC472)], [])
set_option maxRecDepth 100000 in
def qH487 : List zk_Hd := []
set_option maxRecDepth 100000 in
def qX487 : List zk_Hd := []
set_option maxRecDepth 100000 in
theorem qk487 : zk_chk qK qP487 prog_1_method_19_code 4 qC487 (some .int) qH487 qX487 71 0 = true := zk_chkD_ok (T := qdt_1_19) qdo_1_19 (by decide +kernel)
set_option maxRecDepth 100000 in
/-- UnaskedLettersModel.letter(II)I  -/
def qC488 : zk_C := ((3, [], [0, 1, 2], [(0, (2, 57, 0)), (1, (0, (-2147483648), 2147483647)), (2, (0, (-2147483648), 2147483647))], [], [], [], [], [], none), [(4, [], [3], [(0, (2, 57, 0)), (1, (0, (-2147483648), 2147483647)), (2, (0, (-2147483648), 2147483647)), (3, (0, (-2147483648), 2147483647))], [], [], [], [], [], none)], [], 0, 0)
set_option maxRecDepth 100000 in
def qP488 : zk_P := ([(90, 12, 40, 4), (93, 12, 41, 4), (96, 12, 42, 4), (87, 12, 39, 4), (75, 12, 35, 4), (78, 12, 36, 4)], [], [], [], [], [(2, qC475)], [])
set_option maxRecDepth 100000 in
def qH488 : List zk_Hd := []
set_option maxRecDepth 100000 in
def qX488 : List zk_Hd := []
set_option maxRecDepth 100000 in
theorem qk488 : zk_chk qK qP488 prog_14_method_60_code 3 qC488 (some .int) qH488 qX488 71 0 = true := zk_chkD_ok (T := qdt_14_60) qdo_14_60 (by decide +kernel)
set_option maxRecDepth 100000 in
/-- UnaskedLetters.why(I)I  -/
def qC489 : zk_C := ((2, [], [0, 1], [(0, (2, 2, 0)), (1, (0, (-2147483648), 2147483647))], [], [], [], [], [], none), [(3, [], [2], [(0, (2, 2, 0)), (1, (0, (-2147483648), 2147483647)), (2, (0, (-2147483648), 2147483647))], [], [], [], [], [], none)], [], 0, 0)
set_option maxRecDepth 100000 in
def qP489 : zk_P := ([(253, 1, 8, 0)], [], [], [], [], [(2, qC472)], [])
set_option maxRecDepth 100000 in
def qH489 : List zk_Hd := []
set_option maxRecDepth 100000 in
def qX489 : List zk_Hd := []
set_option maxRecDepth 100000 in
theorem qk489 : zk_chk qK qP489 prog_1_method_20_code 3 qC489 (some .int) qH489 qX489 69 0 = true := zk_chkD_ok (T := qdt_1_20) qdo_1_20 (by decide +kernel)
set_option maxRecDepth 100000 in
/-- UnaskedLettersModel.why(I)I  -/
def qC490 : zk_C := ((2, [], [0, 1], [(0, (2, 57, 0)), (1, (0, (-2147483648), 2147483647))], [], [], [], [], [], none), [(3, [], [2], [(0, (2, 57, 0)), (1, (0, (-2147483648), 2147483647)), (2, (0, (-2147483648), 2147483647))], [], [], [], [], [], none)], [], 0, 0)
set_option maxRecDepth 100000 in
def qP490 : zk_P := ([(99, 12, 43, 4)], [], [], [], [], [(2, qC475)], [])
set_option maxRecDepth 100000 in
def qH490 : List zk_Hd := []
set_option maxRecDepth 100000 in
def qX490 : List zk_Hd := []
set_option maxRecDepth 100000 in
theorem qk490 : zk_chk qK qP490 prog_14_method_61_code 2 qC490 (some .int) qH490 qX490 70 0 = true := zk_chkD_ok (T := qdt_14_61) qdo_14_61 (by decide +kernel)
set_option maxRecDepth 100000 in
/-- UnaskedLetters$Scales.forget()V  -/
def qC491 : zk_C := ((1, [], [0], [(0, (2, 50, 0))], [], [], [], [], [], none), [(4, [], [], [(0, (2, 50, 0)), (1, (0, (-2147483648), 2147483647)), (2, (0, 0, 0)), (3, (0, 0, 0))], [], [(0, 3, 1), (0, 4, 2), (0, 5, 3)], [], [], [], none)], [(50, 3), (50, 4), (50, 5)], 0, 0)
set_option maxRecDepth 100000 in
def qP491 : zk_P := ([(16, 7, 3, 0), (20, 7, 4, 0), (23, 7, 5, 0)], [], [], [], [], [], [])
set_option maxRecDepth 100000 in
def qH491 : List zk_Hd := []
set_option maxRecDepth 100000 in
def qX491 : List zk_Hd := []
set_option maxRecDepth 100000 in
theorem qk491 : zk_chk qK qP491 prog_9_method_2_code 1 qC491 none qH491 qX491 73 0 = true := zk_chkD_ok (T := qdt_9_2) qdo_9_2 (by decide +kernel)
set_option maxRecDepth 100000 in
/-- UnaskedLetters$Scales.learn(LUnaskedLetters$Letter;Z)V  -/
def qC492 : zk_C := ((6, [], [0, 1, 2], [(0, (2, 50, 0)), (1, (2, 107, 0)), (2, (0, 0, 1)), (3, (0, (-2147483648), 2147483647)), (4, (0, (-2147483648), 2147483647)), (5, (0, (-2147483648), 2147483647))], [], [(0, 3, 3), (0, 4, 4), (0, 5, 5)], [], [], [], none), [(8, [], [], [(0, (2, 50, 0)), (1, (2, 107, 0)), (2, (0, 0, 1)), (3, (0, (-2147483648), 2147483647)), (4, (0, (-2147483648), 2147483647)), (5, (0, (-2147483648), 2147483647)), (6, (0, (-2147483648), 2147483647)), (7, (0, (-2147483648), 2147483647))], [], [(0, 3, 3), (0, 4, 6), (0, 5, 7)], [], [], [], none)], [(50, 4), (50, 5), (122, 2), (122, 4), (122, 5)], 0, 0)
set_option maxRecDepth 100000 in
def qP492 : zk_P := ([(20, 7, 4, 0), (23, 7, 5, 0), (26, 1, 13, 0), (31, 1, 11, 3), (35, 9, 2, 0), (16, 7, 3, 0), (40, 9, 4, 0), (43, 9, 5, 0)], [], [], [], [], [], [])
set_option maxRecDepth 100000 in
def qH492 : List zk_Hd := [(38, (9, [(0, 0), (1, 1), (2, 2), (3, 6)], [], [(0, (2, 50, 0)), (1, (2, 107, 0)), (2, (0, 0, 1)), (3, (0, (-2147483648), 2147483647)), (4, (0, (-2147483648), 2147483647)), (5, (0, (-2147483648), 2147483647)), (6, (0, 0, 160)), (7, (0, (-2147483648), 2147483647)), (8, (0, (-2147483648), 2147483647))], [], [(0, 3, 3), (0, 4, 7), (0, 5, 8)], [], [], [], none), [(1, none, none), (161, none, some 6), (1, none, none)], 0, 0)]
set_option maxRecDepth 100000 in
def qX492 : List zk_Hd := []
set_option maxRecDepth 100000 in
theorem qk492 : zk_chk qK qP492 prog_9_method_3_code 5 qC492 none qH492 qX492 105 3 = true := zk_chkD_ok (T := qdt_9_3) qdo_9_3 (by decide +kernel)
set_option maxRecDepth 100000 in
/-- UnaskedLetters.learnMarked()V  -/
def qC493 : zk_C := ((2, [], [0], [(0, (2, 2, 0)), (1, (2, 44, 0))], [], [(0, 8, 1)], [], [], [], none), [(6, [], [], [(0, (2, 2, 0)), (1, (2, 44, 0)), (2, (2, 50, 0)), (3, (0, (-2147483648), 2147483647)), (4, (0, (-2147483648), 2147483647)), (5, (0, (-2147483648), 2147483647))], [], [(0, 8, 1), (0, 9, 2), (2, 3, 3), (2, 4, 4), (2, 5, 5)], [], [], [], none)], [(50, 3), (50, 4), (50, 5), (122, 2), (122, 4), (122, 5)], 0, 0)
set_option maxRecDepth 100000 in
def qP493 : zk_P := ([(74, 11, 9, 4), (181, 11, 15, 0), (67, 11, 8, 4), (289, 3, 3, 4), (60, 11, 7, 4)], [], [], [], [], [(4, qC491), (57, qC492)], [])
set_option maxRecDepth 100000 in
def qH493 : List zk_Hd := [(9, (7, [(0, 0), (1, 2)], [], [(0, (2, 2, 0)), (1, (2, 44, 0)), (2, (0, 0, 120)), (3, (2, 50, 0)), (4, (0, (-2147483648), 2147483647)), (5, (0, (-2147483648), 2147483647)), (6, (0, (-2147483648), 2147483647))], [], [(0, 8, 1), (0, 9, 3), (3, 3, 4), (3, 4, 5), (3, 5, 6)], [], [], [], none), [(1, none, none), (121, none, some 2), (1, none, none)], 0, 0)]
set_option maxRecDepth 100000 in
def qX493 : List zk_Hd := []
set_option maxRecDepth 100000 in
theorem qk493 : zk_chk qK qP493 prog_1_method_55_code 2 qC493 none qH493 qX493 89 3 = true := zk_chkD_ok (T := qdt_1_55) qdo_1_55 (by decide +kernel)
set_option maxRecDepth 100000 in
/-- UnaskedLetters.learn(I)V  -/
def qC494 : zk_C := ((2, [], [0, 1], [(0, (2, 2, 0)), (1, (0, (-2147483648), 2147483647))], [], [], [], [], [], none), [(7, [], [], [(0, (2, 2, 0)), (1, (0, (-2147483648), 2147483647)), (2, (2, 44, 0)), (3, (2, 50, 0)), (4, (0, (-2147483648), 2147483647)), (5, (0, (-2147483648), 2147483647)), (6, (0, (-2147483648), 2147483647))], [], [(0, 8, 2), (0, 9, 3), (3, 3, 4), (3, 4, 5), (3, 5, 6)], [], [], [], none)], [(49, 0), (50, 3), (50, 4), (50, 5), (122, 2), (122, 4), (122, 5)], 0, 0)
set_option maxRecDepth 100000 in
def qP494 : zk_P := ([(67, 11, 8, 4)], [], [], [], [], [(5, qC394), (9, qC493)], [])
set_option maxRecDepth 100000 in
def qH494 : List zk_Hd := []
set_option maxRecDepth 100000 in
def qX494 : List zk_Hd := []
set_option maxRecDepth 100000 in
theorem qk494 : zk_chk qK qP494 prog_1_method_54_code 2 qC494 none qH494 qX494 67 0 = true := zk_chkD_ok (T := qdt_1_54) qdo_1_54 (by decide +kernel)
set_option maxRecDepth 100000 in
/-- UnaskedLetters$Letter.settle(I)V  -/
def qC495 : zk_C := ((2, [], [0, 1], [(0, (2, 107, 0)), (1, (0, 1, 5))], [], [], [], [], [], none), [(3, [], [], [(0, (2, 107, 0)), (1, (0, 1, 5)), (2, (0, (-1), (-1)))], [], [(0, 5, 1), (0, 7, 2)], [], [], [], none)], [(107, 5), (107, 7)], 0, 0)
set_option maxRecDepth 100000 in
def qP495 : zk_P := ([(11, 1, 5, 0), (41, 1, 7, 0)], [], [], [], [], [], [])
set_option maxRecDepth 100000 in
def qH495 : List zk_Hd := []
set_option maxRecDepth 100000 in
def qX495 : List zk_Hd := []
set_option maxRecDepth 100000 in
theorem qk495 : zk_chk qK qP495 prog_3_method_2_code 2 qC495 none qH495 qX495 67 0 = true := zk_chkD_ok (T := qdt_3_2) qdo_3_2 (by decide +kernel)
end
