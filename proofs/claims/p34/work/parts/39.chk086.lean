/-! CONTRACTS: found by wip/an (python). -/
set_option maxRecDepth 100000 in
/-- UnaskedLetters.letterAt(I)LUnaskedLetters$Letter;  -/
def qC474 : zk_C := ((2, [], [0, 1], [(0, (2, 2, 0)), (1, (0, (-2147483648), 2147483647))], [], [], [], [], [], none), [(3, [], [2], [(0, (2, 2, 0)), (1, (0, (-2147483648), (-1))), (2, (2, 0, 1))], [], [], [], [], [], none), (3, [], [2], [(0, (2, 2, 0)), (1, (0, 0, 2147483647)), (2, (2, 0, 1))], [], [], [], [], [], none), (4, [], [2], [(0, (2, 2, 0)), (1, (0, 0, 119)), (2, (2, 107, 0)), (3, (0, 1, 120))], [(1, 3, (-1))], [(0, 15, 3)], [], [], [], none)], [], 0, 0)
set_option maxRecDepth 100000 in
def qP474 : zk_P := ([(181, 11, 15, 0), (60, 11, 7, 4)], [], [], [], [], [], [])
set_option maxRecDepth 100000 in
def qH474 : List zk_Hd := []
set_option maxRecDepth 100000 in
def qX474 : List zk_Hd := []
set_option maxRecDepth 100000 in
theorem qk474 : zk_chk qK qP474 prog_1_method_42_code 2 qC474 (some (.object "UnaskedLetters$Letter")) qH474 qX474 72 0 = true := zk_chkD_ok (T := qdt_1_42) qdo_1_42 (by decide +kernel)
set_option maxRecDepth 100000 in
/-- UnaskedLetters.words(II)I  -/
def qC475 : zk_C := ((3, [], [0, 1, 2], [(0, (2, 2, 0)), (1, (0, (-2147483648), 2147483647)), (2, (0, (-2147483648), 2147483647))], [], [], [], [], [], none), [(4, [], [3], [(0, (2, 2, 0)), (1, (0, (-2147483648), (-1))), (2, (0, (-2147483648), 2147483647)), (3, (0, (-1), (-1)))], [], [], [], [], [], none), (4, [], [3], [(0, (2, 2, 0)), (1, (0, 0, 2147483647)), (2, (0, (-2147483648), 2147483647)), (3, (0, (-1), (-1)))], [], [], [], [], [], none), (5, [], [3], [(0, (2, 2, 0)), (1, (0, 0, 119)), (2, (0, 1, 1)), (3, (0, 0, 160)), (4, (0, 1, 120))], [(1, 4, (-1))], [(0, 15, 4)], [], [], [], none), (5, [], [3], [(0, (2, 2, 0)), (1, (0, 0, 119)), (2, (0, 0, 0)), (3, (0, 0, 160)), (4, (0, 1, 120))], [(1, 4, (-1))], [(0, 15, 4)], [], [], [], none)], [], 0, 0)
set_option maxRecDepth 100000 in
def qP475 : zk_P := ([(204, 1, 9, 3), (215, 1, 10, 3)], [], [], [], [], [(2, qC474)], [])
set_option maxRecDepth 100000 in
def qH475 : List zk_Hd := []
set_option maxRecDepth 100000 in
def qX475 : List zk_Hd := []
set_option maxRecDepth 100000 in
theorem qk475 : zk_chk qK qP475 prog_1_method_16_code 4 qC475 (some .int) qH475 qX475 76 0 = true := zk_chkD_ok (T := qdt_1_16) qdo_1_16 (by decide +kernel)
set_option maxRecDepth 100000 in
/-- UnaskedLettersModel.in(III)Z UnaskedLettersModel.isLetter(I)Z@8 -/
def qC476 : zk_C := ((3, [], [0, 1, 2], [(0, (0, (-2147483648), 2147483647)), (1, (0, 0, 0)), (2, (0, (-1), 119))], [], [], [], [], [], none), [(4, [], [3], [(0, (0, (-2147483648), (-1))), (1, (0, 0, 0)), (2, (0, (-1), 119)), (3, (0, 0, 0))], [], [], [], [], [], none), (4, [], [3], [(0, (0, 0, 2147483647)), (1, (0, 0, 0)), (2, (0, (-1), 119)), (3, (0, 0, 0))], [(2, 0, (-1))], [], [], [], [], none), (4, [], [3], [(0, (0, 0, 119)), (1, (0, 0, 0)), (2, (0, 0, 119)), (3, (0, 1, 1))], [(0, 2, 0)], [], [], [], [], none)], [], 0, 0)
set_option maxRecDepth 100000 in
def qP476 : zk_P := ([], [], [], [], [], [], [])
set_option maxRecDepth 100000 in
def qH476 : List zk_Hd := []
set_option maxRecDepth 100000 in
def qX476 : List zk_Hd := []
set_option maxRecDepth 100000 in
theorem qk476 : zk_chk qK qP476 prog_14_method_1_code 3 qC476 (some .boolean) qH476 qX476 69 0 = true := zk_chkD_ok (T := qdt_14_1) qdo_14_1 (by decide +kernel)
set_option maxRecDepth 100000 in
/-- UnaskedLettersModel.isLetter(I)Z  -/
def qC477 : zk_C := ((2, [], [0, 1], [(0, (2, 57, 0)), (1, (0, (-2147483648), 2147483647))], [], [], [], [], [], none), [(3, [], [2], [(0, (2, 57, 0)), (1, (0, (-2147483648), (-1))), (2, (0, 0, 0))], [], [], [], [], [], none), (3, [], [2], [(0, (2, 57, 0)), (1, (0, 0, 2147483647)), (2, (0, 0, 0))], [], [], [], [], [], none), (3, [], [2], [(0, (2, 57, 0)), (1, (0, 0, 119)), (2, (0, 1, 1))], [], [], [], [], [], none)], [], 0, 0)
set_option maxRecDepth 100000 in
def qP477 : zk_P := ([(341, 12, 44, 0)], [], [], [], [], [(8, qC476)], [])
set_option maxRecDepth 100000 in
def qH477 : List zk_Hd := []
set_option maxRecDepth 100000 in
def qX477 : List zk_Hd := []
set_option maxRecDepth 100000 in
theorem qk477 : zk_chk qK qP477 prog_14_method_52_code 2 qC477 (some .boolean) qH477 qX477 68 0 = true := zk_chkD_ok (T := qdt_14_52) qdo_14_52 (by decide +kernel)
set_option maxRecDepth 100000 in
/-- UnaskedLettersModel.in(III)Z UnaskedLettersModel.words(II)I@11 -/
def qC478 : zk_C := ((3, [], [0, 1, 2], [(0, (0, (-2147483648), 2147483647)), (1, (0, 0, 0)), (2, (0, 1, 1))], [], [], [], [], [], none), [(4, [], [3], [(0, (0, (-2147483648), (-1))), (1, (0, 0, 0)), (2, (0, 1, 1)), (3, (0, 0, 0))], [], [], [], [], [], none), (4, [], [3], [(0, (0, 2, 2147483647)), (1, (0, 0, 0)), (2, (0, 1, 1)), (3, (0, 0, 0))], [], [], [], [], [], none), (4, [], [3], [(0, (0, 0, 1)), (1, (0, 0, 0)), (2, (0, 1, 1)), (3, (0, 1, 1))], [], [], [], [], [], none)], [], 0, 0)
set_option maxRecDepth 100000 in
def qP478 : zk_P := ([], [], [], [], [], [], [])
set_option maxRecDepth 100000 in
def qH478 : List zk_Hd := []
set_option maxRecDepth 100000 in
def qX478 : List zk_Hd := []
set_option maxRecDepth 100000 in
theorem qk478 : zk_chk qK qP478 prog_14_method_1_code 3 qC478 (some .boolean) qH478 qX478 69 0 = true := zk_chkD_ok (T := qdt_14_1) qdo_14_1 (by decide +kernel)
set_option maxRecDepth 100000 in
/-- UnaskedLettersModel.words(II)I  -/
def qC479 : zk_C := ((3, [], [0, 1, 2], [(0, (2, 57, 0)), (1, (0, (-2147483648), 2147483647)), (2, (0, (-2147483648), 2147483647))], [], [], [], [], [], none), [(4, [], [3], [(0, (2, 57, 0)), (1, (0, (-2147483648), (-1))), (2, (0, (-2147483648), 2147483647)), (3, (0, (-1), (-1)))], [], [], [], [], [], none), (4, [], [3], [(0, (2, 57, 0)), (1, (0, 0, 2147483647)), (2, (0, (-2147483648), 2147483647)), (3, (0, (-1), (-1)))], [], [], [], [], [], none), (4, [], [3], [(0, (2, 57, 0)), (1, (0, 0, 119)), (2, (0, 1, 1)), (3, (0, 0, 82))], [], [], [], [], [], none), (4, [], [3], [(0, (2, 57, 0)), (1, (0, 0, 119)), (2, (0, 0, 0)), (3, (0, 0, 82))], [], [], [], [], [], none)], [], 0, 0)
set_option maxRecDepth 100000 in
def qP479 : zk_P := ([(69, 12, 33, 4), (72, 12, 34, 4)], [], [], [], [], [(2, qC477), (11, qC478)], [])
set_option maxRecDepth 100000 in
def qH479 : List zk_Hd := []
set_option maxRecDepth 100000 in
def qX479 : List zk_Hd := []
set_option maxRecDepth 100000 in
theorem qk479 : zk_chk qK qP479 prog_14_method_56_code 3 qC479 (some .int) qH479 qX479 77 0 = true := zk_chkD_ok (T := qdt_14_56) qdo_14_56 (by decide +kernel)
set_option maxRecDepth 100000 in
/-- UnaskedLetters$Word.byteOf(JI)I  -/
def qC480 : zk_C := ((2, [], [0, 1], [(0, (1, (-9223372036854775808), 9223372036854775807)), (1, (0, (-2147483648), 2147483647))], [], [], [], [], [], none), [(3, [], [2], [(0, (1, (-9223372036854775808), 9223372036854775807)), (1, (0, 0, 11)), (2, (0, (-2147483648), 2147483647))], [], [], [], [], [], none), (3, [], [2], [(0, (1, (-9223372036854775808), 9223372036854775807)), (1, (0, (-2147483648), (-1))), (2, (0, (-1), (-1)))], [], [], [], [], [], none), (3, [], [2], [(0, (1, (-9223372036854775808), 9223372036854775807)), (1, (0, 0, 2147483647)), (2, (0, (-1), (-1)))], [], [], [], [], [], none)], [], 0, 0)
set_option maxRecDepth 100000 in
def qP480 : zk_P := ([], [], [], [], [(23, 3, (1, 37, 37)), (59, 3, (1, 37, 37)), (73, 3, (1, 37, 37))], [], [])
set_option maxRecDepth 100000 in
def qH480 : List zk_Hd := [(5, (4, [(0, 0), (2, 1), (3, 2), (4, 3)], [], [(0, (1, (-9223372036854775808), 9223372036854775807)), (1, (0, (-2147483648), 2147483647)), (2, (0, 0, 12)), (3, (1, (-9223372036854775808), 9223372036854775807))], [(3, 0, 0)], [], [], [], [], none), [(2, none, none), (13, none, some 2), (1, none, none)], 0, 0), (51, (4, [(2, 1), (4, 2), (6, 3)], [], [(0, (1, (-9223372036854775808), 9223372036854775807)), (1, (0, 0, 11)), (2, (1, (-9223372036854775808), 9223372036854775807)), (3, (0, 0, 11))], [(1, 3, 0)], [], [], [], [], none), [(1, none, none), (1, some 3, none), (1, none, none)], 0, 0)]
set_option maxRecDepth 100000 in
def qX480 : List zk_Hd := []
set_option maxRecDepth 100000 in
theorem qk480 : zk_chk qK qP480 prog_11_method_5_code 7 qC480 (some .int) qH480 qX480 79 3 = true := zk_chkD_ok (T := qdt_11_5) qdo_11_5 (by decide +kernel)
set_option maxRecDepth 100000 in
/-- UnaskedLetters.read(IIII)I  -/
def qC481 : zk_C := ((5, [], [0, 1, 2, 3, 4], [(0, (2, 2, 0)), (1, (0, (-2147483648), 2147483647)), (2, (0, (-2147483648), 2147483647)), (3, (0, (-2147483648), 2147483647)), (4, (0, (-2147483648), 2147483647))], [], [], [], [], [], none), [(6, [], [5], [(0, (2, 2, 0)), (1, (0, (-2147483648), 2147483647)), (2, (0, (-2147483648), 2147483647)), (3, (0, (-2147483648), 2147483647)), (4, (0, (-2147483648), 2147483647)), (5, (0, (-2147483648), 2147483647))], [], [], [], [], [], none)], [], 0, 0)
set_option maxRecDepth 100000 in
def qP481 : zk_P := ([(204, 1, 9, 3), (215, 1, 10, 3), (225, 9, 0, 4)], [], [], [], [], [(2, qC474), (41, qC480), (76, qC480)], [])
set_option maxRecDepth 100000 in
def qH481 : List zk_Hd := []
set_option maxRecDepth 100000 in
def qX481 : List zk_Hd := []
set_option maxRecDepth 100000 in
theorem qk481 : zk_chk qK qP481 prog_1_method_17_code 6 qC481 (some .int) qH481 qX481 87 0 = true := zk_chkD_ok (T := qdt_1_17) qdo_1_17 (by decide +kernel)
set_option maxRecDepth 100000 in
/-- UnaskedLettersModel.in(III)Z UnaskedLettersModel.read(IIII)I@10 -/
def qC482 : zk_C := ((3, [], [0, 1, 2], [(0, (0, (-2147483648), 2147483647)), (1, (0, 0, 0)), (2, (0, (-2), 81))], [], [], [], [], [], none), [(4, [], [3], [(0, (0, (-2147483648), (-1))), (1, (0, 0, 0)), (2, (0, (-2), 81)), (3, (0, 0, 0))], [], [], [], [], [], none), (4, [], [3], [(0, (0, 0, 2147483647)), (1, (0, 0, 0)), (2, (0, (-2), 81)), (3, (0, 0, 0))], [(2, 0, (-1))], [], [], [], [], none), (4, [], [3], [(0, (0, 0, 81)), (1, (0, 0, 0)), (2, (0, 0, 81)), (3, (0, 1, 1))], [(0, 2, 0)], [], [], [], [], none)], [], 0, 0)
set_option maxRecDepth 100000 in
def qP482 : zk_P := ([], [], [], [], [], [], [])
set_option maxRecDepth 100000 in
def qH482 : List zk_Hd := []
set_option maxRecDepth 100000 in
def qX482 : List zk_Hd := []
set_option maxRecDepth 100000 in
theorem qk482 : zk_chk qK qP482 prog_14_method_1_code 3 qC482 (some .boolean) qH482 qX482 69 0 = true := zk_chkD_ok (T := qdt_14_1) qdo_14_1 (by decide +kernel)
set_option maxRecDepth 100000 in
/-- UnaskedLettersModel.wordAt(III)J  -/
def qC483 : zk_C := ((4, [], [0, 1, 2, 3], [(0, (2, 57, 0)), (1, (0, 0, 119)), (2, (0, 0, 1)), (3, (0, 0, 81))], [], [], [], [], [], none), [(5, [], [4], [(0, (2, 57, 0)), (1, (0, 0, 119)), (2, (0, 1, 1)), (3, (0, 0, 81)), (4, (1, (-9223372036854775808), 9223372036854775807))], [], [], [], [], [], none), (5, [], [4], [(0, (2, 57, 0)), (1, (0, 0, 119)), (2, (0, 0, 0)), (3, (0, 0, 81)), (4, (1, (-9223372036854775808), 9223372036854775807))], [], [], [], [], [], none)], [], 0, 0)
set_option maxRecDepth 100000 in
def qP483 : zk_P := ([(62, 12, 31, 4), (66, 12, 32, 4)], [], [], [], [], [], [])
set_option maxRecDepth 100000 in
def qH483 : List zk_Hd := []
set_option maxRecDepth 100000 in
def qX483 : List zk_Hd := []
set_option maxRecDepth 100000 in
theorem qk483 : zk_chk qK qP483 prog_14_method_57_code 4 qC483 (some .long) qH483 qX483 72 0 = true := zk_chkD_ok (T := qdt_14_57) qdo_14_57 (by decide +kernel)
set_option maxRecDepth 100000 in
/-- UnaskedLettersModel.read(IIII)I  -/
def qC484 : zk_C := ((5, [], [0, 1, 2, 3, 4], [(0, (2, 57, 0)), (1, (0, (-2147483648), 2147483647)), (2, (0, (-2147483648), 2147483647)), (3, (0, (-2147483648), 2147483647)), (4, (0, (-2147483648), 2147483647))], [], [], [], [], [], none), [(6, [], [5], [(0, (2, 57, 0)), (1, (0, (-2147483648), 2147483647)), (2, (0, (-2147483648), 2147483647)), (3, (0, (-2147483648), 2147483647)), (4, (0, (-2147483648), 2147483647)), (5, (0, (-2147483648), 2147483647))], [], [], [], [], [], none)], [], 0, 0)
set_option maxRecDepth 100000 in
def qP484 : zk_P := ([], [], [], [], [(51, 3, (1, 37, 37)), (84, 3, (1, 37, 37)), (98, 3, (1, 37, 37))], [(5, qC479), (10, qC482), (27, qC483)], [])
set_option maxRecDepth 100000 in
def qH484 : List zk_Hd := [(39, (8, [(4, 4), (5, 5), (7, 6), (8, 7)], [], [(0, (2, 57, 0)), (1, (0, 0, 119)), (2, (0, 0, 1)), (3, (0, 0, 81)), (4, (0, 0, 2147483647)), (5, (1, (-9223372036854775808), 9223372036854775807)), (6, (0, (-2147483648), 2147483647)), (7, (1, (-9223372036854775808), 9223372036854775807))], [(7, 5, 0)], [], [], [], [], none), [(2, none, none), (1, some 7, some 2), (1, none, none)], 0, 0), (75, (7, [(4, 4), (5, 5), (8, 6)], [], [(0, (2, 57, 0)), (1, (0, 0, 119)), (2, (0, 0, 1)), (3, (0, 0, 81)), (4, (0, 0, 2147483646)), (5, (1, (-9223372036854775808), 9223372036854775807)), (6, (0, 0, 2147483646))], [(4, 6, 0)], [], [], [], [], none), [(1, none, none), (1, some 6, none), (1, none, none)], 0, 0)]
set_option maxRecDepth 100000 in
def qX484 : List zk_Hd := []
set_option maxRecDepth 100000 in
theorem qk484 : zk_chk qK qP484 prog_14_method_58_code 10 qC484 (some .int) qH484 qX484 83 3 = true := zk_chkD_ok (T := qdt_14_58) qdo_14_58 (by decide +kernel)
set_option maxRecDepth 100000 in
/-- java/lang/Math.min(II)I UnaskedLetters.unlike(I)I@22 -/
def qC485 : zk_C := ((2, [], [0, 1], [(0, (0, 0, 160)), (1, (0, 0, 160))], [], [], [], [], [], none), [(2, [], [1], [(0, (0, 1, 160)), (1, (0, 0, 159))], [(1, 0, (-1))], [], [], [], [], none), (2, [], [0], [(0, (0, 0, 160)), (1, (0, 0, 160))], [(0, 1, 0)], [], [], [], [], none)], [], 0, 0)
set_option maxRecDepth 100000 in
def qP485 : zk_P := ([], [], [], [], [], [], [])
set_option maxRecDepth 100000 in
def qH485 : List zk_Hd := []
set_option maxRecDepth 100000 in
def qX485 : List zk_Hd := []
set_option maxRecDepth 100000 in
theorem qk485 : zk_chk qK qP485 prog_18_method_69_code 2 qC485 (some .int) qH485 qX485 66 0 = true := zk_chkD_ok (T := qdt_18_69) qdo_18_69 (by decide +kernel)
set_option maxRecDepth 100000 in
/-- UnaskedLetters.unlike(I)I  -/
def qC486 : zk_C := ((2, [], [0, 1], [(0, (2, 2, 0)), (1, (0, (-2147483648), 2147483647))], [], [], [], [], [], none), [(3, [], [2], [(0, (2, 2, 0)), (1, (0, (-2147483648), 2147483647)), (2, (0, (-1), 160))], [], [], [], [], [], none)], [], 0, 0)
set_option maxRecDepth 100000 in
def qP486 : zk_P := ([(204, 1, 9, 3), (215, 1, 10, 3), (225, 9, 0, 4)], [], [], [], [], [(2, qC474), (22, qC485)], [])
set_option maxRecDepth 100000 in
def qH486 : List zk_Hd := [(29, (10, [(2, 2), (3, 3), (4, 4)], [], [(0, (2, 2, 0)), (1, (0, 0, 119)), (2, (2, 107, 0)), (3, (0, 0, 160)), (4, (0, 0, 160)), (5, (2, 113, 0)), (6, (2, 111, 0)), (7, (0, 1, 120)), (8, (0, 0, 160)), (9, (0, 0, 160))], [(1, 7, (-1)), (3, 8, 0), (3, 9, 0), (4, 3, 0), (4, 8, 0), (4, 9, 0)], [(2, 10, 5), (2, 9, 6), (0, 15, 7)], [(5, 8), (6, 9)], [], [], none), [(1, none, none), (161, none, some 4), (1, none, none)], 0, 0)]
set_option maxRecDepth 100000 in
def qX486 : List zk_Hd := []
set_option maxRecDepth 100000 in
theorem qk486 : zk_chk qK qP486 prog_1_method_18_code 5 qC486 (some .int) qH486 qX486 77 3 = true := zk_chkD_ok (T := qdt_1_18) qdo_1_18 (by decide +kernel)
set_option maxRecDepth 100000 in
/-- java/lang/Math.min(II)I UnaskedLettersModel.unlike(I)I@22 -/
def qC487 : zk_C := ((2, [], [0, 1], [(0, (0, 0, 82)), (1, (0, 0, 82))], [], [], [], [], [], none), [(2, [], [1], [(0, (0, 1, 82)), (1, (0, 0, 81))], [(1, 0, (-1))], [], [], [], [], none), (2, [], [0], [(0, (0, 0, 82)), (1, (0, 0, 82))], [(0, 1, 0)], [], [], [], [], none)], [], 0, 0)
set_option maxRecDepth 100000 in
def qP487 : zk_P := ([], [], [], [], [], [], [])
set_option maxRecDepth 100000 in
def qH487 : List zk_Hd := []
set_option maxRecDepth 100000 in
def qX487 : List zk_Hd := []
set_option maxRecDepth 100000 in
theorem qk487 : zk_chk qK qP487 prog_18_method_69_code 2 qC487 (some .int) qH487 qX487 66 0 = true := zk_chkD_ok (T := qdt_18_69) qdo_18_69 (by decide +kernel)
