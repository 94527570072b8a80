/-! CONTRACTS: found by wip/an (python). -/
set_option maxRecDepth 100000 in
/-- UnaskedLettersModel.spread(I)I  -/
def qC563 : zk_C := ((3, [], [0, 1], [(0, (2, 57, 0)), (1, (0, (-2147483648), 2147483647)), (2, (0, 0, 12))], [], [(0, 6, 2)], [], [], [], none), [(4, [], [3], [(0, (2, 57, 0)), (1, (0, (-2147483648), 2147483647)), (2, (0, 0, 12)), (3, (0, (-1), 255))], [], [(0, 6, 2)], [], [], [], none)], [], 0, 0)
set_option maxRecDepth 100000 in
def qP563 : zk_P := ([], [], [], [], [], [(2, qC19), (45, qC560), (49, qC561), (96, qC562)], [])
set_option maxRecDepth 100000 in
def qH563 : List zk_Hd := [(14, (5, [(0, 0), (1, 1), (2, 3), (3, 4)], [], [(0, (2, 57, 0)), (1, (0, 0, 11)), (2, (0, 1, 12)), (3, (0, (-1), 255)), (4, (0, 0, 256))], [(1, 2, (-1)), (3, 4, (-1))], [(0, 6, 2)], [], [], [], none), [(1, none, none), (257, none, some 4), (1, none, none)], 0, 0)]
set_option maxRecDepth 100000 in
def qX563 : List zk_Hd := []
set_option maxRecDepth 100000 in
theorem qk563 : zk_chk qK qP563 prog_14_method_89_code 7 qC563 (some .int) qH563 qX563 108 3 = true := zk_chkD_ok (T := qdt_14_89) qdo_14_89 (by decide +kernel)
set_option maxRecDepth 100000 in
/-- UnaskedLetters$Tape.wordEnd(I)I  -/
def qC564 : zk_C := ((2, [], [0, 1], [(0, (2, 12, 0)), (1, (0, 0, 160))], [], [], [], [], [], none), [(3, [], [2], [(0, (2, 12, 0)), (1, (0, 0, 160)), (2, (0, 0, 160))], [(1, 2, 0)], [], [], [], [], none)], [], 0, 0)
set_option maxRecDepth 100000 in
def qP564 : zk_P := ([(15, 8, 1, 0)], [], [], [], [], [(12, qC34), (15, qC36)], [])
set_option maxRecDepth 100000 in
def qH564 : List zk_Hd := [(2, (3, [(0, 0), (2, 2)], [], [(0, (2, 12, 0)), (1, (0, 0, 160)), (2, (0, 0, 160))], [(1, 2, 0)], [], [], [], [], none), [(1, none, none), (161, none, some 2), (1, none, none)], 0, 0)]
set_option maxRecDepth 100000 in
def qX564 : List zk_Hd := []
set_option maxRecDepth 100000 in
theorem qk564 : zk_chk qK qP564 prog_10_method_5_code 3 qC564 (some .int) qH564 qX564 72 3 = true := zk_chkD_ok (T := qdt_10_5) qdo_10_5 (by decide +kernel)
set_option maxRecDepth 100000 in
/-- UnaskedLetters$Word.isLength(I)Z  -/
def qC565 : zk_C := ((1, [], [0], [(0, (0, (-12), 159))], [], [], [], [], [], none), [(2, [], [1], [(0, (0, (-12), 0)), (1, (0, 0, 0))], [], [], [], [], [], none), (2, [], [1], [(0, (0, 13, 159)), (1, (0, 0, 0))], [], [], [], [], [], none), (2, [], [1], [(0, (0, 1, 12)), (1, (0, 1, 1))], [], [], [], [], [], none)], [], 0, 0)
set_option maxRecDepth 100000 in
def qP565 : zk_P := ([], [], [], [], [], [], [])
set_option maxRecDepth 100000 in
def qH565 : List zk_Hd := []
set_option maxRecDepth 100000 in
def qX565 : List zk_Hd := []
set_option maxRecDepth 100000 in
theorem qk565 : zk_chk qK qP565 prog_11_method_2_code 1 qC565 (some .boolean) qH565 qX565 69 0 = true := zk_chkD_ok (T := qdt_11_2) qdo_11_2 (by decide +kernel)
set_option maxRecDepth 100000 in
/-- UnaskedLetters$Tape.spell(II)J  -/
def qC566 : zk_C := ((4, [], [0, 1, 2], [(0, (2, 12, 0)), (1, (0, 0, 13)), (2, (0, 1, 160)), (3, (0, 2, 160))], [(1, 2, 0), (1, 3, 0), (2, 3, 0)], [(0, 1, 3)], [], [], [], none), [(6, [], [4], [(0, (2, 12, 0)), (1, (0, 0, 13)), (2, (0, 1, 160)), (3, (0, 2, 160)), (4, (1, (-9223372036854775808), 9223372036854775807)), (5, (0, 2, 160))], [(1, 2, 0), (1, 3, 0), (1, 5, 0), (2, 3, 0), (2, 5, 0), (3, 5, 0), (5, 3, 0)], [(0, 1, 5)], [], [], [], none)], [], 0, 0)
set_option maxRecDepth 100000 in
def qP566 : zk_P := ([], [], [], [], [], [(15, qC34), (18, qC439)], [])
set_option maxRecDepth 100000 in
def qH566 : List zk_Hd := [(5, (7, [(0, 0), (2, 2), (3, 4), (5, 5)], [], [(0, (2, 12, 0)), (1, (0, 0, 13)), (2, (0, 1, 160)), (3, (0, 2, 160)), (4, (1, (-9223372036854775808), 9223372036854775807)), (5, (0, 0, 160)), (6, (0, 2, 160))], [(1, 2, 0), (1, 3, 0), (1, 5, 0), (1, 6, 0), (2, 3, 0), (2, 6, 0), (3, 6, 0), (5, 2, 0), (5, 3, 0), (5, 6, 0), (6, 3, 0)], [(0, 1, 6)], [], [], [], none), [(1, none, none), (161, none, some 5), (1, none, none)], 0, 0)]
set_option maxRecDepth 100000 in
def qX566 : List zk_Hd := []
set_option maxRecDepth 100000 in
theorem qk566 : zk_chk qK qP566 prog_10_method_6_code 6 qC566 (some .long) qH566 qX566 72 3 = true := zk_chkD_ok (T := qdt_10_6) qdo_10_6 (by decide +kernel)
set_option maxRecDepth 100000 in
/-- UnaskedLetters$WordBook.addSwap(LUnaskedLetters$Word;LUnaskedLetters$Word;)I  -/
def qC567 : zk_C := ((4, [], [0, 1, 2], [(0, (2, 37, 0)), (1, (2, 122, 0)), (2, (2, 122, 0)), (3, (0, 0, 7))], [], [(0, 4, 3)], [], [], [], none), [(5, [], [3], [(0, (2, 37, 0)), (1, (2, 122, 0)), (2, (2, 122, 0)), (3, (0, 0, 7)), (4, (0, 1, 8))], [(3, 4, (-1)), (4, 3, 1)], [(0, 4, 4)], [], [], [], none)], [(37, 4), (40, 0), (41, 0)], 0, 0)
set_option maxRecDepth 100000 in
def qP567 : zk_P := ([(54, 10, 4, 0), (17, 10, 1, 4), (20, 10, 2, 4)], [(11, 122)], [], [], [], [], [])
set_option maxRecDepth 100000 in
def qH567 : List zk_Hd := []
set_option maxRecDepth 100000 in
def qX567 : List zk_Hd := []
set_option maxRecDepth 100000 in
theorem qk567 : zk_chk qK qP567 prog_12_method_5_code 3 qC567 (some .int) qH567 qX567 84 0 = true := zk_chkD_ok (T := qdt_12_5) qdo_12_5 (by decide +kernel)
set_option maxRecDepth 100000 in
/-- UnaskedLetters.swap()I  -/
def qC568 : zk_C := ((1, [], [0], [(0, (2, 2, 0))], [], [], [], [], [], none), [(5, [], [1], [(0, (2, 2, 0)), (1, (0, (-1), 7)), (2, (2, 12, 0)), (3, (2, 37, 0)), (4, (0, 0, 8))], [(1, 4, (-1))], [(0, 1, 2), (0, 6, 3), (3, 4, 4)], [], [], [], none)], [(12, 1), (37, 4), (39, 0), (40, 0), (41, 0), (123, 0), (123, 1), (123, 1000)], 2, 12)
set_option maxRecDepth 100000 in
def qP568 : zk_P := ([(19, 11, 1, 4), (54, 11, 6, 4), (340, 10, 4, 0), (120, 8, 1, 0)], [], [], [], [], [(5, qC564), (26, qC34), (43, qC564), (59, qC565), (70, qC565), (88, qC566), (91, qC463), (107, qC566), (110, qC463), (130, qC567)], [])
set_option maxRecDepth 100000 in
def qH568 : List zk_Hd := []
set_option maxRecDepth 100000 in
def qX568 : List zk_Hd := []
set_option maxRecDepth 100000 in
theorem qk568 : zk_chk qK qP568 prog_1_method_32_code 5 qC568 (some .int) qH568 qX568 128 0 = true := zk_chkD_ok (T := qdt_1_32) qdo_1_32 (by decide +kernel)
set_option maxRecDepth 100000 in
/-- UnaskedLettersModel.in(III)Z UnaskedLettersModel.swap()I@57 -/
def qC569 : zk_C := ((3, [], [0, 1, 2], [(0, (0, (-1), 159)), (1, (0, 1, 1)), (2, (0, 12, 12))], [], [], [], [], [], none), [(4, [], [3], [(0, (0, (-1), 0)), (1, (0, 1, 1)), (2, (0, 12, 12)), (3, (0, 0, 0))], [], [], [], [], [], none), (4, [], [3], [(0, (0, 13, 159)), (1, (0, 1, 1)), (2, (0, 12, 12)), (3, (0, 0, 0))], [], [], [], [], [], none), (4, [], [3], [(0, (0, 1, 12)), (1, (0, 1, 1)), (2, (0, 12, 12)), (3, (0, 1, 1))], [], [], [], [], [], none)], [], 0, 0)
set_option maxRecDepth 100000 in
def qP569 : zk_P := ([], [], [], [], [], [], [])
set_option maxRecDepth 100000 in
def qH569 : List zk_Hd := []
set_option maxRecDepth 100000 in
def qX569 : List zk_Hd := []
set_option maxRecDepth 100000 in
theorem qk569 : zk_chk qK qP569 prog_14_method_1_code 3 qC569 (some .boolean) qH569 qX569 69 0 = true := zk_chkD_ok (T := qdt_14_1) qdo_14_1 (by decide +kernel)
set_option maxRecDepth 100000 in
/-- UnaskedLettersModel.in(III)Z UnaskedLettersModel.swap()I@74 -/
def qC570 : zk_C := ((3, [], [0, 1, 2], [(0, (0, (-13), 158)), (1, (0, 1, 1)), (2, (0, 12, 12))], [], [], [], [], [], none), [(4, [], [3], [(0, (0, (-13), 0)), (1, (0, 1, 1)), (2, (0, 12, 12)), (3, (0, 0, 0))], [], [], [], [], [], none), (4, [], [3], [(0, (0, 13, 158)), (1, (0, 1, 1)), (2, (0, 12, 12)), (3, (0, 0, 0))], [], [], [], [], [], none), (4, [], [3], [(0, (0, 1, 12)), (1, (0, 1, 1)), (2, (0, 12, 12)), (3, (0, 1, 1))], [], [], [], [], [], none)], [], 0, 0)
set_option maxRecDepth 100000 in
def qP570 : zk_P := ([], [], [], [], [], [], [])
set_option maxRecDepth 100000 in
def qH570 : List zk_Hd := []
set_option maxRecDepth 100000 in
def qX570 : List zk_Hd := []
set_option maxRecDepth 100000 in
theorem qk570 : zk_chk qK qP570 prog_14_method_1_code 3 qC570 (some .boolean) qH570 qX570 69 0 = true := zk_chkD_ok (T := qdt_14_1) qdo_14_1 (by decide +kernel)
