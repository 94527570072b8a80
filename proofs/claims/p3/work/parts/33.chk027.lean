/-! CONTRACTS: found by wip/an (python). -/
noncomputable section
set_option maxRecDepth 100000 in
/-- UnaskedLetters$Word.isLength(I)Z  -/
def qC563 : zk_C := ((1, [], [0], [(0, (0, (-12), 159))], [], [], [], [], [], none), [(2, [], [1], [(0, (0, (-12), 0)), (1, (0, 0, 0))], [], [], [], [], [], none), (2, [], [1], [(0, (0, 13, 159)), (1, (0, 0, 0))], [], [], [], [], [], none), (2, [], [1], [(0, (0, 1, 12)), (1, (0, 1, 1))], [], [], [], [], [], none)], [], 0, 0)
set_option maxRecDepth 100000 in
def qP563 : zk_P := ([], [], [], [], [], [], [])
set_option maxRecDepth 100000 in
def qH563 : List zk_Hd := []
set_option maxRecDepth 100000 in
def qX563 : List zk_Hd := []
set_option maxRecDepth 100000 in
theorem qk563 : zk_chk qK qP563 prog_11_method_2_code 1 qC563 (some .boolean) qH563 qX563 69 0 = true := zk_chkD_ok (T := qdt_11_2) qdo_11_2 (by decide +kernel)
set_option maxRecDepth 100000 in
/-- UnaskedLetters$Tape.spell(II)J  -/
def qC564 : zk_C := ((4, [], [0, 1, 2], [(0, (2, 12, 0)), (1, (0, 0, 13)), (2, (0, 1, 160)), (3, (0, 2, 160))], [(1, 2, 0), (1, 3, 0), (2, 3, 0)], [(0, 1, 3)], [], [], [], none), [(6, [], [4], [(0, (2, 12, 0)), (1, (0, 0, 13)), (2, (0, 1, 160)), (3, (0, 2, 160)), (4, (1, (-9223372036854775808), 9223372036854775807)), (5, (0, 2, 160))], [(1, 2, 0), (1, 3, 0), (1, 5, 0), (2, 3, 0), (2, 5, 0), (3, 5, 0), (5, 3, 0)], [(0, 1, 5)], [], [], [], none)], [], 0, 0)
set_option maxRecDepth 100000 in
def qP564 : zk_P := ([], [], [], [], [], [(15, qC32), (18, qC437)], [])
set_option maxRecDepth 100000 in
def qH564 : List zk_Hd := [(5, (7, [(0, 0), (2, 2), (3, 4), (5, 5)], [], [(0, (2, 12, 0)), (1, (0, 0, 13)), (2, (0, 1, 160)), (3, (0, 2, 160)), (4, (1, (-9223372036854775808), 9223372036854775807)), (5, (0, 0, 160)), (6, (0, 2, 160))], [(1, 2, 0), (1, 3, 0), (1, 5, 0), (1, 6, 0), (2, 3, 0), (2, 6, 0), (3, 6, 0), (5, 2, 0), (5, 3, 0), (5, 6, 0), (6, 3, 0)], [(0, 1, 6)], [], [], [], none), [(1, none, none), (161, none, some 5), (1, none, none)], 0, 0)]
set_option maxRecDepth 100000 in
def qX564 : List zk_Hd := []
set_option maxRecDepth 100000 in
theorem qk564 : zk_chk qK qP564 prog_10_method_6_code 6 qC564 (some .long) qH564 qX564 72 3 = true := zk_chkD_ok (T := qdt_10_6) qdo_10_6 (by decide +kernel)
set_option maxRecDepth 100000 in
/-- UnaskedLetters$WordBook.addSwap(LUnaskedLetters$Word;LUnaskedLetters$Word;)I  -/
def qC565 : zk_C := ((4, [], [0, 1, 2], [(0, (2, 37, 0)), (1, (2, 122, 0)), (2, (2, 122, 0)), (3, (0, 0, 7))], [], [(0, 4, 3)], [], [], [], none), [(5, [], [3], [(0, (2, 37, 0)), (1, (2, 122, 0)), (2, (2, 122, 0)), (3, (0, 0, 7)), (4, (0, 1, 8))], [(3, 4, (-1)), (4, 3, 1)], [(0, 4, 4)], [], [], [], none)], [(37, 4), (40, 0), (41, 0)], 0, 0)
set_option maxRecDepth 100000 in
def qP565 : zk_P := ([(54, 10, 4, 0), (17, 10, 1, 4), (20, 10, 2, 4)], [(11, 122)], [], [], [], [], [])
set_option maxRecDepth 100000 in
def qH565 : List zk_Hd := []
set_option maxRecDepth 100000 in
def qX565 : List zk_Hd := []
set_option maxRecDepth 100000 in
theorem qk565 : zk_chk qK qP565 prog_12_method_5_code 3 qC565 (some .int) qH565 qX565 84 0 = true := zk_chkD_ok (T := qdt_12_5) qdo_12_5 (by decide +kernel)
set_option maxRecDepth 100000 in
/-- UnaskedLetters.swap()I  -/
def qC566 : zk_C := ((1, [], [0], [(0, (2, 2, 0))], [], [], [], [], [], none), [(5, [], [1], [(0, (2, 2, 0)), (1, (0, (-1), 7)), (2, (2, 12, 0)), (3, (2, 37, 0)), (4, (0, 0, 8))], [(1, 4, (-1))], [(0, 1, 2), (0, 6, 3), (3, 4, 4)], [], [], [], none)], [(12, 1), (37, 4), (39, 0), (40, 0), (41, 0), (123, 0), (123, 1), (123, 1000)], 2, 12)
set_option maxRecDepth 100000 in
def qP566 : zk_P := ([(19, 11, 1, 4), (54, 11, 6, 4), (340, 10, 4, 0), (120, 8, 1, 0)], [], [], [], [], [(5, qC562), (26, qC32), (43, qC562), (59, qC563), (70, qC563), (88, qC564), (91, qC461), (107, qC564), (110, qC461), (130, qC565)], [])
set_option maxRecDepth 100000 in
def qH566 : List zk_Hd := []
set_option maxRecDepth 100000 in
def qX566 : List zk_Hd := []
set_option maxRecDepth 100000 in
theorem qk566 : zk_chk qK qP566 prog_1_method_32_code 5 qC566 (some .int) qH566 qX566 128 0 = true := zk_chkD_ok (T := qdt_1_32) qdo_1_32 (by decide +kernel)
set_option maxRecDepth 100000 in
/-- UnaskedLettersModel.in(III)Z UnaskedLettersModel.swap()I@57 -/
def qC567 : zk_C := ((3, [], [0, 1, 2], [(0, (0, (-1), 159)), (1, (0, 1, 1)), (2, (0, 12, 12))], [], [], [], [], [], none), [(4, [], [3], [(0, (0, (-1), 0)), (1, (0, 1, 1)), (2, (0, 12, 12)), (3, (0, 0, 0))], [], [], [], [], [], none), (4, [], [3], [(0, (0, 13, 159)), (1, (0, 1, 1)), (2, (0, 12, 12)), (3, (0, 0, 0))], [], [], [], [], [], none), (4, [], [3], [(0, (0, 1, 12)), (1, (0, 1, 1)), (2, (0, 12, 12)), (3, (0, 1, 1))], [], [], [], [], [], none)], [], 0, 0)
set_option maxRecDepth 100000 in
def qP567 : zk_P := ([], [], [], [], [], [], [])
set_option maxRecDepth 100000 in
def qH567 : List zk_Hd := []
set_option maxRecDepth 100000 in
def qX567 : List zk_Hd := []
set_option maxRecDepth 100000 in
theorem qk567 : zk_chk qK qP567 prog_14_method_1_code 3 qC567 (some .boolean) qH567 qX567 69 0 = true := zk_chkD_ok (T := qdt_14_1) qdo_14_1 (by decide +kernel)
set_option maxRecDepth 100000 in
/-- UnaskedLettersModel.in(III)Z UnaskedLettersModel.swap()I@74 -/
def qC568 : zk_C := ((3, [], [0, 1, 2], [(0, (0, (-13), 158)), (1, (0, 1, 1)), (2, (0, 12, 12))], [], [], [], [], [], none), [(4, [], [3], [(0, (0, (-13), 0)), (1, (0, 1, 1)), (2, (0, 12, 12)), (3, (0, 0, 0))], [], [], [], [], [], none), (4, [], [3], [(0, (0, 13, 158)), (1, (0, 1, 1)), (2, (0, 12, 12)), (3, (0, 0, 0))], [], [], [], [], [], none), (4, [], [3], [(0, (0, 1, 12)), (1, (0, 1, 1)), (2, (0, 12, 12)), (3, (0, 1, 1))], [], [], [], [], [], none)], [], 0, 0)
set_option maxRecDepth 100000 in
def qP568 : zk_P := ([], [], [], [], [], [], [])
set_option maxRecDepth 100000 in
def qH568 : List zk_Hd := []
set_option maxRecDepth 100000 in
def qX568 : List zk_Hd := []
set_option maxRecDepth 100000 in
theorem qk568 : zk_chk qK qP568 prog_14_method_1_code 3 qC568 (some .boolean) qH568 qX568 69 0 = true := zk_chkD_ok (T := qdt_14_1) qdo_14_1 (by decide +kernel)
set_option maxRecDepth 100000 in
/-- UnaskedLettersModel.swap()I  -/
def qC569 : zk_C := ((1, [], [0], [(0, (2, 57, 0))], [], [], [], [], [], none), [(3, [], [1], [(0, (2, 57, 0)), (1, (0, (-1), 7)), (2, (0, 0, 160))], [], [(0, 9, 2)], [], [], [], none)], [(57, 9), (57, 65), (102, 0), (103, 0)], 0, 0)
set_option maxRecDepth 100000 in
def qP569 : zk_P := ([(181, 12, 9, 0), (26, 12, 8, 4), (443, 12, 65, 0), (141, 12, 62, 4), (144, 12, 63, 4)], [], [], [], [(134, 3, (1, 37, 37)), (175, 3, (1, 37, 37))], [(39, qC170), (57, qC567), (74, qC568), (153, qC468), (194, qC468)], [])
set_option maxRecDepth 100000 in
def qH569 : List zk_Hd := [(4, (3, [(0, 0), (1, 1), (2, 2)], [], [(0, (2, 57, 0)), (1, (0, (-1), 159)), (2, (0, 0, 160))], [(1, 2, (-1))], [], [], [], [], none), [(2, none, none), (161, none, some 2), (1, none, none)], 0, 0), (113, (5, [(0, 0), (1, 1), (2, 2)], [], [(0, (2, 57, 0)), (1, (0, 1, 12)), (2, (0, 0, 160)), (3, (0, 0, 7)), (4, (0, 0, 160))], [(2, 4, 0)], [(0, 65, 3), (0, 9, 4)], [], [], [], none), [(1, none, none), (161, none, some 2), (1, none, none)], 0, 0)]
set_option maxRecDepth 100000 in
def qX569 : List zk_Hd := []
set_option maxRecDepth 100000 in
theorem qk569 : zk_chk qK qP569 prog_14_method_91_code 3 qC569 (some .int) qH569 qX569 98 3 = true := zk_chkD_ok (T := qdt_14_91) qdo_14_91 (by decide +kernel)
set_option maxRecDepth 100000 in
/-- UnaskedLetters$WordBook.inPlaceOf(LUnaskedLetters$Word;I)LUnaskedLetters$Word;  -/
def qC570 : zk_C := ((4, [], [0, 1, 2], [(0, (2, 37, 0)), (1, (2, 122, 0)), (2, (0, 0, 1000)), (3, (0, 0, 8))], [], [(0, 4, 3)], [], [], [], none), [(4, [], [1], [(0, (2, 37, 0)), (1, (2, 122, 0)), (2, (0, 0, 1000)), (3, (0, 0, 8))], [], [(0, 4, 3)], [], [], [], none), (5, [], [4], [(0, (2, 37, 0)), (1, (2, 122, 0)), (2, (0, 0, 1000)), (3, (0, 1, 8)), (4, (2, 122, 0))], [], [(0, 4, 3)], [], [], [], none)], [], 0, 0)
set_option maxRecDepth 100000 in
def qP570 : zk_P := ([(54, 10, 4, 0), (17, 10, 1, 4), (36, 9, 0, 4), (20, 10, 2, 4)], [], [], [], [], [], [])
set_option maxRecDepth 100000 in
def qH570 : List zk_Hd := [(2, (5, [(0, 0), (1, 1), (2, 2), (3, 4)], [], [(0, (2, 37, 0)), (1, (2, 122, 0)), (2, (0, 0, 1000)), (3, (0, 0, 8)), (4, (0, 0, 8))], [(4, 3, 0)], [(0, 4, 3)], [], [], [], none), [(1, none, none), (9, none, some 4), (1, none, none)], 0, 0)]
set_option maxRecDepth 100000 in
def qX570 : List zk_Hd := []
set_option maxRecDepth 100000 in
theorem qk570 : zk_chk qK qP570 prog_12_method_7_code 4 qC570 (some (.object "UnaskedLetters$Word")) qH570 qX570 84 3 = true := zk_chkD_ok (T := qdt_12_7) qdo_12_7 (by decide +kernel)
set_option maxRecDepth 100000 in
/-- UnaskedLetters$WordBook.change(LUnaskedLetters$Letter;I)I  -/
def qC571 : zk_C := ((5, [], [0, 1, 2], [(0, (2, 37, 0)), (1, (2, 107, 0)), (2, (0, 0, 1000)), (3, (2, 42, 0)), (4, (0, 0, 8))], [], [(0, 3, 3), (0, 4, 4)], [], [], [], none), [(7, [], [5], [(0, (2, 37, 0)), (1, (2, 107, 0)), (2, (0, 0, 1000)), (3, (2, 42, 0)), (4, (0, 0, 8)), (5, (0, 0, 160)), (6, (0, (-2147483648), 2147483647))], [], [(0, 3, 3), (0, 4, 4), (0, 5, 6)], [], [(3, 5, 0)], [], none)], [(37, 5), (42, 0), (122, 3)], 0, 0)
set_option maxRecDepth 100000 in
def qP571 : zk_P := ([(60, 1, 13, 0), (25, 10, 3, 4), (65, 1, 11, 3)], [(11, 122)], [], [], [], [(3, qC458), (36, qC570), (44, qC462)], [(0, [(1000, some 3)])])
set_option maxRecDepth 100000 in
def qH571 : List zk_Hd := [(9, (8, [(0, 0), (1, 1), (2, 2), (3, 5), (4, 6)], [], [(0, (2, 37, 0)), (1, (2, 107, 0)), (2, (0, 0, 1000)), (3, (2, 42, 0)), (4, (0, 0, 8)), (5, (0, 0, 160)), (6, (0, 0, 160)), (7, (0, (-2147483648), 2147483647))], [(5, 6, 0)], [(0, 3, 3), (0, 4, 4), (0, 5, 7)], [], [(3, 5, 0)], [], none), [(1, none, none), (161, none, some 5), (1, none, none), (161, none, some 6), (1, none, none)], 0, 0)]
set_option maxRecDepth 100000 in
def qX571 : List zk_Hd := []
set_option maxRecDepth 100000 in
theorem qk571 : zk_chk qK qP571 prog_12_method_6_code 6 qC571 (some .int) qH571 qX571 90 5 = true := zk_chkD_ok (T := qdt_12_6) qdo_12_6 (by decide +kernel)
set_option maxRecDepth 100000 in
/-- UnaskedLetters$Scales.weigh([LUnaskedLetters$Word;I)I %42 -/
def qC572 : zk_C := ((6, [], [0, 1, 2], [(0, (2, 50, 0)), (1, (2, 42, 0)), (2, (0, 0, 160)), (3, (0, (-2147483648), 2147483647)), (4, (0, (-2147483648), 2147483647)), (5, (0, (-2147483648), 2147483647))], [], [(0, 3, 3), (0, 4, 4), (0, 5, 5)], [], [(1, 2, 0)], [], none), [(9, [], [6], [(0, (2, 50, 0)), (1, (2, 42, 0)), (2, (0, 0, 160)), (3, (0, (-2147483648), 2147483647)), (4, (0, (-2147483648), 2147483647)), (5, (0, (-2147483648), 2147483647)), (6, (0, (-2147483648), 2147483647)), (7, (0, 0, 160)), (8, (0, 0, 5))], [(7, 2, 0)], [(0, 1003, 7), (0, 2, 8), (0, 3, 3), (0, 4, 4), (0, 5, 5)], [], [(1, 7, 0), (1, 2, 0)], [(2, 4, 0, 0), (2, 5, 0, 0)], none), (8, [], [6], [(0, (2, 50, 0)), (1, (2, 42, 0)), (2, (0, 0, 160)), (3, (0, (-2147483648), 2147483647)), (4, (0, 0, 0)), (5, (0, (-2147483648), 2147483647)), (6, (0, 0, 0)), (7, (0, 0, 0))], [], [(0, 1003, 7), (0, 2, 7), (0, 3, 3), (0, 4, 4), (0, 5, 5)], [], [(1, 6, 0), (1, 7, 0), (1, 4, 0), (1, 2, 0)], [], none), (8, [], [6], [(0, (2, 50, 0)), (1, (2, 42, 0)), (2, (0, 0, 160)), (3, (0, (-2147483648), 2147483647)), (4, (0, (-2147483648), 2147483647)), (5, (0, 0, 0)), (6, (0, 0, 0)), (7, (0, 0, 0))], [], [(0, 1003, 7), (0, 2, 7), (0, 3, 3), (0, 4, 4), (0, 5, 5)], [], [(1, 6, 0), (1, 7, 0), (1, 5, 0), (1, 2, 0)], [(2, 4, 0, 0)], none)], [(50, 2), (52, 0), (53, 0)], 0, 0)
set_option maxRecDepth 100000 in
def qP572 : zk_P := ([(46, 7, 2, 0), (20, 7, 4, 0), (23, 7, 5, 0), (35, 9, 2, 0), (16, 7, 3, 0), (9, 7, 0, 4)], [], [], [], [], [(52, qC498), (56, qC499)], [(5, [])])
set_option maxRecDepth 100000 in
def qX572 : zk_Hd := (5, (7, [(0, 0), (1, 1), (2, 2)], [], [(0, (2, 50, 0)), (1, (2, 42, 0)), (2, (0, 0, 160)), (3, (0, (-2147483648), 2147483647)), (4, (0, (-2147483648), 2147483647)), (5, (0, (-2147483648), 2147483647)), (6, (0, 0, 0))], [], [(0, 2, 6), (0, 3, 3), (0, 4, 4), (0, 5, 5)], [], [(1, 6, 0), (1, 2, 0)], [], none), [(0, none, none)], 0, 0)
set_option maxRecDepth 100000 in
theorem qk572 : zk_chk qK qP572 prog_9_method_4_code 5 qC572 (some .int) [] [qX572] 85 1 = true := zk_chkD_ok (T := qdt_9_4) qdo_9_4 (by decide +kernel)
set_option maxRecDepth 100000 in
def qG572 : zk_Hd := (5, (7, [(0, 0), (1, 1), (2, 2)], [], [(0, (2, 50, 0)), (1, (2, 42, 0)), (2, (0, 0, 160)), (3, (0, (-2147483648), 2147483647)), (4, (0, (-2147483648), 2147483647)), (5, (0, (-2147483648), 2147483647)), (6, (0, 0, 0))], [], [(0, 1003, 6), (0, 2, 6), (0, 3, 3), (0, 4, 4), (0, 5, 5)], [], [(1, 6, 0), (1, 2, 0)], [], none), [(0, none, none)], 0, 0)
set_option maxRecDepth 100000 in
def qH572 : List zk_Hd := [(70, (9, [(0, 0), (3, 6), (4, 7)], [], [(0, (2, 50, 0)), (1, (2, 42, 0)), (2, (0, 0, 160)), (3, (0, (-2147483648), 2147483647)), (4, (0, (-2147483648), 2147483647)), (5, (0, (-2147483648), 2147483647)), (6, (0, (-2147483648), 2147483647)), (7, (0, 0, 5)), (8, (0, 0, 160))], [(8, 2, 0)], [(0, 1003, 8), (0, 3, 3), (0, 4, 4), (0, 5, 5)], [], [(1, 8, 0), (1, 2, 0)], [(2, 4, 0, 0), (2, 5, 0, 0)], none), [(1, none, none), (6, none, some 7), (1, none, none)], 0, 0), (23, (8, [(0, 0), (1, 1), (2, 2), (3, 6)], [], [(0, (2, 50, 0)), (1, (2, 42, 0)), (2, (0, 0, 160)), (3, (0, (-2147483648), 2147483647)), (4, (0, (-2147483648), 2147483647)), (5, (0, (-2147483648), 2147483647)), (6, (0, 0, 160)), (7, (0, 0, 160))], [(6, 2, 0), (7, 2, 0), (7, 6, 0)], [(0, 1003, 7), (0, 3, 3), (0, 4, 4), (0, 5, 5)], [], [(1, 7, 0), (1, 2, 0)], [(2, 4, 0, 0), (2, 5, 0, 0)], none), [(2, none, none), (161, none, some 6), (1, none, none)], 0, 0)]
set_option maxRecDepth 100000 in
theorem qg572 : zk_chf qK qP572 prog_9_method_4_code 5 qC572 (some .int) qH572 [] qG572 85 3 = true := zk_chfD_ok (T := qdt_9_4) qdo_9_4 (by decide +kernel)
set_option maxRecDepth 100000 in
/-- java/lang/Integer.bitCount(I)I UnaskedLetters.round(III)I@94 -/
def qC573 : zk_C := ((1, [], [0], [(0, (0, 0, 255))], [], [], [], [], [], none), [(2, [], [1], [(0, (0, 0, 255)), (1, (0, 0, 63))], [], [], [], [], [], none)], [], 0, 0)
set_option maxRecDepth 100000 in
def qP573 : zk_P := ([], [], [], [], [(4, 3, (0, 1431655765, 1431655765)), (11, 3, (0, 858993459, 858993459)), (18, 3, (0, 858993459, 858993459)), (29, 3, (0, 252645135, 252645135))], [], [])
set_option maxRecDepth 100000 in
def qH573 : List zk_Hd := []
set_option maxRecDepth 100000 in
def qX573 : List zk_Hd := []
set_option maxRecDepth 100000 in
theorem qk573 : zk_chk qK qP573 prog_17_method_49_code 1 qC573 (some .int) qH573 qX573 102 0 = true := zk_chkD_ok (T := qdt_17_49) qdo_17_49 (by decide +kernel)
set_option maxRecDepth 100000 in
/-- java/lang/Integer.bitCount(I)I UnaskedLetters.round(III)I@99 -/
def qC574 : zk_C := ((1, [], [0], [(0, (0, 0, 288))], [], [], [], [], [], none), [(2, [], [1], [(0, (0, 0, 288)), (1, (0, 0, 63))], [], [], [], [], [], none)], [], 0, 0)
set_option maxRecDepth 100000 in
def qP574 : zk_P := ([], [], [], [], [(4, 3, (0, 1431655765, 1431655765)), (11, 3, (0, 858993459, 858993459)), (18, 3, (0, 858993459, 858993459)), (29, 3, (0, 252645135, 252645135))], [], [])
set_option maxRecDepth 100000 in
def qH574 : List zk_Hd := []
set_option maxRecDepth 100000 in
def qX574 : List zk_Hd := []
set_option maxRecDepth 100000 in
theorem qk574 : zk_chk qK qP574 prog_17_method_49_code 1 qC574 (some .int) qH574 qX574 102 0 = true := zk_chkD_ok (T := qdt_17_49) qdo_17_49 (by decide +kernel)
set_option maxRecDepth 100000 in
/-- java/lang/Integer.bitCount(I)I UnaskedLetters.round(III)I@120 -/
def qC575 : zk_C := ((1, [], [0], [(0, (0, 0, 255))], [], [], [], [], [], none), [(2, [], [1], [(0, (0, 0, 255)), (1, (0, 0, 63))], [], [], [], [], [], none)], [], 0, 0)
set_option maxRecDepth 100000 in
def qP575 : zk_P := ([], [], [], [], [(4, 3, (0, 1431655765, 1431655765)), (11, 3, (0, 858993459, 858993459)), (18, 3, (0, 858993459, 858993459)), (29, 3, (0, 252645135, 252645135))], [], [])
set_option maxRecDepth 100000 in
def qH575 : List zk_Hd := []
set_option maxRecDepth 100000 in
def qX575 : List zk_Hd := []
set_option maxRecDepth 100000 in
theorem qk575 : zk_chk qK qP575 prog_17_method_49_code 1 qC575 (some .int) qH575 qX575 102 0 = true := zk_chkD_ok (T := qdt_17_49) qdo_17_49 (by decide +kernel)
set_option maxRecDepth 100000 in
/-- java/lang/Integer.bitCount(I)I UnaskedLetters.round(III)I@125 -/
def qC576 : zk_C := ((1, [], [0], [(0, (0, 0, 288))], [], [], [], [], [], none), [(2, [], [1], [(0, (0, 0, 288)), (1, (0, 0, 63))], [], [], [], [], [], none)], [], 0, 0)
set_option maxRecDepth 100000 in
def qP576 : zk_P := ([], [], [], [], [(4, 3, (0, 1431655765, 1431655765)), (11, 3, (0, 858993459, 858993459)), (18, 3, (0, 858993459, 858993459)), (29, 3, (0, 252645135, 252645135))], [], [])
set_option maxRecDepth 100000 in
def qH576 : List zk_Hd := []
set_option maxRecDepth 100000 in
def qX576 : List zk_Hd := []
set_option maxRecDepth 100000 in
theorem qk576 : zk_chk qK qP576 prog_17_method_49_code 1 qC576 (some .int) qH576 qX576 102 0 = true := zk_chkD_ok (T := qdt_17_49) qdo_17_49 (by decide +kernel)
set_option maxRecDepth 100000 in
/-- java/lang/Integer.bitCount(I)I UnaskedLetters.round(III)I@208 -/
def qC577 : zk_C := ((1, [], [0], [(0, (0, 0, 1000))], [], [], [], [], [], none), [(2, [], [1], [(0, (0, 0, 1000)), (1, (0, 0, 63))], [], [], [], [], [], none)], [], 0, 0)
set_option maxRecDepth 100000 in
def qP577 : zk_P := ([], [], [], [], [(4, 3, (0, 1431655765, 1431655765)), (11, 3, (0, 858993459, 858993459)), (18, 3, (0, 858993459, 858993459)), (29, 3, (0, 252645135, 252645135))], [], [])
set_option maxRecDepth 100000 in
def qH577 : List zk_Hd := []
set_option maxRecDepth 100000 in
def qX577 : List zk_Hd := []
set_option maxRecDepth 100000 in
theorem qk577 : zk_chk qK qP577 prog_17_method_49_code 1 qC577 (some .int) qH577 qX577 102 0 = true := zk_chkD_ok (T := qdt_17_49) qdo_17_49 (by decide +kernel)
set_option maxRecDepth 100000 in
/-- UnaskedLetters.round(III)I  -/
def qC578 : zk_C := ((5, [], [0, 1, 2, 3], [(0, (2, 2, 0)), (1, (0, (-2147483648), 2147483647)), (2, (0, (-2147483648), 2147483647)), (3, (0, (-2147483648), 2147483647)), (4, (0, (-2147483648), 2147483647))], [], [(0, 13, 4)], [], [], [], none), [(6, [], [5], [(0, (2, 2, 0)), (1, (0, (-2147483648), 2147483647)), (2, (0, (-2147483648), 2147483647)), (3, (0, (-2147483648), 2147483647)), (4, (0, (-2147483648), 2147483647)), (5, (0, (-1), 256))], [], [(0, 13, 4)], [], [], [], none)], [(37, 5), (42, 0), (49, 0), (50, 2), (50, 3), (50, 4), (50, 5), (52, 0), (53, 0), (122, 2), (122, 3), (122, 4), (122, 5)], 0, 0)
set_option maxRecDepth 100000 in
def qP578 : zk_P := ([(88, 11, 13, 0), (54, 11, 6, 4), (340, 10, 4, 0), (74, 11, 9, 4), (361, 10, 3, 4)], [], [], [], [], [(2, qC472), (28, qC494), (73, qC571), (76, qC572), (94, qC573), (99, qC574), (120, qC575), (125, qC576), (173, qC556), (208, qC577)], [])
set_option maxRecDepth 100000 in
def qH578 : List zk_Hd := [(40, (15, [(0, 0), (2, 2), (3, 3), (4, 5), (5, 6), (6, 7), (7, 8)], [], [(0, (2, 2, 0)), (1, (0, 0, 119)), (2, (0, (-2147483648), 2147483647)), (3, (0, 0, 2)), (4, (0, (-2147483648), 2147483647)), (5, (2, 107, 0)), (6, (0, (-1), 255)), (7, (0, 0, 256)), (8, (0, 0, 256)), (9, (0, 1, 120)), (10, (2, 44, 0)), (11, (2, 50, 0)), (12, (0, (-2147483648), 2147483647)), (13, (0, (-2147483648), 2147483647)), (14, (0, (-2147483648), 2147483647))], [(1, 9, (-1)), (6, 8, (-1)), (7, 8, 0)], [(0, 13, 4), (0, 15, 9), (0, 8, 10), (0, 9, 11), (11, 3, 12), (11, 4, 13), (11, 5, 14)], [], [], [], none), [(1, none, none), (256, none, some 6), (1, none, none), (257, none, some 8), (1, none, none)], 0, 0)]
set_option maxRecDepth 100000 in
def qX578 : List zk_Hd := []
set_option maxRecDepth 100000 in
theorem qk578 : zk_chk qK qP578 prog_1_method_33_code 10 qC578 (some .int) qH578 qX578 123 5 = true := zk_chkD_ok (T := qdt_1_33) qdo_1_33 (by decide +kernel)
set_option maxRecDepth 100000 in
/-- UnaskedLettersModel.in(III)Z UnaskedLettersModel.round(III)I@3 -/
def qC579 : zk_C := ((3, [], [0, 1, 2], [(0, (0, (-2147483648), 2147483647)), (1, (0, 0, 0)), (2, (0, 2, 2))], [], [], [], [], [], none), [(4, [], [3], [(0, (0, (-2147483648), (-1))), (1, (0, 0, 0)), (2, (0, 2, 2)), (3, (0, 0, 0))], [], [], [], [], [], none), (4, [], [3], [(0, (0, 3, 2147483647)), (1, (0, 0, 0)), (2, (0, 2, 2)), (3, (0, 0, 0))], [], [], [], [], [], none), (4, [], [3], [(0, (0, 0, 2)), (1, (0, 0, 0)), (2, (0, 2, 2)), (3, (0, 1, 1))], [], [], [], [], [], none)], [], 0, 0)
set_option maxRecDepth 100000 in
def qP579 : zk_P := ([], [], [], [], [], [], [])
set_option maxRecDepth 100000 in
def qH579 : List zk_Hd := []
set_option maxRecDepth 100000 in
def qX579 : List zk_Hd := []
set_option maxRecDepth 100000 in
theorem qk579 : zk_chk qK qP579 prog_14_method_1_code 3 qC579 (some .boolean) qH579 qX579 69 0 = true := zk_chkD_ok (T := qdt_14_1) qdo_14_1 (by decide +kernel)
set_option maxRecDepth 100000 in
/-- java/lang/Integer.bitCount(I)I UnaskedLettersModel.findRound(II)Z@41 -/
def qC580 : zk_C := ((1, [], [0], [(0, (0, 0, 1000))], [], [], [], [], [], none), [(2, [], [1], [(0, (0, 0, 1000)), (1, (0, 0, 63))], [], [], [], [], [], none)], [], 0, 0)
set_option maxRecDepth 100000 in
def qP580 : zk_P := ([], [], [], [], [(4, 3, (0, 1431655765, 1431655765)), (11, 3, (0, 858993459, 858993459)), (18, 3, (0, 858993459, 858993459)), (29, 3, (0, 252645135, 252645135))], [], [])
set_option maxRecDepth 100000 in
def qH580 : List zk_Hd := []
set_option maxRecDepth 100000 in
def qX580 : List zk_Hd := []
set_option maxRecDepth 100000 in
theorem qk580 : zk_chk qK qP580 prog_17_method_49_code 1 qC580 (some .int) qH580 qX580 102 0 = true := zk_chkD_ok (T := qdt_17_49) qdo_17_49 (by decide +kernel)
set_option maxRecDepth 100000 in
/-- java/lang/Integer.bitCount(I)I UnaskedLettersModel.findRound(II)Z@65 -/
def qC581 : zk_C := ((1, [], [0], [(0, (0, 0, 254))], [], [], [], [], [], none), [(2, [], [1], [(0, (0, 0, 254)), (1, (0, 0, 63))], [], [], [], [], [], none)], [], 0, 0)
set_option maxRecDepth 100000 in
def qP581 : zk_P := ([], [], [], [], [(4, 3, (0, 1431655765, 1431655765)), (11, 3, (0, 858993459, 858993459)), (18, 3, (0, 858993459, 858993459)), (29, 3, (0, 252645135, 252645135))], [], [])
set_option maxRecDepth 100000 in
def qH581 : List zk_Hd := []
set_option maxRecDepth 100000 in
def qX581 : List zk_Hd := []
set_option maxRecDepth 100000 in
theorem qk581 : zk_chk qK qP581 prog_17_method_49_code 1 qC581 (some .int) qH581 qX581 102 0 = true := zk_chkD_ok (T := qdt_17_49) qdo_17_49 (by decide +kernel)
set_option maxRecDepth 100000 in
/-- UnaskedLettersModel.has([JIIJ)Z %104 -/
def qC582 : zk_C := ((4, [], [0, 1, 2, 3], [(0, (2, 104, 0)), (1, (0, 0, 0)), (2, (0, 0, 82)), (3, (1, (-9223372036854775808), 9223372036854775807))], [], [], [], [], [], none), [(5, [], [4], [(0, (2, 104, 0)), (1, (0, 0, 0)), (2, (0, 0, 82)), (3, (1, (-9223372036854775808), 9223372036854775807)), (4, (0, 0, 0))], [], [], [], [], [], none), (5, [], [4], [(0, (2, 104, 0)), (1, (0, 0, 0)), (2, (0, 1, 82)), (3, (1, (-9223372036854775808), 9223372036854775807)), (4, (0, 1, 1))], [], [], [], [], [], none)], [], 0, 0)
set_option maxRecDepth 100000 in
def qP582 : zk_P := ([], [], [], [], [], [], [])
set_option maxRecDepth 100000 in
def qH582 : List zk_Hd := [(3, (5, [(0, 0), (1, 1), (2, 2), (3, 3), (5, 4)], [], [(0, (2, 104, 0)), (1, (0, 0, 0)), (2, (0, 0, 82)), (3, (1, (-9223372036854775808), 9223372036854775807)), (4, (0, 0, 82))], [(4, 2, 0)], [], [], [], [], none), [(1, none, none), (83, none, some 4), (1, none, none)], 0, 0)]
set_option maxRecDepth 100000 in
def qX582 : List zk_Hd := []
set_option maxRecDepth 100000 in
theorem qk582 : zk_chk qK qP582 prog_14_method_64_code 6 qC582 (some .boolean) qH582 qX582 74 3 = true := zk_chkD_ok (T := qdt_14_64) qdo_14_64 (by decide +kernel)
end
