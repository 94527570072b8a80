/-! CONTRACTS: found by wip/an (python). -/
set_option maxRecDepth 100000 in
/-- UnaskedLetters.tryLetter(I)V  -/
def qC507 : zk_C := ((9, [], [0, 1], [(0, (2, 2, 0)), (1, (0, 0, 119)), (2, (0, (-2147483648), 2147483647)), (3, (0, 1, 120)), (4, (2, 44, 0)), (5, (2, 50, 0)), (6, (0, (-2147483648), 2147483647)), (7, (0, (-2147483648), 2147483647)), (8, (0, (-2147483648), 2147483647))], [(1, 3, (-1))], [(0, 13, 2), (0, 15, 3), (0, 8, 4), (0, 9, 5), (5, 3, 6), (5, 4, 7), (5, 5, 8)], [], [], [], none), [(10, [], [], [(0, (2, 2, 0)), (1, (0, 0, 119)), (2, (0, (-2147483648), 2147483647)), (3, (0, 1, 120)), (4, (2, 44, 0)), (5, (2, 50, 0)), (6, (0, (-2147483648), 2147483647)), (7, (0, (-2147483648), 2147483647)), (8, (0, (-2147483648), 2147483647)), (9, (2, 4, 0))], [(1, 3, (-1))], [(0, 0, 9), (0, 13, 2), (0, 15, 3), (0, 8, 4), (0, 9, 5), (5, 3, 6), (5, 4, 7), (5, 5, 8)], [], [], [], none)], [(21, 2), (21, 3), (21, 4), (21, 5), (21, 6), (25, 0), (26, 0), (50, 2), (52, 0), (53, 0), (107, 5), (107, 6), (107, 7), (107, 8)], 0, 0)
set_option maxRecDepth 100000 in
def qP507 : zk_P := ([(60, 11, 7, 4), (10, 11, 0, 4), (316, 4, 2, 4), (250, 1, 1, 4), (100, 4, 0, 4), (88, 11, 13, 0), (47, 11, 5, 4), (253, 1, 8, 0), (247, 1, 0, 4)], [], [], [], [], [(41, qC498), (63, qC380), (66, qC397), (83, qC497), (100, qC499), (109, qC504), (116, qC506)], [])
set_option maxRecDepth 100000 in
def qH507 : List zk_Hd := []
set_option maxRecDepth 100000 in
def qX507 : List zk_Hd := []
set_option maxRecDepth 100000 in
theorem qk507 : zk_chk qK qP507 prog_1_method_48_code 6 qC507 none qH507 qX507 114 0 = true := zk_chkD_ok (T := qdt_1_48) qdo_1_48 (by decide +kernel)
set_option maxRecDepth 100000 in
/-- UnaskedLetters.minutes(I)I  -/
def qC508 : zk_C := ((2, [], [0, 1], [(0, (2, 2, 0)), (1, (0, (-2147483648), 2147483647))], [], [], [], [], [], none), [(3, [], [2], [(0, (2, 2, 0)), (1, (0, (-2147483648), 2147483647)), (2, (0, (-2147483648), 2147483647))], [], [], [], [], [], none)], [(2, 13), (21, 2), (21, 3), (21, 4), (21, 5), (21, 6), (25, 0), (26, 0), (49, 0), (50, 2), (50, 3), (50, 4), (50, 5), (52, 0), (53, 0), (107, 5), (107, 6), (107, 7), (107, 8), (122, 2), (122, 4), (122, 5)], 0, 0)
set_option maxRecDepth 100000 in
def qP508 : zk_P := ([(88, 11, 13, 0), (181, 11, 15, 0), (60, 11, 7, 4), (241, 1, 7, 0)], [], [], [], [], [(30, qC496), (78, qC507)], [])
set_option maxRecDepth 100000 in
def qH508 : List zk_Hd := [(35, (9, [(0, 0), (1, 1), (2, 2)], [], [(0, (2, 2, 0)), (1, (0, 0, 200)), (2, (0, 0, 200)), (3, (0, (-2147483648), 2147483647)), (4, (2, 44, 0)), (5, (2, 50, 0)), (6, (0, (-2147483648), 2147483647)), (7, (0, (-2147483648), 2147483647)), (8, (0, (-2147483648), 2147483647))], [(2, 1, 0)], [(0, 13, 3), (0, 8, 4), (0, 9, 5), (5, 3, 6), (5, 4, 7), (5, 5, 8)], [], [], [], none), [(1, none, none), (201, none, some 2), (2, none, none)], 0, 0), (52, (10, [(0, 0), (1, 1), (2, 2), (3, 3)], [], [(0, (2, 2, 0)), (1, (0, 1, 200)), (2, (0, 0, 199)), (3, (0, 0, 120)), (4, (0, (-2147483648), 2147483647)), (5, (2, 44, 0)), (6, (2, 50, 0)), (7, (0, (-2147483648), 2147483647)), (8, (0, (-2147483648), 2147483647)), (9, (0, (-2147483648), 2147483647))], [(2, 1, (-1))], [(0, 13, 4), (0, 8, 5), (0, 9, 6), (6, 3, 7), (6, 4, 8), (6, 5, 9)], [], [], [], none), [(1, none, none), (201, none, some 2), (1, none, none), (121, none, some 3), (1, none, none)], 0, 0)]
set_option maxRecDepth 100000 in
def qX508 : List zk_Hd := []
set_option maxRecDepth 100000 in
theorem qk508 : zk_chk qK qP508 prog_1_method_21_code 4 qC508 (some .int) qH508 qX508 78 5 = true := zk_chkD_ok (T := qdt_1_21) qdo_1_21 (by decide +kernel)
set_option maxRecDepth 100000 in
/-- UnaskedLettersModel.in(III)Z UnaskedLettersModel.minutes(I)I@5 -/
def qC509 : zk_C := ((3, [], [0, 1, 2], [(0, (0, (-2147483648), 2147483647)), (1, (0, 0, 0)), (2, (0, 200, 200))], [], [], [], [], [], none), [(4, [], [3], [(0, (0, (-2147483648), (-1))), (1, (0, 0, 0)), (2, (0, 200, 200)), (3, (0, 0, 0))], [], [], [], [], [], none), (4, [], [3], [(0, (0, 201, 2147483647)), (1, (0, 0, 0)), (2, (0, 200, 200)), (3, (0, 0, 0))], [], [], [], [], [], none), (4, [], [3], [(0, (0, 0, 200)), (1, (0, 0, 0)), (2, (0, 200, 200)), (3, (0, 1, 1))], [], [], [], [], [], none)], [], 0, 0)
set_option maxRecDepth 100000 in
def qP509 : zk_P := ([], [], [], [], [], [], [])
set_option maxRecDepth 100000 in
def qH509 : List zk_Hd := []
set_option maxRecDepth 100000 in
def qX509 : List zk_Hd := []
set_option maxRecDepth 100000 in
theorem qk509 : zk_chk qK qP509 prog_14_method_1_code 3 qC509 (some .boolean) qH509 qX509 69 0 = true := zk_chkD_ok (T := qdt_14_1) qdo_14_1 (by decide +kernel)
set_option maxRecDepth 100000 in
/-- UnaskedLettersModel.settle(II)V  -/
def qC510 : zk_C := ((3, [], [0, 1, 2], [(0, (2, 57, 0)), (1, (0, 0, 119)), (2, (0, 1, 5))], [], [], [], [], [], none), [(3, [], [], [(0, (2, 57, 0)), (1, (0, 0, 119)), (2, (0, 1, 5))], [], [], [], [], [], none)], [(85, 0), (87, 0)], 0, 0)
set_option maxRecDepth 100000 in
def qP510 : zk_P := ([(90, 12, 40, 4), (96, 12, 42, 4)], [], [], [], [], [], [])
set_option maxRecDepth 100000 in
def qH510 : List zk_Hd := []
set_option maxRecDepth 100000 in
def qX510 : List zk_Hd := []
set_option maxRecDepth 100000 in
theorem qk510 : zk_chk qK qP510 prog_14_method_82_code 3 qC510 none qH510 qX510 71 0 = true := zk_chkD_ok (T := qdt_14_82) qdo_14_82 (by decide +kernel)
set_option maxRecDepth 100000 in
/-- UnaskedLettersModel.again(III)V  -/
def qC511 : zk_C := ((5, [], [0, 1, 2, 3], [(0, (2, 57, 0)), (1, (0, 0, 119)), (2, (0, 1, 500)), (3, (0, 3, 5)), (4, (0, (-2147483648), 2147483647))], [], [(0, 0, 4)], [], [], [], none), [(5, [], [], [(0, (2, 57, 0)), (1, (0, 0, 119)), (2, (0, 1, 500)), (3, (0, 3, 5)), (4, (0, (-2147483648), 2147483647))], [], [(0, 0, 4)], [], [], [], none)], [(85, 0), (86, 0), (87, 0)], 0, 0)
set_option maxRecDepth 100000 in
def qP511 : zk_P := ([(93, 12, 41, 4), (90, 12, 40, 4), (96, 12, 42, 4), (156, 12, 0, 0)], [], [], [], [], [(24, qC510)], [])
set_option maxRecDepth 100000 in
def qH511 : List zk_Hd := []
set_option maxRecDepth 100000 in
def qX511 : List zk_Hd := []
set_option maxRecDepth 100000 in
theorem qk511 : zk_chk qK qP511 prog_14_method_83_code 4 qC511 none qH511 qX511 88 0 = true := zk_chkD_ok (T := qdt_14_83) qdo_14_83 (by decide +kernel)
set_option maxRecDepth 100000 in
/-- UnaskedLettersModel.has([JIIJ)Z %77 -/
def qC512 : zk_C := ((4, [], [0, 1, 2, 3], [(0, (2, 77, 0)), (1, (0, 0, 9758)), (2, (0, 0, 82)), (3, (1, (-9223372036854775808), 9223372036854775807))], [], [], [], [], [], none), [(5, [], [4], [(0, (2, 77, 0)), (1, (0, 0, 9758)), (2, (0, 0, 82)), (3, (1, (-9223372036854775808), 9223372036854775807)), (4, (0, 0, 0))], [], [], [], [], [], none), (5, [], [4], [(0, (2, 77, 0)), (1, (0, 0, 9758)), (2, (0, 1, 82)), (3, (1, (-9223372036854775808), 9223372036854775807)), (4, (0, 1, 1))], [], [], [], [], [], none)], [], 0, 0)
set_option maxRecDepth 100000 in
def qP512 : zk_P := ([], [], [], [], [], [], [])
set_option maxRecDepth 100000 in
def qH512 : List zk_Hd := [(3, (5, [(0, 0), (1, 1), (2, 2), (3, 3), (5, 4)], [], [(0, (2, 77, 0)), (1, (0, 0, 9758)), (2, (0, 0, 82)), (3, (1, (-9223372036854775808), 9223372036854775807)), (4, (0, 0, 82))], [(4, 2, 0)], [], [], [], [], none), [(1, none, none), (83, none, some 4), (1, none, none)], 0, 0)]
set_option maxRecDepth 100000 in
def qX512 : List zk_Hd := []
set_option maxRecDepth 100000 in
theorem qk512 : zk_chk qK qP512 prog_14_method_64_code 6 qC512 (some .boolean) qH512 qX512 74 3 = true := zk_chkD_ok (T := qdt_14_64) qdo_14_64 (by decide +kernel)
set_option maxRecDepth 100000 in
/-- java/lang/Math.abs(I)I UnaskedLettersModel.put(II)V@17 -/
def qC513 : zk_C := ((1, [], [0], [(0, (0, (-2147483648), 2147483647))], [], [], [], [], [], none), [(1, [], [0], [(0, (0, 0, 2147483647))], [], [], [], [], [], none), (2, [], [1], [(0, (0, (-2147483648), (-1))), (1, (0, (-2147483648), 2147483647))], [], [], [], [], [], none)], [], 0, 0)
set_option maxRecDepth 100000 in
def qP513 : zk_P := ([], [], [], [], [], [], [])
set_option maxRecDepth 100000 in
def qH513 : List zk_Hd := []
set_option maxRecDepth 100000 in
def qX513 : List zk_Hd := []
set_option maxRecDepth 100000 in
theorem qk513 : zk_chk qK qP513 prog_18_method_59_code 1 qC513 (some .int) qH513 qX513 66 0 = true := zk_chkD_ok (T := qdt_18_59) qdo_18_59 (by decide +kernel)
set_option maxRecDepth 100000 in
/-- java/lang/Math.abs(I)I UnaskedLettersModel.put(II)V@21 -/
def qC514 : zk_C := ((1, [], [0], [(0, (0, (-2147483648), 2147483647))], [], [], [], [], [], none), [(1, [], [0], [(0, (0, 0, 2147483647))], [], [], [], [], [], none), (2, [], [1], [(0, (0, (-2147483648), (-1))), (1, (0, (-2147483648), 2147483647))], [], [], [], [], [], none)], [], 0, 0)
set_option maxRecDepth 100000 in
def qP514 : zk_P := ([], [], [], [], [], [], [])
set_option maxRecDepth 100000 in
def qH514 : List zk_Hd := []
set_option maxRecDepth 100000 in
def qX514 : List zk_Hd := []
set_option maxRecDepth 100000 in
theorem qk514 : zk_chk qK qP514 prog_18_method_59_code 1 qC514 (some .int) qH514 qX514 66 0 = true := zk_chkD_ok (T := qdt_18_59) qdo_18_59 (by decide +kernel)
set_option maxRecDepth 100000 in
/-- java/lang/Math.min(II)I UnaskedLettersModel.put(II)V@83 -/
def qC515 : zk_C := ((2, [], [0, 1], [(0, (0, 5, 5)), (1, (0, 1, 6))], [], [], [], [], [], none), [(2, [], [1], [(0, (0, 5, 5)), (1, (0, 1, 4))], [], [], [], [], [], none), (2, [], [0], [(0, (0, 5, 5)), (1, (0, 5, 6))], [], [], [], [], [], none)], [], 0, 0)
set_option maxRecDepth 100000 in
def qP515 : zk_P := ([], [], [], [], [], [], [])
set_option maxRecDepth 100000 in
def qH515 : List zk_Hd := []
set_option maxRecDepth 100000 in
def qX515 : List zk_Hd := []
set_option maxRecDepth 100000 in
theorem qk515 : zk_chk qK qP515 prog_18_method_69_code 2 qC515 (some .int) qH515 qX515 66 0 = true := zk_chkD_ok (T := qdt_18_69) qdo_18_69 (by decide +kernel)
set_option maxRecDepth 100000 in
/-- UnaskedLettersModel.put(II)V  -/
def qC516 : zk_C := ((4, [], [0, 1, 2], [(0, (2, 57, 0)), (1, (0, 0, 81)), (2, (0, (-2147483648), 2147483647)), (3, (0, 0, 5))], [], [(0, 52, 3)], [], [], [], none), [(5, [], [], [(0, (2, 57, 0)), (1, (0, 0, 81)), (2, (0, (-2147483648), 2147483647)), (3, (0, 0, 3)), (4, (0, 1, 4))], [(3, 4, (-1)), (4, 3, 1)], [(0, 52, 4)], [], [], [], none), (5, [], [], [(0, (2, 57, 0)), (1, (0, 0, 81)), (2, (0, (-2147483648), 2147483647)), (3, (0, 4, 5)), (4, (0, 5, 5))], [], [(0, 52, 4)], [], [], [], none)], [(57, 52), (93, 0), (94, 0)], 0, 0)
set_option maxRecDepth 100000 in
def qP516 : zk_P := ([(369, 12, 52, 0), (117, 12, 51, 4), (114, 12, 50, 4)], [], [], [], [], [(17, qC513), (21, qC514), (83, qC515)], [])
set_option maxRecDepth 100000 in
def qH516 : List zk_Hd := [(5, (5, [(0, 0), (1, 1), (2, 2), (3, 4)], [], [(0, (2, 57, 0)), (1, (0, 0, 81)), (2, (0, (-2147483648), 2147483647)), (3, (0, 0, 5)), (4, (0, 0, 5))], [(4, 3, 0)], [(0, 52, 3)], [], [], [], none), [(1, none, none), (1, some 4, none), (1, none, none)], 0, 0)]
set_option maxRecDepth 100000 in
def qX516 : List zk_Hd := []
set_option maxRecDepth 100000 in
theorem qk516 : zk_chk qK qP516 prog_14_method_66_code 4 qC516 none qH516 qX516 95 3 = true := zk_chkD_ok (T := qdt_14_66) qdo_14_66 (by decide +kernel)
