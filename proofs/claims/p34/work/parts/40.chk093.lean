/-! CONTRACTS: found by wip/an (python). -/
set_option maxRecDepth 100000 in
/-- UnaskedLettersModel.minutes(I)I  -/
def qC522 : zk_C := ((3, [], [0, 1], [(0, (2, 57, 0)), (1, (0, (-2147483648), 2147483647)), (2, (0, (-2147483648), 2147483647))], [], [(0, 1002, 2)], [], [], [], none), [(4, [], [3], [(0, (2, 57, 0)), (1, (0, (-2147483648), 2147483647)), (2, (0, (-2147483648), 2147483647)), (3, (0, (-2147483648), 2147483647))], [], [(0, 1002, 2)], [], [], [], none)], [(57, 0), (57, 29), (57, 30), (57, 52), (74, 0), (75, 0), (85, 0), (86, 0), (87, 0), (88, 0), (92, 0), (93, 0), (94, 0)], 0, 0)
set_option maxRecDepth 100000 in
def qP522 : zk_P := ([(156, 12, 0, 0), (341, 12, 44, 0), (96, 12, 42, 4)], [], [], [], [], [(5, qC509), (77, qC521)], [])
set_option maxRecDepth 100000 in
def qH522 : List zk_Hd := [(27, (5, [(0, 0), (1, 1), (2, 3)], [], [(0, (2, 57, 0)), (1, (0, 0, 200)), (2, (0, (-2147483648), 2147483647)), (3, (0, 0, 200)), (4, (0, (-2147483648), 2147483647))], [(3, 1, 0)], [(0, 0, 4), (0, 1002, 2)], [], [], [], none), [(1, none, none), (201, none, some 3), (2, none, none)], 0, 0), (44, (6, [(0, 0), (1, 1), (2, 3), (3, 4)], [], [(0, (2, 57, 0)), (1, (0, 1, 200)), (2, (0, (-2147483648), 2147483647)), (3, (0, 0, 199)), (4, (0, 0, 120)), (5, (0, (-2147483648), 2147483647))], [(3, 1, (-1))], [(0, 0, 5), (0, 1002, 2)], [], [], [], none), [(1, none, none), (201, none, some 3), (1, none, none), (121, none, some 4), (1, none, none)], 0, 0)]
set_option maxRecDepth 100000 in
def qX522 : List zk_Hd := []
set_option maxRecDepth 100000 in
theorem qk522 : zk_chk qK qP522 prog_14_method_86_code 4 qC522 (some .int) qH522 qX522 83 5 = true := zk_chkD_ok (T := qdt_14_86) qdo_14_86 (by decide +kernel)
set_option maxRecDepth 100000 in
/-- UnaskedLetters$Marks.add(IZI)Z  -/
def qC523 : zk_C := ((4, [], [0, 1, 2, 3], [(0, (2, 44, 0)), (1, (0, 0, 119)), (2, (0, 0, 1)), (3, (0, (-2147483648), 2147483647))], [], [], [], [], [], none), [(6, [], [4], [(0, (2, 44, 0)), (1, (0, 0, 119)), (2, (0, 0, 0)), (3, (0, (-2147483648), 2147483647)), (4, (0, 1, 1)), (5, (0, 1, 200))], [], [(0, 4, 5)], [], [], [], none), (6, [], [4], [(0, (2, 44, 0)), (1, (0, 0, 119)), (2, (0, 1, 1)), (3, (0, (-2147483648), 2147483647)), (4, (0, 1, 1)), (5, (0, 1, 200))], [], [(0, 4, 5)], [], [], [], none), (6, [], [4], [(0, (2, 44, 0)), (1, (0, 0, 119)), (2, (0, 0, 1)), (3, (0, (-2147483648), 2147483647)), (4, (0, 0, 0)), (5, (0, 200, 200))], [], [(0, 4, 5)], [], [], [], none)], [(44, 4), (46, 0), (47, 0), (48, 0)], 0, 0)
set_option maxRecDepth 100000 in
def qP523 : zk_P := ([(24, 3, 4, 0), (11, 3, 0, 4), (15, 3, 1, 4), (18, 3, 2, 4)], [], [], [], [], [], [])
set_option maxRecDepth 100000 in
def qH523 : List zk_Hd := []
set_option maxRecDepth 100000 in
def qX523 : List zk_Hd := []
set_option maxRecDepth 100000 in
theorem qk523 : zk_chk qK qP523 prog_5_method_2_code 4 qC523 (some .boolean) qH523 qX523 93 0 = true := zk_chkD_ok (T := qdt_5_2) qdo_5_2 (by decide +kernel)
set_option maxRecDepth 100000 in
/-- UnaskedLetters.mark(IZ)Z  -/
def qC524 : zk_C := ((3, [], [0, 1, 2], [(0, (2, 2, 0)), (1, (0, (-2147483648), 2147483647)), (2, (0, 0, 1))], [], [], [], [], [], none), [(4, [], [3], [(0, (2, 2, 0)), (1, (0, (-2147483648), 2147483647)), (2, (0, 0, 1)), (3, (0, 0, 1))], [], [], [], [], [], none)], [(44, 4), (46, 0), (47, 0), (48, 0)], 0, 0)
set_option maxRecDepth 100000 in
def qP524 : zk_P := ([(67, 11, 8, 4), (88, 11, 13, 0)], [], [], [], [], [(2, qC474), (18, qC523)], [])
set_option maxRecDepth 100000 in
def qH524 : List zk_Hd := []
set_option maxRecDepth 100000 in
def qX524 : List zk_Hd := []
set_option maxRecDepth 100000 in
theorem qk524 : zk_chk qK qP524 prog_1_method_22_code 3 qC524 (some .boolean) qH524 qX524 75 0 = true := zk_chkD_ok (T := qdt_1_22) qdo_1_22 (by decide +kernel)
set_option maxRecDepth 100000 in
/-- UnaskedLettersModel.mark(IZ)Z  -/
def qC525 : zk_C := ((3, [], [0, 1, 2], [(0, (2, 57, 0)), (1, (0, (-2147483648), 2147483647)), (2, (0, 0, 1))], [], [], [], [], [], none), [(4, [], [3], [(0, (2, 57, 0)), (1, (0, (-2147483648), 2147483647)), (2, (0, 0, 1)), (3, (0, 0, 1))], [], [], [], [], [], none)], [(57, 49), (89, 0), (90, 0), (91, 0)], 0, 0)
set_option maxRecDepth 100000 in
def qP525 : zk_P := ([(366, 12, 49, 0), (102, 12, 45, 4), (105, 12, 46, 4), (108, 12, 47, 4), (156, 12, 0, 0)], [], [], [], [], [(2, qC477)], [])
set_option maxRecDepth 100000 in
def qH525 : List zk_Hd := []
set_option maxRecDepth 100000 in
def qX525 : List zk_Hd := []
set_option maxRecDepth 100000 in
theorem qk525 : zk_chk qK qP525 prog_14_method_62_code 3 qC525 (some .boolean) qH525 qX525 98 0 = true := zk_chkD_ok (T := qdt_14_62) qdo_14_62 (by decide +kernel)
set_option maxRecDepth 100000 in
/-- UnaskedLetters.knownLetter(II)LUnaskedLetters$Letter;  -/
def qC526 : zk_C := ((3, [], [0, 1, 2], [(0, (2, 2, 0)), (1, (0, (-2147483648), 2147483647)), (2, (0, (-2147483648), 2147483647))], [], [], [], [], [], none), [(4, [], [3], [(0, (2, 2, 0)), (1, (0, (-2147483648), (-1))), (2, (0, (-2147483648), 2147483647)), (3, (2, 0, 1))], [], [], [], [], [], none), (4, [], [3], [(0, (2, 2, 0)), (1, (0, 0, 2147483647)), (2, (0, (-2147483648), 2147483647)), (3, (2, 0, 1))], [], [], [], [], [], none), (7, [], [3], [(0, (2, 2, 0)), (1, (0, 0, 119)), (2, (0, 0, 2147483647)), (3, (2, 107, 0)), (4, (0, 0, 2147483647)), (5, (0, 1, 120)), (6, (0, (-2147483648), 2147483647))], [(1, 5, (-1)), (2, 4, 0), (6, 2, 0), (6, 4, 0)], [(0, 13, 4), (0, 15, 5), (3, 4, 6)], [], [], [], none)], [], 0, 0)
set_option maxRecDepth 100000 in
def qP526 : zk_P := ([(244, 1, 4, 4)], [], [], [], [], [(2, qC474), (12, qC379)], [])
set_option maxRecDepth 100000 in
def qH526 : List zk_Hd := []
set_option maxRecDepth 100000 in
def qX526 : List zk_Hd := []
set_option maxRecDepth 100000 in
theorem qk526 : zk_chk qK qP526 prog_1_method_43_code 4 qC526 (some (.object "UnaskedLetters$Letter")) qH526 qX526 77 0 = true := zk_chkD_ok (T := qdt_1_43) qdo_1_43 (by decide +kernel)
set_option maxRecDepth 100000 in
/-- UnaskedLetters.weight(II)I  -/
def qC527 : zk_C := ((3, [], [0, 1, 2], [(0, (2, 2, 0)), (1, (0, (-2147483648), 2147483647)), (2, (0, (-2147483648), 2147483647))], [], [], [], [], [], none), [(4, [], [3], [(0, (2, 2, 0)), (1, (0, (-2147483648), 2147483647)), (2, (0, (-2147483648), 2147483647)), (3, (0, (-2147483648), 2147483647))], [], [], [], [], [], none)], [(49, 0), (50, 2), (50, 3), (50, 4), (50, 5), (52, 0), (53, 0), (122, 2), (122, 4), (122, 5)], 0, 0)
set_option maxRecDepth 100000 in
def qP527 : zk_P := ([(74, 11, 9, 4), (270, 1, 11, 3), (273, 1, 13, 0)], [], [], [], [(11, 3, (0, (-1000000), (-1000000)))], [(3, qC526), (17, qC496), (32, qC502)], [])
set_option maxRecDepth 100000 in
def qH527 : List zk_Hd := []
set_option maxRecDepth 100000 in
def qX527 : List zk_Hd := []
set_option maxRecDepth 100000 in
theorem qk527 : zk_chk qK qP527 prog_1_method_23_code 4 qC527 (some .int) qH527 qX527 78 0 = true := zk_chkD_ok (T := qdt_1_23) qdo_1_23 (by decide +kernel)
set_option maxRecDepth 100000 in
/-- UnaskedLettersModel.isKnown(II)Z  -/
def qC528 : zk_C := ((3, [], [0, 1, 2], [(0, (2, 57, 0)), (1, (0, (-2147483648), 2147483647)), (2, (0, (-2147483648), 2147483647))], [], [], [], [], [], none), [(4, [], [3], [(0, (2, 57, 0)), (1, (0, (-2147483648), (-1))), (2, (0, (-2147483648), 2147483647)), (3, (0, 0, 0))], [], [], [], [], [], none), (4, [], [3], [(0, (2, 57, 0)), (1, (0, 0, 2147483647)), (2, (0, (-2147483648), 2147483647)), (3, (0, 0, 0))], [], [], [], [], [], none), (5, [], [3], [(0, (2, 57, 0)), (1, (0, 0, 119)), (2, (0, 0, 2147483647)), (3, (0, 1, 1)), (4, (0, 0, 2147483647))], [(2, 4, 0)], [(0, 0, 4)], [], [], [], none)], [], 0, 0)
set_option maxRecDepth 100000 in
def qP528 : zk_P := ([(87, 12, 39, 4)], [], [], [], [], [(2, qC477), (10, qC385)], [])
set_option maxRecDepth 100000 in
def qH528 : List zk_Hd := []
set_option maxRecDepth 100000 in
def qX528 : List zk_Hd := []
set_option maxRecDepth 100000 in
theorem qk528 : zk_chk qK qP528 prog_14_method_68_code 3 qC528 (some .boolean) qH528 qX528 77 0 = true := zk_chkD_ok (T := qdt_14_68) qdo_14_68 (by decide +kernel)
set_option maxRecDepth 100000 in
/-- UnaskedLettersModel.weight(II)I  -/
def qC529 : zk_C := ((3, [], [0, 1, 2], [(0, (2, 57, 0)), (1, (0, (-2147483648), 2147483647)), (2, (0, (-2147483648), 2147483647))], [], [], [], [], [], none), [(4, [], [3], [(0, (2, 57, 0)), (1, (0, (-2147483648), 2147483647)), (2, (0, (-2147483648), 2147483647)), (3, (0, (-2147483648), 2147483647))], [], [], [], [], [], none)], [(57, 52), (92, 0), (93, 0), (94, 0)], 0, 0)
set_option maxRecDepth 100000 in
def qP529 : zk_P := ([], [], [], [], [(9, 3, (0, (-1000000), (-1000000)))], [(3, qC528), (15, qC424), (20, qC518)], [])
set_option maxRecDepth 100000 in
def qH529 : List zk_Hd := []
set_option maxRecDepth 100000 in
def qX529 : List zk_Hd := []
set_option maxRecDepth 100000 in
theorem qk529 : zk_chk qK qP529 prog_14_method_69_code 3 qC529 (some .int) qH529 qX529 72 0 = true := zk_chkD_ok (T := qdt_14_69) qdo_14_69 (by decide +kernel)
set_option maxRecDepth 100000 in
/-- UnaskedLetters.decides(III)I  -/
def qC530 : zk_C := ((4, [], [0, 1, 2, 3], [(0, (2, 2, 0)), (1, (0, (-2147483648), 2147483647)), (2, (0, (-2147483648), 2147483647)), (3, (0, (-2147483648), 2147483647))], [], [], [], [], [], none), [(5, [], [4], [(0, (2, 2, 0)), (1, (0, (-2147483648), 2147483647)), (2, (0, (-2147483648), 2147483647)), (3, (0, (-2147483648), 2147483647)), (4, (0, (-2147483648), 2147483647))], [], [], [], [], [], none)], [(49, 0), (50, 2), (50, 3), (50, 4), (50, 5), (52, 0), (53, 0), (122, 2), (122, 4), (122, 5)], 0, 0)
set_option maxRecDepth 100000 in
def qP530 : zk_P := ([(74, 11, 9, 4), (270, 1, 11, 3), (273, 1, 13, 0), (280, 7, 2, 0), (283, 1, 12, 3), (286, 7, 1, 4)], [], [], [], [], [(3, qC526), (17, qC496), (34, qC502)], [])
set_option maxRecDepth 100000 in
def qX530 : zk_Hd := (81, (18, [(0, 0), (1, 1), (2, 2), (3, 3), (4, 6)], [3, 4, 5], [(0, (2, 2, 0)), (1, (0, 0, 119)), (2, (0, 0, 2147483647)), (3, (0, 0, 4)), (4, (2, 53, 0)), (5, (2, 115, 0)), (6, (2, 107, 0)), (7, (0, 0, 160)), (8, (0, (-2147483648), 2147483647)), (9, (0, 0, 2147483647)), (10, (0, 1, 120)), (11, (2, 44, 0)), (12, (2, 50, 0)), (13, (0, 0, 160)), (14, (0, 1, 5)), (15, (0, (-2147483648), 2147483647)), (16, (0, (-2147483648), 2147483647)), (17, (0, (-2147483648), 2147483647))], [(1, 10, (-1)), (2, 9, 0), (3, 14, (-1)), (8, 2, 0), (8, 9, 0), (13, 7, 0)], [(6, 12, 5), (6, 13, 7), (6, 4, 8), (0, 13, 9), (0, 15, 10), (0, 8, 11), (0, 9, 12), (12, 1, 4), (12, 1003, 13), (12, 2, 14), (12, 3, 15), (12, 4, 16), (12, 5, 17)], [], [], [(2, 16, 0, 0), (2, 17, 0, 0)], none), [(0, none, none)], 0, 0)
set_option maxRecDepth 100000 in
def qH530 : List zk_Hd := []
set_option maxRecDepth 100000 in
theorem qk530 : zk_chk qK qP530 prog_1_method_24_code 5 qC530 (some .int) qH530 [qX530] 95 1 = true := zk_chkD_ok (T := qdt_1_24) qdo_1_24 (by decide +kernel)
set_option maxRecDepth 100000 in
theorem qh530 : zk_chf qK qP530 prog_1_method_24_code 5 qC530 (some .int) [] [] (82, zk_pu qX530.2.1 [5] (0, 0, 159) [(18, 13, -1)] [], [], 0, 0) 95 1 = true := zk_chfD_ok (T := qdt_1_24) qdo_1_24 (by decide +kernel)
set_option maxRecDepth 100000 in
/-- UnaskedLettersModel.in(III)Z UnaskedLettersModel.decides(III)I@42 -/
def qC531 : zk_C := ((3, [], [0, 1, 2], [(0, (0, (-2147483648), 2147483647)), (1, (0, 0, 0)), (2, (0, (-1), 4))], [], [], [], [], [], none), [(4, [], [3], [(0, (0, (-2147483648), (-1))), (1, (0, 0, 0)), (2, (0, (-1), 4)), (3, (0, 0, 0))], [], [], [], [], [], none), (4, [], [3], [(0, (0, 0, 2147483647)), (1, (0, 0, 0)), (2, (0, (-1), 4)), (3, (0, 0, 0))], [(2, 0, (-1))], [], [], [], [], none), (4, [], [3], [(0, (0, 0, 4)), (1, (0, 0, 0)), (2, (0, 0, 4)), (3, (0, 1, 1))], [(0, 2, 0)], [], [], [], [], none)], [], 0, 0)
set_option maxRecDepth 100000 in
def qP531 : zk_P := ([], [], [], [], [], [], [])
set_option maxRecDepth 100000 in
def qH531 : List zk_Hd := []
set_option maxRecDepth 100000 in
def qX531 : List zk_Hd := []
set_option maxRecDepth 100000 in
theorem qk531 : zk_chk qK qP531 prog_14_method_1_code 3 qC531 (some .boolean) qH531 qX531 69 0 = true := zk_chkD_ok (T := qdt_14_1) qdo_14_1 (by decide +kernel)
set_option maxRecDepth 100000 in
/-- UnaskedLettersModel.decides(III)I  -/
def qC532 : zk_C := ((4, [], [0, 1, 2, 3], [(0, (2, 57, 0)), (1, (0, (-2147483648), 2147483647)), (2, (0, (-2147483648), 2147483647)), (3, (0, (-2147483648), 2147483647))], [], [], [], [], [], none), [(5, [], [4], [(0, (2, 57, 0)), (1, (0, (-2147483648), 2147483647)), (2, (0, (-2147483648), 2147483647)), (3, (0, (-2147483648), 2147483647)), (4, (0, (-2147483648), 2147483647))], [], [], [], [], [], none)], [(57, 52), (92, 0), (93, 0), (94, 0)], 0, 0)
set_option maxRecDepth 100000 in
def qP532 : zk_P := ([(369, 12, 52, 0), (114, 12, 50, 4)], [], [], [], [], [(3, qC528), (13, qC424), (18, qC518), (42, qC531)], [])
set_option maxRecDepth 100000 in
def qH532 : List zk_Hd := []
set_option maxRecDepth 100000 in
def qX532 : List zk_Hd := []
set_option maxRecDepth 100000 in
theorem qk532 : zk_chk qK qP532 prog_14_method_70_code 4 qC532 (some .int) qH532 qX532 89 0 = true := zk_chkD_ok (T := qdt_14_70) qdo_14_70 (by decide +kernel)
