/-! CONTRACTS: found by wip/an (python). -/
set_option maxRecDepth 100000 in
/-- UnaskedLetters.moved(IZ)I  -/
def qC533 : zk_C := ((3, [], [0, 1, 2], [(0, (2, 2, 0)), (1, (0, (-2147483648), 2147483647)), (2, (0, 0, 1))], [], [], [], [], [], none), [(4, [], [3], [(0, (2, 2, 0)), (1, (0, (-2147483648), 2147483647)), (2, (0, 0, 1)), (3, (0, (-2147483648), 2147483647))], [], [], [], [], [], none)], [(49, 0), (50, 2), (50, 3), (50, 4), (50, 5), (52, 0), (53, 0), (122, 2), (122, 4), (122, 5)], 0, 0)
set_option maxRecDepth 100000 in
def qP533 : zk_P := ([(88, 11, 13, 0), (74, 11, 9, 4), (270, 1, 11, 3), (273, 1, 13, 0), (67, 11, 8, 4), (289, 3, 3, 4)], [], [], [], [(10, 3, (0, (-1000000), (-1000000)))], [(2, qC474), (19, qC496), (34, qC502), (58, qC495), (73, qC502)], [])
set_option maxRecDepth 100000 in
def qH533 : List zk_Hd := []
set_option maxRecDepth 100000 in
def qX533 : List zk_Hd := []
set_option maxRecDepth 100000 in
theorem qk533 : zk_chk qK qP533 prog_1_method_25_code 5 qC533 (some .int) qH533 qX533 99 0 = true := zk_chkD_ok (T := qdt_1_25) qdo_1_25 (by decide +kernel)
set_option maxRecDepth 100000 in
/-- UnaskedLettersModel.moved(IZ)I  -/
def qC534 : zk_C := ((3, [], [0, 1, 2], [(0, (2, 57, 0)), (1, (0, (-2147483648), 2147483647)), (2, (0, 0, 1))], [], [], [], [], [], none), [(4, [], [3], [(0, (2, 57, 0)), (1, (0, (-2147483648), 2147483647)), (2, (0, 0, 1)), (3, (0, (-2147483648), 2147483647))], [], [], [], [], [], none)], [(57, 52), (92, 0), (93, 0), (94, 0)], 0, 0)
set_option maxRecDepth 100000 in
def qP534 : zk_P := ([(156, 12, 0, 0), (111, 12, 48, 4)], [], [], [], [(8, 3, (0, (-1000000), (-1000000)))], [(2, qC477), (17, qC424), (22, qC518), (43, qC518)], [])
set_option maxRecDepth 100000 in
def qH534 : List zk_Hd := []
set_option maxRecDepth 100000 in
def qX534 : List zk_Hd := []
set_option maxRecDepth 100000 in
theorem qk534 : zk_chk qK qP534 prog_14_method_71_code 4 qC534 (some .int) qH534 qX534 86 0 = true := zk_chkD_ok (T := qdt_14_71) qdo_14_71 (by decide +kernel)
set_option maxRecDepth 100000 in
/-- UnaskedLetters.weighMarked(I)V  -/
def qC535 : zk_C := ((2, [], [0, 1], [(0, (2, 2, 0)), (1, (0, 0, 2147483647))], [], [], [], [], [], none), [(7, [], [], [(0, (2, 2, 0)), (1, (0, 0, 2147483647)), (2, (2, 44, 0)), (3, (2, 50, 0)), (4, (0, (-2147483648), 2147483647)), (5, (0, (-2147483648), 2147483647)), (6, (0, (-2147483648), 2147483647))], [], [(0, 8, 2), (0, 9, 3), (3, 3, 4), (3, 4, 5), (3, 5, 6)], [], [], [], none)], [(49, 0), (50, 2), (50, 3), (50, 4), (50, 5), (52, 0), (53, 0), (55, 0), (122, 2), (122, 4), (122, 5)], 0, 0)
set_option maxRecDepth 100000 in
def qP535 : zk_P := ([(181, 11, 15, 0), (82, 11, 11, 4), (67, 11, 8, 4), (289, 3, 3, 4), (74, 11, 9, 4), (60, 11, 7, 4), (270, 1, 11, 3), (273, 1, 13, 0)], [], [], [], [], [(2, qC496), (58, qC502)], [])
set_option maxRecDepth 100000 in
def qH535 : List zk_Hd := [(7, (8, [(0, 0), (2, 2)], [], [(0, (2, 2, 0)), (1, (0, 0, 2147483647)), (2, (0, 0, 120)), (3, (2, 44, 0)), (4, (2, 50, 0)), (5, (0, (-2147483648), 2147483647)), (6, (0, (-2147483648), 2147483647)), (7, (0, (-2147483648), 2147483647))], [], [(0, 8, 3), (0, 9, 4), (4, 3, 5), (4, 4, 6), (4, 5, 7)], [], [], [], none), [(1, none, none), (121, none, some 2), (1, none, none)], 0, 0)]
set_option maxRecDepth 100000 in
def qX535 : List zk_Hd := []
set_option maxRecDepth 100000 in
theorem qk535 : zk_chk qK qP535 prog_1_method_56_code 3 qC535 none qH535 qX535 90 3 = true := zk_chkD_ok (T := qdt_1_56) qdo_1_56 (by decide +kernel)
set_option maxRecDepth 100000 in
/-- UnaskedLetters.lostAbove(I)I  -/
def qC536 : zk_C := ((3, [], [0, 1], [(0, (2, 2, 0)), (1, (0, (-2147483648), 2147483647)), (2, (2, 44, 0))], [], [(0, 8, 2)], [], [], [], none), [(4, [], [3], [(0, (2, 2, 0)), (1, (0, (-2147483648), 2147483647)), (2, (2, 44, 0)), (3, (0, 0, 120))], [], [(0, 8, 2)], [], [], [], none)], [], 0, 0)
set_option maxRecDepth 100000 in
def qP536 : zk_P := ([(181, 11, 15, 0), (67, 11, 8, 4), (289, 3, 3, 4), (82, 11, 11, 4)], [], [], [], [], [], [])
set_option maxRecDepth 100000 in
def qH536 : List zk_Hd := [(4, (5, [(0, 0), (1, 1), (2, 3), (3, 4)], [], [(0, (2, 2, 0)), (1, (0, (-2147483648), 2147483647)), (2, (2, 44, 0)), (3, (0, 0, 120)), (4, (0, 0, 120))], [(3, 4, 0)], [(0, 8, 2)], [], [], [], none), [(1, none, none), (121, none, some 4), (1, none, none)], 0, 0)]
set_option maxRecDepth 100000 in
def qX536 : List zk_Hd := []
set_option maxRecDepth 100000 in
theorem qk536 : zk_chk qK qP536 prog_1_method_57_code 4 qC536 (some .int) qH536 qX536 85 3 = true := zk_chkD_ok (T := qdt_1_57) qdo_1_57 (by decide +kernel)
set_option maxRecDepth 100000 in
/-- UnaskedLetters.letBelow(I)I  -/
def qC537 : zk_C := ((3, [], [0, 1], [(0, (2, 2, 0)), (1, (0, (-2147483648), 2147483647)), (2, (2, 44, 0))], [], [(0, 8, 2)], [], [], [], none), [(4, [], [3], [(0, (2, 2, 0)), (1, (0, (-2147483648), 2147483647)), (2, (2, 44, 0)), (3, (0, 0, 120))], [], [(0, 8, 2)], [], [], [], none)], [], 0, 0)
set_option maxRecDepth 100000 in
def qP537 : zk_P := ([(181, 11, 15, 0), (67, 11, 8, 4), (289, 3, 3, 4), (82, 11, 11, 4)], [], [], [], [], [], [])
set_option maxRecDepth 100000 in
def qH537 : List zk_Hd := [(4, (5, [(0, 0), (1, 1), (2, 3), (3, 4)], [], [(0, (2, 2, 0)), (1, (0, (-2147483648), 2147483647)), (2, (2, 44, 0)), (3, (0, 0, 120)), (4, (0, 0, 120))], [(3, 4, 0)], [(0, 8, 2)], [], [], [], none), [(1, none, none), (121, none, some 4), (1, none, none)], 0, 0)]
set_option maxRecDepth 100000 in
def qX537 : List zk_Hd := []
set_option maxRecDepth 100000 in
theorem qk537 : zk_chk qK qP537 prog_1_method_58_code 4 qC537 (some .int) qH537 qX537 85 3 = true := zk_chkD_ok (T := qdt_1_58) qdo_1_58 (by decide +kernel)
set_option maxRecDepth 100000 in
/-- UnaskedLetters.lose(III)I  -/
def qC538 : zk_C := ((4, [], [0, 1, 2, 3], [(0, (2, 2, 0)), (1, (0, (-2147483648), 2147483647)), (2, (0, (-2147483648), 2147483647)), (3, (0, (-2147483648), 2147483647))], [], [], [], [], [], none), [(5, [], [4], [(0, (2, 2, 0)), (1, (0, (-2147483648), 2147483647)), (2, (0, (-2147483648), 2147483647)), (3, (0, (-2147483648), 2147483647)), (4, (0, (-1), 120))], [], [], [], [], [], none)], [(49, 0), (50, 2), (50, 3), (50, 4), (50, 5), (52, 0), (53, 0), (55, 0), (122, 2), (122, 4), (122, 5)], 0, 0)
set_option maxRecDepth 100000 in
def qP538 : zk_P := ([], [], [], [], [], [(2, qC379), (21, qC535), (30, qC536), (38, qC537)], [])
set_option maxRecDepth 100000 in
def qH538 : List zk_Hd := []
set_option maxRecDepth 100000 in
def qX538 : List zk_Hd := []
set_option maxRecDepth 100000 in
theorem qk538 : zk_chk qK qP538 prog_1_method_26_code 4 qC538 (some .int) qH538 qX538 79 0 = true := zk_chkD_ok (T := qdt_1_26) qdo_1_26 (by decide +kernel)
set_option maxRecDepth 100000 in
/-- UnaskedLettersModel.in(III)Z UnaskedLettersModel.lose(III)I@11 -/
def qC539 : zk_C := ((3, [], [0, 1, 2], [(0, (0, (-2147483648), 2147483647)), (1, (0, 0, 0)), (2, (0, 1, 1))], [], [], [], [], [], none), [(4, [], [3], [(0, (0, (-2147483648), (-1))), (1, (0, 0, 0)), (2, (0, 1, 1)), (3, (0, 0, 0))], [], [], [], [], [], none), (4, [], [3], [(0, (0, 2, 2147483647)), (1, (0, 0, 0)), (2, (0, 1, 1)), (3, (0, 0, 0))], [], [], [], [], [], none), (4, [], [3], [(0, (0, 0, 1)), (1, (0, 0, 0)), (2, (0, 1, 1)), (3, (0, 1, 1))], [], [], [], [], [], none)], [], 0, 0)
set_option maxRecDepth 100000 in
def qP539 : zk_P := ([], [], [], [], [], [], [])
set_option maxRecDepth 100000 in
def qH539 : List zk_Hd := []
set_option maxRecDepth 100000 in
def qX539 : List zk_Hd := []
set_option maxRecDepth 100000 in
theorem qk539 : zk_chk qK qP539 prog_14_method_1_code 3 qC539 (some .boolean) qH539 qX539 69 0 = true := zk_chkD_ok (T := qdt_14_1) qdo_14_1 (by decide +kernel)
set_option maxRecDepth 100000 in
/-- UnaskedLettersModel.weighMarked(I)V  -/
def qC540 : zk_C := ((2, [], [0, 1], [(0, (2, 57, 0)), (1, (0, 0, 2147483647))], [], [], [], [], [], none), [(2, [], [], [(0, (2, 57, 0)), (1, (0, 0, 2147483647))], [], [], [], [], [], none)], [(57, 52), (92, 0), (93, 0), (94, 0), (95, 0)], 0, 0)
set_option maxRecDepth 100000 in
def qP540 : zk_P := ([(341, 12, 44, 0), (120, 12, 53, 4), (111, 12, 48, 4)], [], [], [], [], [(2, qC424), (36, qC518)], [])
set_option maxRecDepth 100000 in
def qH540 : List zk_Hd := [(7, (3, [(0, 0), (2, 2)], [], [(0, (2, 57, 0)), (1, (0, 0, 2147483647)), (2, (0, 0, 120))], [], [], [], [], [], none), [(1, none, none), (121, none, some 2), (1, none, none)], 0, 0)]
set_option maxRecDepth 100000 in
def qX540 : List zk_Hd := []
set_option maxRecDepth 100000 in
theorem qk540 : zk_chk qK qP540 prog_14_method_73_code 3 qC540 none qH540 qX540 80 3 = true := zk_chkD_ok (T := qdt_14_73) qdo_14_73 (by decide +kernel)
