/-! CONTRACTS: found by wip/an (python). -/
set_option maxRecDepth 100000 in
/-- UnaskedLettersModel.lostOrLet(II)I  -/
def qC541 : zk_C := ((3, [], [0, 1, 2], [(0, (2, 57, 0)), (1, (0, (-2147483648), 2147483647)), (2, (0, 0, 1))], [], [], [], [], [], none), [(4, [], [3], [(0, (2, 57, 0)), (1, (0, (-2147483648), 2147483647)), (2, (0, 0, 1)), (3, (0, 0, 120))], [], [], [], [], [], none)], [], 0, 0)
set_option maxRecDepth 100000 in
def qP541 : zk_P := ([(341, 12, 44, 0), (111, 12, 48, 4), (120, 12, 53, 4)], [], [], [], [], [], [])
set_option maxRecDepth 100000 in
def qH541 : List zk_Hd := [(5, (5, [(0, 0), (1, 1), (2, 2), (3, 3), (4, 4)], [], [(0, (2, 57, 0)), (1, (0, (-2147483648), 2147483647)), (2, (0, 0, 1)), (3, (0, 0, 120)), (4, (0, 0, 120))], [(3, 4, 0)], [], [], [], [], none), [(1, none, none), (121, none, some 3), (1, none, none), (121, none, some 4), (1, none, none)], 0, 0)]
set_option maxRecDepth 100000 in
def qX541 : List zk_Hd := []
set_option maxRecDepth 100000 in
theorem qk541 : zk_chk qK qP541 prog_14_method_72_code 6 qC541 (some .int) qH541 qX541 97 5 = true := zk_chkD_ok (T := qdt_14_72) qdo_14_72 (by decide +kernel)
set_option maxRecDepth 100000 in
/-- UnaskedLettersModel.lose(III)I  -/
def qC542 : zk_C := ((4, [], [0, 1, 2, 3], [(0, (2, 57, 0)), (1, (0, (-2147483648), 2147483647)), (2, (0, (-2147483648), 2147483647)), (3, (0, (-2147483648), 2147483647))], [], [], [], [], [], none), [(5, [], [4], [(0, (2, 57, 0)), (1, (0, (-2147483648), 2147483647)), (2, (0, (-2147483648), 2147483647)), (3, (0, (-2147483648), 2147483647)), (4, (0, (-1), 120))], [], [], [], [], [], none)], [(57, 52), (92, 0), (93, 0), (94, 0), (95, 0)], 0, 0)
set_option maxRecDepth 100000 in
def qP542 : zk_P := ([], [], [], [], [], [(2, qC385), (11, qC539), (21, qC540), (27, qC541)], [])
set_option maxRecDepth 100000 in
def qH542 : List zk_Hd := []
set_option maxRecDepth 100000 in
def qX542 : List zk_Hd := []
set_option maxRecDepth 100000 in
theorem qk542 : zk_chk qK qP542 prog_14_method_74_code 4 qC542 (some .int) qH542 qX542 77 0 = true := zk_chkD_ok (T := qdt_14_74) qdo_14_74 (by decide +kernel)
set_option maxRecDepth 100000 in
/-- UnaskedLetters.best(I)I  -/
def qC543 : zk_C := ((2, [], [0, 1], [(0, (2, 2, 0)), (1, (0, (-2147483648), 2147483647))], [], [], [], [], [], none), [(3, [], [2], [(0, (2, 2, 0)), (1, (0, (-2147483648), 2147483647)), (2, (0, (-2147483648), 2147483647))], [], [], [], [], [], none)], [(49, 0), (50, 2), (50, 3), (50, 4), (50, 5), (52, 0), (53, 0), (55, 0), (122, 2), (122, 4), (122, 5)], 0, 0)
set_option maxRecDepth 100000 in
def qP543 : zk_P := ([(181, 11, 15, 0), (67, 11, 8, 4), (289, 3, 3, 4), (82, 11, 11, 4)], [], [], [], [(8, 3, (0, (-1000000), (-1000000))), (19, 3, (0, (-1000000), (-1000000)))], [(2, qC379), (14, qC535), (63, qC537), (70, qC536)], [])
set_option maxRecDepth 100000 in
def qH543 : List zk_Hd := [(29, (12, [(0, 0), (2, 2), (3, 3), (4, 4), (5, 5)], [], [(0, (2, 2, 0)), (1, (0, 0, 2147483647)), (2, (0, 0, 1)), (3, (0, (-2147483648), 2147483647)), (4, (0, 0, 720)), (5, (0, 0, 120)), (6, (0, 0, 2147483647)), (7, (2, 44, 0)), (8, (2, 50, 0)), (9, (0, (-2147483648), 2147483647)), (10, (0, (-2147483648), 2147483647)), (11, (0, (-2147483648), 2147483647))], [(1, 6, 0), (2, 5, 0)], [(0, 13, 6), (0, 8, 7), (0, 9, 8), (8, 3, 9), (8, 4, 10), (8, 5, 11)], [], [], [], none), [(1, none, none), (2, none, some 2), (1, none, none), (121, none, some 5), (1, none, none)], 0, 0)]
set_option maxRecDepth 100000 in
def qX543 : List zk_Hd := []
set_option maxRecDepth 100000 in
theorem qk543 : zk_chk qK qP543 prog_1_method_27_code 8 qC543 (some .int) qH543 qX543 105 5 = true := zk_chkD_ok (T := qdt_1_27) qdo_1_27 (by decide +kernel)
set_option maxRecDepth 100000 in
/-- UnaskedLettersModel.best(I)I  -/
def qC544 : zk_C := ((2, [], [0, 1], [(0, (2, 57, 0)), (1, (0, (-2147483648), 2147483647))], [], [], [], [], [], none), [(3, [], [2], [(0, (2, 57, 0)), (1, (0, (-2147483648), 2147483647)), (2, (0, (-2147483648), 2147483647))], [], [], [], [], [], none)], [(57, 52), (92, 0), (93, 0), (94, 0), (95, 0)], 0, 0)
set_option maxRecDepth 100000 in
def qP544 : zk_P := ([(341, 12, 44, 0), (111, 12, 48, 4), (120, 12, 53, 4)], [], [], [], [(8, 3, (0, (-1000000), (-1000000))), (17, 3, (0, (-1000000), (-1000000))), (79, 3, (0, (-1000000), (-1000000)))], [(2, qC385), (14, qC540), (58, qC541), (71, qC541)], [])
set_option maxRecDepth 100000 in
def qH544 : List zk_Hd := [(26, (6, [(0, 0), (2, 2), (3, 3), (4, 4)], [], [(0, (2, 57, 0)), (1, (0, 0, 2147483647)), (2, (0, (-2147483648), 2147483647)), (3, (0, 0, 720)), (4, (0, 0, 120)), (5, (0, 0, 2147483647))], [(1, 5, 0)], [(0, 0, 5)], [], [], [], none), [(1, none, none), (121, none, some 4), (1, none, none)], 0, 0)]
set_option maxRecDepth 100000 in
def qX544 : List zk_Hd := []
set_option maxRecDepth 100000 in
theorem qk544 : zk_chk qK qP544 prog_14_method_75_code 6 qC544 (some .int) qH544 qX544 113 3 = true := zk_chkD_ok (T := qdt_14_75) qdo_14_75 (by decide +kernel)
set_option maxRecDepth 100000 in
/-- UnaskedLetters$Letter.addStep(II)I  -/
def qC545 : zk_C := ((3, [], [0, 1, 2], [(0, (2, 107, 0)), (1, (0, 0, 11)), (2, (0, 0, 2000))], [], [], [], [], [], none), [(4, [], [3], [(0, (2, 107, 0)), (1, (0, 0, 11)), (2, (0, 0, 2000)), (3, (0, 1, 6))], [], [(0, 16, 3)], [], [], [], none), (5, [], [3], [(0, (2, 107, 0)), (1, (0, 0, 11)), (2, (0, 0, 2000)), (3, (0, (-1), (-1))), (4, (0, 6, 6))], [], [(0, 16, 4)], [], [], [], none)], [(107, 16), (109, 0), (110, 0)], 0, 0)
set_option maxRecDepth 100000 in
def qP545 : zk_P := ([(51, 1, 16, 0), (18, 1, 14, 4), (22, 1, 15, 4)], [], [], [], [], [], [])
set_option maxRecDepth 100000 in
def qH545 : List zk_Hd := []
set_option maxRecDepth 100000 in
def qX545 : List zk_Hd := []
set_option maxRecDepth 100000 in
theorem qk545 : zk_chk qK qP545 prog_3_method_4_code 3 qC545 (some .int) qH545 qX545 85 0 = true := zk_chkD_ok (T := qdt_3_4) qdo_3_4 (by decide +kernel)
set_option maxRecDepth 100000 in
/-- UnaskedLetters.path(III)I  -/
def qC546 : zk_C := ((4, [], [0, 1, 2, 3], [(0, (2, 2, 0)), (1, (0, (-2147483648), 2147483647)), (2, (0, (-2147483648), 2147483647)), (3, (0, (-2147483648), 2147483647))], [], [], [], [], [], none), [(5, [], [4], [(0, (2, 2, 0)), (1, (0, (-2147483648), 2147483647)), (2, (0, (-2147483648), 2147483647)), (3, (0, (-2147483648), 2147483647)), (4, (0, (-1), 6))], [], [], [], [], [], none)], [(107, 16), (109, 0), (110, 0)], 0, 0)
set_option maxRecDepth 100000 in
def qP546 : zk_P := ([(10, 11, 0, 4)], [], [], [], [], [(2, qC474), (17, qC16), (40, qC545)], [])
set_option maxRecDepth 100000 in
def qH546 : List zk_Hd := []
set_option maxRecDepth 100000 in
def qX546 : List zk_Hd := []
set_option maxRecDepth 100000 in
theorem qk546 : zk_chk qK qP546 prog_1_method_28_code 5 qC546 (some .int) qH546 qX546 81 0 = true := zk_chkD_ok (T := qdt_1_28) qdo_1_28 (by decide +kernel)
set_option maxRecDepth 100000 in
/-- UnaskedLettersModel.in(III)Z UnaskedLettersModel.path(III)I@21 -/
def qC547 : zk_C := ((3, [], [0, 1, 2], [(0, (0, (-2147483648), 2147483647)), (1, (0, 0, 0)), (2, (0, 2000, 2000))], [], [], [], [], [], none), [(4, [], [3], [(0, (0, (-2147483648), (-1))), (1, (0, 0, 0)), (2, (0, 2000, 2000)), (3, (0, 0, 0))], [], [], [], [], [], none), (4, [], [3], [(0, (0, 2001, 2147483647)), (1, (0, 0, 0)), (2, (0, 2000, 2000)), (3, (0, 0, 0))], [], [], [], [], [], none), (4, [], [3], [(0, (0, 0, 2000)), (1, (0, 0, 0)), (2, (0, 2000, 2000)), (3, (0, 1, 1))], [], [], [], [], [], none)], [], 0, 0)
set_option maxRecDepth 100000 in
def qP547 : zk_P := ([], [], [], [], [], [], [])
set_option maxRecDepth 100000 in
def qH547 : List zk_Hd := []
set_option maxRecDepth 100000 in
def qX547 : List zk_Hd := []
set_option maxRecDepth 100000 in
theorem qk547 : zk_chk qK qP547 prog_14_method_1_code 3 qC547 (some .boolean) qH547 qX547 69 0 = true := zk_chkD_ok (T := qdt_14_1) qdo_14_1 (by decide +kernel)
