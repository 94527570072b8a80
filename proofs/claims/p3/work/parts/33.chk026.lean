/-! CONTRACTS: found by wip/an (python). -/
noncomputable section
set_option maxRecDepth 100000 in
/-- UnaskedLettersModel.lose(III)I  -/
def qC540 : zk_C := ((5, [], [0, 1, 2, 3], [(0, (2, 57, 0)), (1, (0, (-2147483648), 2147483647)), (2, (0, (-2147483648), 2147483647)), (3, (0, (-2147483648), 2147483647)), (4, (0, (-2147483648), 2147483647))], [], [(0, 0, 4)], [], [], [], none), [(6, [], [5], [(0, (2, 57, 0)), (1, (0, (-2147483648), 2147483647)), (2, (0, (-2147483648), 2147483647)), (3, (0, (-2147483648), 2147483647)), (4, (0, (-2147483648), 2147483647)), (5, (0, (-1), 120))], [], [(0, 0, 4)], [], [], [], none)], [(57, 52), (92, 0), (93, 0), (94, 0), (95, 0)], 0, 0)
set_option maxRecDepth 100000 in
def qP540 : zk_P := ([], [], [], [], [], [(2, qC383), (11, qC537), (21, qC538), (27, qC539)], [])
set_option maxRecDepth 100000 in
def qH540 : List zk_Hd := []
set_option maxRecDepth 100000 in
def qX540 : List zk_Hd := []
set_option maxRecDepth 100000 in
theorem qk540 : zk_chk qK qP540 prog_14_method_74_code 4 qC540 (some .int) qH540 qX540 77 0 = true := zk_chkD_ok (T := qdt_14_74) qdo_14_74 (by decide +kernel)
set_option maxRecDepth 100000 in
/-- UnaskedLetters.best(I)I  -/
def qC541 : zk_C := ((3, [], [0, 1], [(0, (2, 2, 0)), (1, (0, (-2147483648), 2147483647)), (2, (0, (-2147483648), 2147483647))], [], [(0, 13, 2)], [], [], [], none), [(4, [], [3], [(0, (2, 2, 0)), (1, (0, (-2147483648), 2147483647)), (2, (0, (-2147483648), 2147483647)), (3, (0, (-2147483648), 2147483647))], [], [(0, 13, 2)], [], [], [], none)], [(49, 0), (50, 2), (50, 3), (50, 4), (50, 5), (52, 0), (53, 0), (55, 0), (122, 2), (122, 4), (122, 5)], 0, 0)
set_option maxRecDepth 100000 in
def qP541 : zk_P := ([(181, 11, 15, 0), (67, 11, 8, 4), (289, 3, 3, 4), (82, 11, 11, 4)], [], [], [], [(8, 3, (0, (-1000000), (-1000000))), (19, 3, (0, (-1000000), (-1000000)))], [(2, qC377), (14, qC533), (63, qC535), (70, qC534)], [])
set_option maxRecDepth 100000 in
def qH541 : List zk_Hd := [(29, (12, [(0, 0), (2, 3), (3, 4), (4, 5), (5, 6)], [], [(0, (2, 2, 0)), (1, (0, 0, 2147483647)), (2, (0, 0, 2147483647)), (3, (0, 0, 1)), (4, (0, (-2147483648), 2147483647)), (5, (0, 0, 720)), (6, (0, 0, 120)), (7, (2, 44, 0)), (8, (2, 50, 0)), (9, (0, (-2147483648), 2147483647)), (10, (0, (-2147483648), 2147483647)), (11, (0, (-2147483648), 2147483647))], [(1, 2, 0), (3, 6, 0)], [(0, 13, 2), (0, 8, 7), (0, 9, 8), (8, 3, 9), (8, 4, 10), (8, 5, 11)], [], [], [], none), [(1, none, none), (2, none, some 3), (1, none, none), (121, none, some 6), (1, none, none)], 0, 0)]
set_option maxRecDepth 100000 in
def qX541 : List zk_Hd := []
set_option maxRecDepth 100000 in
theorem qk541 : zk_chk qK qP541 prog_1_method_27_code 8 qC541 (some .int) qH541 qX541 105 5 = true := zk_chkD_ok (T := qdt_1_27) qdo_1_27 (by decide +kernel)
set_option maxRecDepth 100000 in
/-- UnaskedLettersModel.best(I)I  -/
def qC542 : zk_C := ((3, [], [0, 1], [(0, (2, 57, 0)), (1, (0, (-2147483648), 2147483647)), (2, (0, (-2147483648), 2147483647))], [], [(0, 0, 2)], [], [], [], none), [(4, [], [3], [(0, (2, 57, 0)), (1, (0, (-2147483648), 2147483647)), (2, (0, (-2147483648), 2147483647)), (3, (0, (-2147483648), 2147483647))], [], [(0, 0, 2)], [], [], [], none)], [(57, 52), (92, 0), (93, 0), (94, 0), (95, 0)], 0, 0)
set_option maxRecDepth 100000 in
def qP542 : zk_P := ([(341, 12, 44, 0), (111, 12, 48, 4), (120, 12, 53, 4)], [], [], [], [(8, 3, (0, (-1000000), (-1000000))), (17, 3, (0, (-1000000), (-1000000))), (79, 3, (0, (-1000000), (-1000000)))], [(2, qC383), (14, qC538), (58, qC539), (71, qC539)], [])
set_option maxRecDepth 100000 in
def qH542 : List zk_Hd := [(26, (6, [(0, 0), (2, 3), (3, 4), (4, 5)], [], [(0, (2, 57, 0)), (1, (0, 0, 2147483647)), (2, (0, 0, 2147483647)), (3, (0, (-2147483648), 2147483647)), (4, (0, 0, 720)), (5, (0, 0, 120))], [(1, 2, 0)], [(0, 0, 2)], [], [], [], none), [(1, none, none), (121, none, some 5), (1, none, none)], 0, 0)]
set_option maxRecDepth 100000 in
def qX542 : List zk_Hd := []
set_option maxRecDepth 100000 in
theorem qk542 : zk_chk qK qP542 prog_14_method_75_code 6 qC542 (some .int) qH542 qX542 113 3 = true := zk_chkD_ok (T := qdt_14_75) qdo_14_75 (by decide +kernel)
set_option maxRecDepth 100000 in
/-- UnaskedLetters$Letter.addStep(II)I  -/
def qC543 : zk_C := ((3, [], [0, 1, 2], [(0, (2, 107, 0)), (1, (0, 0, 11)), (2, (0, 0, 2000))], [], [], [], [], [], none), [(4, [], [3], [(0, (2, 107, 0)), (1, (0, 0, 11)), (2, (0, 0, 2000)), (3, (0, 1, 6))], [], [(0, 16, 3)], [], [], [], none), (5, [], [3], [(0, (2, 107, 0)), (1, (0, 0, 11)), (2, (0, 0, 2000)), (3, (0, (-1), (-1))), (4, (0, 6, 6))], [], [(0, 16, 4)], [], [], [], none)], [(107, 16), (109, 0), (110, 0)], 0, 0)
set_option maxRecDepth 100000 in
def qP543 : zk_P := ([(51, 1, 16, 0), (18, 1, 14, 4), (22, 1, 15, 4)], [], [], [], [], [], [])
set_option maxRecDepth 100000 in
def qH543 : List zk_Hd := []
set_option maxRecDepth 100000 in
def qX543 : List zk_Hd := []
set_option maxRecDepth 100000 in
theorem qk543 : zk_chk qK qP543 prog_3_method_4_code 3 qC543 (some .int) qH543 qX543 85 0 = true := zk_chkD_ok (T := qdt_3_4) qdo_3_4 (by decide +kernel)
set_option maxRecDepth 100000 in
/-- UnaskedLetters.path(III)I  -/
def qC544 : zk_C := ((6, [], [0, 1, 2, 3], [(0, (2, 2, 0)), (1, (0, (-2147483648), 2147483647)), (2, (0, (-2147483648), 2147483647)), (3, (0, (-2147483648), 2147483647)), (4, (2, 4, 0)), (5, (0, 0, 12))], [], [(0, 0, 4), (4, 6, 5)], [], [], [], none), [(7, [], [6], [(0, (2, 2, 0)), (1, (0, (-2147483648), 2147483647)), (2, (0, (-2147483648), 2147483647)), (3, (0, (-2147483648), 2147483647)), (4, (2, 4, 0)), (5, (0, 0, 12)), (6, (0, (-1), 6))], [], [(0, 0, 4), (4, 6, 5)], [], [], [], none)], [(107, 16), (109, 0), (110, 0)], 0, 0)
set_option maxRecDepth 100000 in
def qP544 : zk_P := ([(10, 11, 0, 4)], [], [], [], [], [(2, qC472), (17, qC16), (40, qC543)], [])
set_option maxRecDepth 100000 in
def qH544 : List zk_Hd := []
set_option maxRecDepth 100000 in
def qX544 : List zk_Hd := []
set_option maxRecDepth 100000 in
theorem qk544 : zk_chk qK qP544 prog_1_method_28_code 5 qC544 (some .int) qH544 qX544 81 0 = true := zk_chkD_ok (T := qdt_1_28) qdo_1_28 (by decide +kernel)
set_option maxRecDepth 100000 in
/-- UnaskedLettersModel.in(III)Z UnaskedLettersModel.path(III)I@21 -/
def qC545 : zk_C := ((3, [], [0, 1, 2], [(0, (0, (-2147483648), 2147483647)), (1, (0, 0, 0)), (2, (0, 2000, 2000))], [], [], [], [], [], none), [(4, [], [3], [(0, (0, (-2147483648), (-1))), (1, (0, 0, 0)), (2, (0, 2000, 2000)), (3, (0, 0, 0))], [], [], [], [], [], none), (4, [], [3], [(0, (0, 2001, 2147483647)), (1, (0, 0, 0)), (2, (0, 2000, 2000)), (3, (0, 0, 0))], [], [], [], [], [], none), (4, [], [3], [(0, (0, 0, 2000)), (1, (0, 0, 0)), (2, (0, 2000, 2000)), (3, (0, 1, 1))], [], [], [], [], [], none)], [], 0, 0)
set_option maxRecDepth 100000 in
def qP545 : zk_P := ([], [], [], [], [], [], [])
set_option maxRecDepth 100000 in
def qH545 : List zk_Hd := []
set_option maxRecDepth 100000 in
def qX545 : List zk_Hd := []
set_option maxRecDepth 100000 in
theorem qk545 : zk_chk qK qP545 prog_14_method_1_code 3 qC545 (some .boolean) qH545 qX545 69 0 = true := zk_chkD_ok (T := qdt_14_1) qdo_14_1 (by decide +kernel)
set_option maxRecDepth 100000 in
/-- UnaskedLettersModel.path(III)I  -/
def qC546 : zk_C := ((5, [], [0, 1, 2, 3], [(0, (2, 57, 0)), (1, (0, (-2147483648), 2147483647)), (2, (0, (-2147483648), 2147483647)), (3, (0, (-2147483648), 2147483647)), (4, (0, 0, 12))], [], [(0, 6, 4)], [], [], [], none), [(6, [], [5], [(0, (2, 57, 0)), (1, (0, (-2147483648), 2147483647)), (2, (0, (-2147483648), 2147483647)), (3, (0, (-2147483648), 2147483647)), (4, (0, 0, 12)), (5, (0, (-1), 6))], [], [(0, 6, 4)], [], [], [], none)], [(99, 0), (100, 0), (101, 0)], 0, 0)
set_option maxRecDepth 100000 in
def qP546 : zk_P := ([(138, 12, 61, 4), (132, 12, 59, 4), (135, 12, 60, 4)], [], [], [], [], [(2, qC475), (10, qC21), (21, qC545)], [])
set_option maxRecDepth 100000 in
def qH546 : List zk_Hd := []
set_option maxRecDepth 100000 in
def qX546 : List zk_Hd := []
set_option maxRecDepth 100000 in
theorem qk546 : zk_chk qK qP546 prog_14_method_87_code 4 qC546 (some .int) qH546 qX546 116 0 = true := zk_chkD_ok (T := qdt_14_87) qdo_14_87 (by decide +kernel)
set_option maxRecDepth 100000 in
/-- UnaskedLetters.falsely(I)I  -/
def qC547 : zk_C := ((3, [], [0, 1], [(0, (2, 2, 0)), (1, (0, (-2147483648), 2147483647)), (2, (2, 4, 0))], [], [(0, 0, 2)], [], [], [], none), [(4, [], [3], [(0, (2, 2, 0)), (1, (0, (-2147483648), 2147483647)), (2, (2, 4, 0)), (3, (0, (-1), 6))], [], [(0, 0, 2)], [], [], [], none)], [], 0, 0)
set_option maxRecDepth 100000 in
def qP547 : zk_P := ([(307, 1, 16, 0), (10, 11, 0, 4), (310, 1, 14, 4), (313, 1, 15, 4), (316, 4, 2, 4), (250, 1, 1, 4)], [], [], [], [], [(2, qC472), (47, qC17)], [])
set_option maxRecDepth 100000 in
def qH547 : List zk_Hd := [(21, (7, [(0, 0), (2, 3), (3, 4)], [], [(0, (2, 2, 0)), (1, (0, 0, 119)), (2, (2, 4, 0)), (3, (2, 107, 0)), (4, (0, 1, 6)), (5, (0, 1, 6)), (6, (0, 1, 120))], [(1, 6, (-1)), (4, 5, 0)], [(3, 16, 5), (0, 0, 2), (0, 15, 6)], [], [], [], none), [(1, none, none), (7, none, some 4), (1, none, none)], 0, 0)]
set_option maxRecDepth 100000 in
def qX547 : List zk_Hd := []
set_option maxRecDepth 100000 in
theorem qk547 : zk_chk qK qP547 prog_1_method_29_code 4 qC547 (some .int) qH547 qX547 92 3 = true := zk_chkD_ok (T := qdt_1_29) qdo_1_29 (by decide +kernel)
set_option maxRecDepth 100000 in
/-- UnaskedLettersModel.falsely(I)I  -/
def qC548 : zk_C := ((2, [], [0, 1], [(0, (2, 57, 0)), (1, (0, (-2147483648), 2147483647))], [], [], [], [], [], none), [(3, [], [2], [(0, (2, 57, 0)), (1, (0, (-2147483648), 2147483647)), (2, (0, (-1), 6))], [], [], [], [], [], none)], [], 0, 0)
set_option maxRecDepth 100000 in
def qP548 : zk_P := ([(138, 12, 61, 4), (13, 12, 2, 4), (132, 12, 59, 4), (135, 12, 60, 4), (16, 12, 3, 4), (78, 12, 36, 4)], [], [], [], [], [(2, qC475)], [])
set_option maxRecDepth 100000 in
def qH548 : List zk_Hd := []
set_option maxRecDepth 100000 in
def qX548 : List zk_Hd := []
set_option maxRecDepth 100000 in
theorem qk548 : zk_chk qK qP548 prog_14_method_88_code 4 qC548 (some .int) qH548 qX548 313 0 = true := zk_chkD_ok (T := qdt_14_88) qdo_14_88 (by decide +kernel)
set_option maxRecDepth 100000 in
/-- UnaskedLetters.give(II)Z  -/
def qC549 : zk_C := ((5, [], [0, 1, 2], [(0, (2, 2, 0)), (1, (0, (-2147483648), 2147483647)), (2, (0, (-2147483648), 2147483647)), (3, (2, 4, 0)), (4, (0, 0, 40))], [], [(0, 0, 3), (3, 7, 4)], [], [], [], none), [(6, [], [5], [(0, (2, 2, 0)), (1, (0, (-2147483648), (-1))), (2, (0, (-2147483648), 2147483647)), (3, (2, 4, 0)), (4, (0, 0, 40)), (5, (0, 0, 0))], [], [(0, 0, 3), (3, 7, 4)], [], [], [], none), (6, [], [5], [(0, (2, 2, 0)), (1, (0, 0, 2147483647)), (2, (0, (-2147483648), 2147483647)), (3, (2, 4, 0)), (4, (0, 0, 40)), (5, (0, 0, 0))], [(4, 1, 0)], [(0, 0, 3), (3, 7, 4)], [], [], [], none), (6, [], [5], [(0, (2, 2, 0)), (1, (0, 0, 39)), (2, (0, (-2147483648), (-1))), (3, (2, 4, 0)), (4, (0, 1, 40)), (5, (0, 0, 0))], [(1, 4, (-1))], [(0, 0, 3), (3, 7, 4)], [], [], [], none), (6, [], [5], [(0, (2, 2, 0)), (1, (0, 0, 39)), (2, (0, 0, 255)), (3, (2, 4, 0)), (4, (0, 1, 40)), (5, (0, 1, 1))], [(1, 4, (-1))], [(0, 0, 3), (3, 7, 4)], [], [], [], none), (6, [], [5], [(0, (2, 2, 0)), (1, (0, 0, 39)), (2, (0, 256, 2147483647)), (3, (2, 4, 0)), (4, (0, 1, 40)), (5, (0, 0, 0))], [(1, 4, (-1))], [(0, 0, 3), (3, 7, 4)], [], [], [], none)], [(10, 0)], 0, 0)
set_option maxRecDepth 100000 in
def qP549 : zk_P := ([(10, 11, 0, 4), (319, 4, 4, 4)], [], [], [], [], [(5, qC435)], [])
set_option maxRecDepth 100000 in
def qH549 : List zk_Hd := []
set_option maxRecDepth 100000 in
def qX549 : List zk_Hd := []
set_option maxRecDepth 100000 in
theorem qk549 : zk_chk qK qP549 prog_1_method_30_code 3 qC549 (some .boolean) qH549 qX549 81 0 = true := zk_chkD_ok (T := qdt_1_30) qdo_1_30 (by decide +kernel)
set_option maxRecDepth 100000 in
/-- UnaskedLettersModel.in(III)Z UnaskedLettersModel.give(II)Z@13 -/
def qC550 : zk_C := ((3, [], [0, 1, 2], [(0, (0, (-2147483648), 2147483647)), (1, (0, 0, 0)), (2, (0, 255, 255))], [], [], [], [], [], none), [(4, [], [3], [(0, (0, (-2147483648), (-1))), (1, (0, 0, 0)), (2, (0, 255, 255)), (3, (0, 0, 0))], [], [], [], [], [], none), (4, [], [3], [(0, (0, 256, 2147483647)), (1, (0, 0, 0)), (2, (0, 255, 255)), (3, (0, 0, 0))], [], [], [], [], [], none), (4, [], [3], [(0, (0, 0, 255)), (1, (0, 0, 0)), (2, (0, 255, 255)), (3, (0, 1, 1))], [], [], [], [], [], none)], [], 0, 0)
set_option maxRecDepth 100000 in
def qP550 : zk_P := ([], [], [], [], [], [], [])
set_option maxRecDepth 100000 in
def qH550 : List zk_Hd := []
set_option maxRecDepth 100000 in
def qX550 : List zk_Hd := []
set_option maxRecDepth 100000 in
theorem qk550 : zk_chk qK qP550 prog_14_method_1_code 3 qC550 (some .boolean) qH550 qX550 69 0 = true := zk_chkD_ok (T := qdt_14_1) qdo_14_1 (by decide +kernel)
set_option maxRecDepth 100000 in
/-- UnaskedLettersModel.give(II)Z  -/
def qC551 : zk_C := ((4, [], [0, 1, 2], [(0, (2, 57, 0)), (1, (0, (-2147483648), 2147483647)), (2, (0, (-2147483648), 2147483647)), (3, (0, 0, 40))], [], [(0, 7, 3)], [], [], [], none), [(5, [], [4], [(0, (2, 57, 0)), (1, (0, (-2147483648), (-1))), (2, (0, (-2147483648), 2147483647)), (3, (0, 0, 40)), (4, (0, 0, 0))], [], [(0, 7, 3)], [], [], [], none), (5, [], [4], [(0, (2, 57, 0)), (1, (0, 0, 2147483647)), (2, (0, (-2147483648), 2147483647)), (3, (0, 0, 40)), (4, (0, 0, 0))], [(3, 1, 0)], [(0, 7, 3)], [], [], [], none), (5, [], [4], [(0, (2, 57, 0)), (1, (0, 0, 39)), (2, (0, (-2147483648), (-1))), (3, (0, 1, 40)), (4, (0, 0, 0))], [(1, 3, (-1))], [(0, 7, 3)], [], [], [], none), (5, [], [4], [(0, (2, 57, 0)), (1, (0, 0, 39)), (2, (0, 256, 2147483647)), (3, (0, 1, 40)), (4, (0, 0, 0))], [(1, 3, (-1))], [(0, 7, 3)], [], [], [], none), (5, [], [4], [(0, (2, 57, 0)), (1, (0, 0, 39)), (2, (0, 0, 255)), (3, (0, 1, 40)), (4, (0, 1, 1))], [(1, 3, (-1))], [(0, 7, 3)], [], [], [], none)], [(63, 0)], 0, 0)
set_option maxRecDepth 100000 in
def qP551 : zk_P := ([(23, 12, 5, 4)], [], [], [], [], [(2, qC466), (13, qC550)], [])
set_option maxRecDepth 100000 in
def qH551 : List zk_Hd := []
set_option maxRecDepth 100000 in
def qX551 : List zk_Hd := []
set_option maxRecDepth 100000 in
theorem qk551 : zk_chk qK qP551 prog_14_method_10_code 3 qC551 (some .boolean) qH551 qX551 79 0 = true := zk_chkD_ok (T := qdt_14_10) qdo_14_10 (by decide +kernel)
set_option maxRecDepth 100000 in
/-- UnaskedLetters$Net.clearReached()V  -/
def qC552 : zk_C := ((2, [], [0], [(0, (2, 4, 0)), (1, (0, 0, 40))], [], [(0, 7, 1)], [], [], [], none), [(2, [], [], [(0, (2, 4, 0)), (1, (0, 0, 40))], [], [(0, 7, 1)], [], [], [], none)], [(11, 0)], 0, 0)
set_option maxRecDepth 100000 in
def qP552 : zk_P := ([(35, 4, 7, 0), (28, 4, 5, 4)], [], [], [], [], [], [])
set_option maxRecDepth 100000 in
def qH552 : List zk_Hd := [(2, (3, [(0, 0), (1, 2)], [], [(0, (2, 4, 0)), (1, (0, 0, 40)), (2, (0, 0, 40))], [(2, 1, 0)], [(0, 7, 1)], [], [], [], none), [(1, none, none), (41, none, some 2), (1, none, none)], 0, 0)]
set_option maxRecDepth 100000 in
def qX552 : List zk_Hd := []
set_option maxRecDepth 100000 in
theorem qk552 : zk_chk qK qP552 prog_6_method_8_code 2 qC552 none qH552 qX552 72 3 = true := zk_chkD_ok (T := qdt_6_8) qdo_6_8 (by decide +kernel)
set_option maxRecDepth 100000 in
/-- UnaskedLetters$Net.explains(I)Z  -/
def qC553 : zk_C := ((3, [], [0, 1], [(0, (2, 4, 0)), (1, (0, 0, 1000)), (2, (0, 0, 40))], [], [(0, 7, 2)], [], [], [], none), [(4, [], [3], [(0, (2, 4, 0)), (1, (0, 0, 1000)), (2, (0, 0, 40)), (3, (0, 1, 1))], [], [(0, 7, 2)], [], [], [], none), (4, [], [3], [(0, (2, 4, 0)), (1, (0, 0, 1000)), (2, (0, 1, 40)), (3, (0, 0, 0))], [], [(0, 7, 2)], [], [], [], none)], [], 0, 0)
set_option maxRecDepth 100000 in
def qP553 : zk_P := ([(35, 4, 7, 0), (28, 4, 5, 4), (25, 4, 4, 4)], [], [], [], [], [], [])
set_option maxRecDepth 100000 in
def qH553 : List zk_Hd := [(2, (4, [(0, 0), (1, 1), (2, 3)], [], [(0, (2, 4, 0)), (1, (0, 0, 1000)), (2, (0, 0, 40)), (3, (0, 0, 40))], [(3, 2, 0)], [(0, 7, 2)], [], [], [], none), [(1, none, none), (41, none, some 3), (1, none, none)], 0, 0)]
set_option maxRecDepth 100000 in
def qX553 : List zk_Hd := []
set_option maxRecDepth 100000 in
theorem qk553 : zk_chk qK qP553 prog_6_method_9_code 3 qC553 (some .boolean) qH553 qX553 79 3 = true := zk_chkD_ok (T := qdt_6_9) qdo_6_9 (by decide +kernel)
set_option maxRecDepth 100000 in
/-- java/lang/Integer.bitCount(I)I UnaskedLetters.isAhead(II)Z@1 -/
def qC554 : zk_C := ((1, [], [0], [(0, (0, 0, 255))], [], [], [], [], [], none), [(2, [], [1], [(0, (0, 0, 255)), (1, (0, 0, 63))], [], [], [], [], [], none)], [], 0, 0)
set_option maxRecDepth 100000 in
def qP554 : zk_P := ([], [], [], [], [(4, 3, (0, 1431655765, 1431655765)), (11, 3, (0, 858993459, 858993459)), (18, 3, (0, 858993459, 858993459)), (29, 3, (0, 252645135, 252645135))], [], [])
set_option maxRecDepth 100000 in
def qH554 : List zk_Hd := []
set_option maxRecDepth 100000 in
def qX554 : List zk_Hd := []
set_option maxRecDepth 100000 in
theorem qk554 : zk_chk qK qP554 prog_17_method_49_code 1 qC554 (some .int) qH554 qX554 102 0 = true := zk_chkD_ok (T := qdt_17_49) qdo_17_49 (by decide +kernel)
set_option maxRecDepth 100000 in
/-- java/lang/Integer.bitCount(I)I UnaskedLetters.isAhead(II)Z@6 -/
def qC555 : zk_C := ((1, [], [0], [(0, (0, 0, 288))], [], [], [], [], [], none), [(2, [], [1], [(0, (0, 0, 288)), (1, (0, 0, 63))], [], [], [], [], [], none)], [], 0, 0)
set_option maxRecDepth 100000 in
def qP555 : zk_P := ([], [], [], [], [(4, 3, (0, 1431655765, 1431655765)), (11, 3, (0, 858993459, 858993459)), (18, 3, (0, 858993459, 858993459)), (29, 3, (0, 252645135, 252645135))], [], [])
set_option maxRecDepth 100000 in
def qH555 : List zk_Hd := []
set_option maxRecDepth 100000 in
def qX555 : List zk_Hd := []
set_option maxRecDepth 100000 in
theorem qk555 : zk_chk qK qP555 prog_17_method_49_code 1 qC555 (some .int) qH555 qX555 102 0 = true := zk_chkD_ok (T := qdt_17_49) qdo_17_49 (by decide +kernel)
set_option maxRecDepth 100000 in
/-- UnaskedLetters.isAhead(II)Z  -/
def qC556 : zk_C := ((2, [], [0, 1], [(0, (0, 0, 255)), (1, (0, 0, 288))], [], [], [], [], [], none), [(3, [], [2], [(0, (0, 0, 255)), (1, (0, 0, 288)), (2, (0, 0, 0))], [], [], [], [], [], none), (3, [], [2], [(0, (0, 0, 255)), (1, (0, 0, 288)), (2, (0, 1, 1))], [], [], [], [], [], none)], [], 0, 0)
set_option maxRecDepth 100000 in
def qP556 : zk_P := ([], [], [], [], [], [(1, qC554), (6, qC555)], [])
set_option maxRecDepth 100000 in
def qH556 : List zk_Hd := []
set_option maxRecDepth 100000 in
def qX556 : List zk_Hd := []
set_option maxRecDepth 100000 in
theorem qk556 : zk_chk qK qP556 prog_1_method_45_code 5 qC556 (some .boolean) qH556 qX556 83 0 = true := zk_chkD_ok (T := qdt_1_45) qdo_1_45 (by decide +kernel)
set_option maxRecDepth 100000 in
/-- UnaskedLetters.spread(I)I  -/
def qC557 : zk_C := ((5, [], [0, 1], [(0, (2, 2, 0)), (1, (0, (-2147483648), 2147483647)), (2, (2, 4, 0)), (3, (0, 0, 12)), (4, (0, 0, 40))], [], [(0, 0, 2), (2, 6, 3), (2, 7, 4)], [], [], [], none), [(6, [], [5], [(0, (2, 2, 0)), (1, (0, (-2147483648), 2147483647)), (2, (2, 4, 0)), (3, (0, 0, 12)), (4, (0, 0, 40)), (5, (0, (-1), 255))], [], [(0, 0, 2), (2, 6, 3), (2, 7, 4)], [], [], [], none)], [(11, 0)], 0, 0)
set_option maxRecDepth 100000 in
def qP557 : zk_P := ([(10, 11, 0, 4), (181, 11, 15, 0), (316, 4, 2, 4), (60, 11, 7, 4), (247, 1, 0, 4), (328, 4, 5, 4), (250, 1, 1, 4)], [], [], [], [], [(5, qC16), (17, qC552), (53, qC501), (99, qC553), (112, qC556)], [])
set_option maxRecDepth 100000 in
def qH557 : List zk_Hd := [(22, (6, [(0, 0), (1, 1), (2, 5)], [], [(0, (2, 2, 0)), (1, (0, 0, 11)), (2, (2, 4, 0)), (3, (0, 1, 12)), (4, (0, 0, 40)), (5, (0, 0, 120))], [(1, 3, (-1))], [(0, 0, 2), (2, 6, 3), (2, 7, 4)], [], [], [], none), [(2, none, none), (121, none, some 5), (1, none, none)], 0, 0), (87, (8, [(0, 0), (2, 5), (3, 6)], [], [(0, (2, 2, 0)), (1, (0, 0, 11)), (2, (2, 4, 0)), (3, (0, 1, 12)), (4, (0, 0, 40)), (5, (0, (-1), 255)), (6, (0, 0, 256)), (7, (0, 0, 120))], [(1, 3, (-1)), (5, 6, (-1))], [(0, 0, 2), (0, 15, 7), (2, 6, 3), (2, 7, 4)], [], [], [], none), [(1, none, none), (257, none, some 6), (1, none, none)], 0, 0)]
set_option maxRecDepth 100000 in
def qX557 : List zk_Hd := []
set_option maxRecDepth 100000 in
theorem qk557 : zk_chk qK qP557 prog_1_method_31_code 4 qC557 (some .int) qH557 qX557 92 3 = true := zk_chkD_ok (T := qdt_1_31) qdo_1_31 (by decide +kernel)
set_option maxRecDepth 100000 in
/-- java/lang/Integer.bitCount(I)I UnaskedLettersModel.spread(I)I@45 -/
def qC558 : zk_C := ((1, [], [0], [(0, (0, 0, 1000))], [], [], [], [], [], none), [(2, [], [1], [(0, (0, 0, 1000)), (1, (0, 0, 63))], [], [], [], [], [], none)], [], 0, 0)
set_option maxRecDepth 100000 in
def qP558 : zk_P := ([], [], [], [], [(4, 3, (0, 1431655765, 1431655765)), (11, 3, (0, 858993459, 858993459)), (18, 3, (0, 858993459, 858993459)), (29, 3, (0, 252645135, 252645135))], [], [])
set_option maxRecDepth 100000 in
def qH558 : List zk_Hd := []
set_option maxRecDepth 100000 in
def qX558 : List zk_Hd := []
set_option maxRecDepth 100000 in
theorem qk558 : zk_chk qK qP558 prog_17_method_49_code 1 qC558 (some .int) qH558 qX558 102 0 = true := zk_chkD_ok (T := qdt_17_49) qdo_17_49 (by decide +kernel)
set_option maxRecDepth 100000 in
/-- java/lang/Integer.bitCount(I)I UnaskedLettersModel.spread(I)I@49 -/
def qC559 : zk_C := ((1, [], [0], [(0, (0, 0, 255))], [], [], [], [], [], none), [(2, [], [1], [(0, (0, 0, 255)), (1, (0, 0, 63))], [], [], [], [], [], none)], [], 0, 0)
set_option maxRecDepth 100000 in
def qP559 : zk_P := ([], [], [], [], [(4, 3, (0, 1431655765, 1431655765)), (11, 3, (0, 858993459, 858993459)), (18, 3, (0, 858993459, 858993459)), (29, 3, (0, 252645135, 252645135))], [], [])
set_option maxRecDepth 100000 in
def qH559 : List zk_Hd := []
set_option maxRecDepth 100000 in
def qX559 : List zk_Hd := []
set_option maxRecDepth 100000 in
theorem qk559 : zk_chk qK qP559 prog_17_method_49_code 1 qC559 (some .int) qH559 qX559 102 0 = true := zk_chkD_ok (T := qdt_17_49) qdo_17_49 (by decide +kernel)
set_option maxRecDepth 100000 in
/-- UnaskedLettersModel.explains(II)Z  -/
def qC560 : zk_C := ((3, [], [0, 1, 2], [(0, (2, 57, 0)), (1, (0, 0, 255)), (2, (0, 0, 11))], [], [], [], [], [], none), [(4, [], [3], [(0, (2, 57, 0)), (1, (0, 0, 255)), (2, (0, 0, 11)), (3, (0, 1, 1))], [], [], [], [], [], none), (5, [], [3], [(0, (2, 57, 0)), (1, (0, 0, 255)), (2, (0, 0, 11)), (3, (0, 0, 0)), (4, (0, 1, 120))], [], [(0, 44, 4)], [], [], [], none)], [], 0, 0)
set_option maxRecDepth 100000 in
def qP560 : zk_P := ([(341, 12, 44, 0), (16, 12, 3, 4), (75, 12, 35, 4), (78, 12, 36, 4), (23, 12, 5, 4)], [], [], [], [], [(39, qC517)], [])
set_option maxRecDepth 100000 in
def qH560 : List zk_Hd := [(2, (4, [(0, 0), (1, 1), (2, 2), (3, 3)], [], [(0, (2, 57, 0)), (1, (0, 0, 255)), (2, (0, 0, 11)), (3, (0, 0, 120))], [], [], [], [], [], none), [(1, none, none), (121, none, some 3), (1, none, none)], 0, 0)]
set_option maxRecDepth 100000 in
def qX560 : List zk_Hd := []
set_option maxRecDepth 100000 in
theorem qk560 : zk_chk qK qP560 prog_14_method_90_code 4 qC560 (some .boolean) qH560 qX560 98 3 = true := zk_chkD_ok (T := qdt_14_90) qdo_14_90 (by decide +kernel)
set_option maxRecDepth 100000 in
/-- UnaskedLettersModel.spread(I)I  -/
def qC561 : zk_C := ((3, [], [0, 1], [(0, (2, 57, 0)), (1, (0, (-2147483648), 2147483647)), (2, (0, 0, 12))], [], [(0, 6, 2)], [], [], [], none), [(4, [], [3], [(0, (2, 57, 0)), (1, (0, (-2147483648), 2147483647)), (2, (0, 0, 12)), (3, (0, (-1), 255))], [], [(0, 6, 2)], [], [], [], none)], [], 0, 0)
set_option maxRecDepth 100000 in
def qP561 : zk_P := ([], [], [], [], [], [(2, qC21), (45, qC558), (49, qC559), (96, qC560)], [])
set_option maxRecDepth 100000 in
def qH561 : List zk_Hd := [(14, (5, [(0, 0), (1, 1), (2, 3), (3, 4)], [], [(0, (2, 57, 0)), (1, (0, 0, 11)), (2, (0, 1, 12)), (3, (0, (-1), 255)), (4, (0, 0, 256))], [(1, 2, (-1)), (3, 4, (-1))], [(0, 6, 2)], [], [], [], none), [(1, none, none), (257, none, some 4), (1, none, none)], 0, 0)]
set_option maxRecDepth 100000 in
def qX561 : List zk_Hd := []
set_option maxRecDepth 100000 in
theorem qk561 : zk_chk qK qP561 prog_14_method_89_code 7 qC561 (some .int) qH561 qX561 108 3 = true := zk_chkD_ok (T := qdt_14_89) qdo_14_89 (by decide +kernel)
set_option maxRecDepth 100000 in
/-- UnaskedLetters$Tape.wordEnd(I)I  -/
def qC562 : zk_C := ((2, [], [0, 1], [(0, (2, 12, 0)), (1, (0, 0, 160))], [], [], [], [], [], none), [(3, [], [2], [(0, (2, 12, 0)), (1, (0, 0, 160)), (2, (0, 0, 160))], [(1, 2, 0)], [], [], [], [], none)], [], 0, 0)
set_option maxRecDepth 100000 in
def qP562 : zk_P := ([(15, 8, 1, 0)], [], [], [], [], [(12, qC32), (15, qC34)], [])
set_option maxRecDepth 100000 in
def qH562 : List zk_Hd := [(2, (3, [(0, 0), (2, 2)], [], [(0, (2, 12, 0)), (1, (0, 0, 160)), (2, (0, 0, 160))], [(1, 2, 0)], [], [], [], [], none), [(1, none, none), (161, none, some 2), (1, none, none)], 0, 0)]
set_option maxRecDepth 100000 in
def qX562 : List zk_Hd := []
set_option maxRecDepth 100000 in
theorem qk562 : zk_chk qK qP562 prog_10_method_5_code 3 qC562 (some .int) qH562 qX562 72 3 = true := zk_chkD_ok (T := qdt_10_5) qdo_10_5 (by decide +kernel)
end
