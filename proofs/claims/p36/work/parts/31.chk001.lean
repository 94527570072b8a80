/-! CONTRACTS: found by wip/an (python). -/
set_option maxRecDepth 100000 in
/-- UnaskedLetters.up(IZ)Z  -/
def qC17 : zk_C := ((5, [], [0, 1, 2], [(0, (2, 2, 0)), (1, (0, (-2147483648), 2147483647)), (2, (0, 0, 1)), (3, (2, 4, 0)), (4, (0, 0, 12))], [], [(0, 0, 3), (3, 6, 4)], [], [], [], none), [(6, [], [5], [(0, (2, 2, 0)), (1, (0, (-2147483648), 2147483647)), (2, (0, 0, 1)), (3, (2, 4, 0)), (4, (0, 0, 12)), (5, (0, 0, 1))], [(5, 4, 0)], [(0, 0, 3), (3, 6, 4)], [], [], [], none)], [(6, 0)], 0, 0)
set_option maxRecDepth 100000 in
def qP17 : zk_P := ([(10, 11, 0, 4), (100, 4, 0, 4)], [], [], [], [], [(5, qC16)], [])
set_option maxRecDepth 100000 in
def qH17 : List zk_Hd := []
set_option maxRecDepth 100000 in
def qX17 : List zk_Hd := []
set_option maxRecDepth 100000 in
theorem qk17 : zk_chk qK qP17 prog_1_method_3_code 3 qC17 (some .boolean) qH17 qX17 80 0 = true := zk_chkD_ok (T := qdt_1_3) qdo_1_3 (by decide +kernel)
set_option maxRecDepth 100000 in
/-- UnaskedLettersModel.in(III)Z UnaskedLettersModel.isHouse(I)Z@8 -/
def qC18 : zk_C := ((3, [], [0, 1, 2], [(0, (0, (-2147483648), 2147483647)), (1, (0, 0, 0)), (2, (0, (-1), 11))], [], [], [], [], [], none), [(4, [], [3], [(0, (0, (-2147483648), (-1))), (1, (0, 0, 0)), (2, (0, (-1), 11)), (3, (0, 0, 0))], [], [], [], [], [], none), (4, [], [3], [(0, (0, 0, 2147483647)), (1, (0, 0, 0)), (2, (0, (-1), 11)), (3, (0, 0, 0))], [(2, 0, (-1))], [], [], [], [], none), (4, [], [3], [(0, (0, 0, 11)), (1, (0, 0, 0)), (2, (0, 0, 11)), (3, (0, 1, 1))], [(0, 2, 0)], [], [], [], [], none)], [], 0, 0)
set_option maxRecDepth 100000 in
def qP18 : zk_P := ([], [], [], [], [], [], [])
set_option maxRecDepth 100000 in
def qH18 : List zk_Hd := []
set_option maxRecDepth 100000 in
def qX18 : List zk_Hd := []
set_option maxRecDepth 100000 in
theorem qk18 : zk_chk qK qP18 prog_14_method_1_code 3 qC18 (some .boolean) qH18 qX18 69 0 = true := zk_chkD_ok (T := qdt_14_1) qdo_14_1 (by decide +kernel)
set_option maxRecDepth 100000 in
/-- UnaskedLettersModel.isHouse(I)Z  -/
def qC19 : zk_C := ((3, [], [0, 1], [(0, (2, 57, 0)), (1, (0, (-2147483648), 2147483647)), (2, (0, 0, 12))], [], [(0, 6, 2)], [], [], [], none), [(4, [], [3], [(0, (2, 57, 0)), (1, (0, (-2147483648), (-1))), (2, (0, 0, 12)), (3, (0, 0, 0))], [], [(0, 6, 2)], [], [], [], none), (4, [], [3], [(0, (2, 57, 0)), (1, (0, 0, 2147483647)), (2, (0, 0, 12)), (3, (0, 0, 0))], [(2, 1, 0)], [(0, 6, 2)], [], [], [], none), (4, [], [3], [(0, (2, 57, 0)), (1, (0, 0, 11)), (2, (0, 1, 12)), (3, (0, 1, 1))], [(1, 2, (-1))], [(0, 6, 2)], [], [], [], none)], [], 0, 0)
set_option maxRecDepth 100000 in
def qP19 : zk_P := ([(164, 12, 6, 0)], [], [], [], [], [(8, qC18)], [])
set_option maxRecDepth 100000 in
def qH19 : List zk_Hd := []
set_option maxRecDepth 100000 in
def qX19 : List zk_Hd := []
set_option maxRecDepth 100000 in
theorem qk19 : zk_chk qK qP19 prog_14_method_4_code 2 qC19 (some .boolean) qH19 qX19 68 0 = true := zk_chkD_ok (T := qdt_14_4) qdo_14_4 (by decide +kernel)
set_option maxRecDepth 100000 in
/-- UnaskedLettersModel.up(IZ)Z  -/
def qC20 : zk_C := ((4, [], [0, 1, 2], [(0, (2, 57, 0)), (1, (0, (-2147483648), 2147483647)), (2, (0, 0, 1)), (3, (0, 0, 12))], [], [(0, 6, 3)], [], [], [], none), [(5, [], [4], [(0, (2, 57, 0)), (1, (0, (-2147483648), 2147483647)), (2, (0, 0, 1)), (3, (0, 0, 12)), (4, (0, 0, 1))], [(4, 3, 0)], [(0, 6, 3)], [], [], [], none)], [(59, 0)], 0, 0)
set_option maxRecDepth 100000 in
def qP20 : zk_P := ([(9, 12, 1, 4)], [], [], [], [], [(2, qC19)], [])
set_option maxRecDepth 100000 in
def qH20 : List zk_Hd := []
set_option maxRecDepth 100000 in
def qX20 : List zk_Hd := []
set_option maxRecDepth 100000 in
theorem qk20 : zk_chk qK qP20 prog_14_method_7_code 3 qC20 (some .boolean) qH20 qX20 80 0 = true := zk_chkD_ok (T := qdt_14_7) qdo_14_7 (by decide +kernel)
set_option maxRecDepth 100000 in
/-- UnaskedLetters$Net.joined(II)Z  -/
def qC21 : zk_C := ((3, [], [0, 1, 2], [(0, (2, 4, 0)), (1, (0, 0, 11)), (2, (0, 0, 11))], [], [], [], [], [], none), [(4, [], [3], [(0, (2, 4, 0)), (1, (0, 0, 11)), (2, (0, 0, 11)), (3, (0, 0, 0))], [], [], [], [], [], none), (4, [], [3], [(0, (2, 4, 0)), (1, (0, 0, 11)), (2, (0, 0, 11)), (3, (0, 1, 1))], [], [], [], [], [], none)], [], 0, 0)
set_option maxRecDepth 100000 in
def qP21 : zk_P := ([(15, 4, 1, 4)], [], [], [], [], [], [])
set_option maxRecDepth 100000 in
def qH21 : List zk_Hd := []
set_option maxRecDepth 100000 in
def qX21 : List zk_Hd := []
set_option maxRecDepth 100000 in
theorem qk21 : zk_chk qK qP21 prog_6_method_6_code 3 qC21 (some .boolean) qH21 qX21 72 0 = true := zk_chkD_ok (T := qdt_6_6) qdo_6_6 (by decide +kernel)
set_option maxRecDepth 100000 in
/-- UnaskedLetters$Net.join(II)V  -/
def qC22 : zk_C := ((3, [], [0, 1, 2], [(0, (2, 4, 0)), (1, (0, 0, 11)), (2, (0, 0, 11))], [], [], [], [], [], none), [(3, [], [], [(0, (2, 4, 0)), (1, (0, 0, 11)), (2, (0, 0, 11))], [], [], [], [], [], none)], [(7, 0)], 0, 0)
set_option maxRecDepth 100000 in
def qP22 : zk_P := ([(15, 4, 1, 4)], [], [], [], [], [], [])
set_option maxRecDepth 100000 in
def qH22 : List zk_Hd := []
set_option maxRecDepth 100000 in
def qX22 : List zk_Hd := []
set_option maxRecDepth 100000 in
theorem qk22 : zk_chk qK qP22 prog_6_method_7_code 3 qC22 none qH22 qX22 81 0 = true := zk_chkD_ok (T := qdt_6_7) qdo_6_7 (by decide +kernel)
set_option maxRecDepth 100000 in
/-- UnaskedLetters.road(II)Z  -/
def qC23 : zk_C := ((5, [], [0, 1, 2], [(0, (2, 2, 0)), (1, (0, (-2147483648), 2147483647)), (2, (0, (-2147483648), 2147483647)), (3, (2, 4, 0)), (4, (0, 0, 12))], [], [(0, 0, 3), (3, 6, 4)], [], [], [], none), [(6, [], [5], [(0, (2, 2, 0)), (1, (0, (-2147483648), 2147483647)), (2, (0, (-2147483648), 2147483647)), (3, (2, 4, 0)), (4, (0, 0, 12)), (5, (0, 0, 1))], [(5, 4, 0)], [(0, 0, 3), (3, 6, 4)], [], [], [], none)], [(7, 0)], 0, 0)
set_option maxRecDepth 100000 in
def qP23 : zk_P := ([(10, 11, 0, 4)], [], [], [], [], [(5, qC16), (16, qC16), (33, qC21), (47, qC22)], [])
set_option maxRecDepth 100000 in
def qH23 : List zk_Hd := []
set_option maxRecDepth 100000 in
def qX23 : List zk_Hd := []
set_option maxRecDepth 100000 in
theorem qk23 : zk_chk qK qP23 prog_1_method_4_code 3 qC23 (some .boolean) qH23 qX23 86 0 = true := zk_chkD_ok (T := qdt_1_4) qdo_1_4 (by decide +kernel)
set_option maxRecDepth 100000 in
/-- UnaskedLettersModel.road(II)Z  -/
def qC24 : zk_C := ((4, [], [0, 1, 2], [(0, (2, 57, 0)), (1, (0, (-2147483648), 2147483647)), (2, (0, (-2147483648), 2147483647)), (3, (0, 0, 12))], [], [(0, 6, 3)], [], [], [], none), [(5, [], [4], [(0, (2, 57, 0)), (1, (0, (-2147483648), 2147483647)), (2, (0, (-2147483648), 2147483647)), (3, (0, 0, 12)), (4, (0, 0, 1))], [(4, 3, 0)], [(0, 6, 3)], [], [], [], none)], [(60, 0)], 0, 0)
set_option maxRecDepth 100000 in
def qP24 : zk_P := ([(13, 12, 2, 4)], [], [], [], [], [(2, qC19), (10, qC19)], [])
set_option maxRecDepth 100000 in
def qH24 : List zk_Hd := []
set_option maxRecDepth 100000 in
def qX24 : List zk_Hd := []
set_option maxRecDepth 100000 in
theorem qk24 : zk_chk qK qP24 prog_14_method_8_code 3 qC24 (some .boolean) qH24 qX24 100 0 = true := zk_chkD_ok (T := qdt_14_8) qdo_14_8 (by decide +kernel)
set_option maxRecDepth 100000 in
/-- UnaskedLetters$Net.addName(IZ)I  -/
def qC25 : zk_C := ((4, [], [0, 1, 2], [(0, (2, 4, 0)), (1, (0, 0, 11)), (2, (0, 0, 1)), (3, (0, 0, 40))], [], [(0, 7, 3)], [], [], [], none), [(5, [], [3], [(0, (2, 4, 0)), (1, (0, 0, 11)), (2, (0, 0, 1)), (3, (0, 0, 39)), (4, (0, 1, 40))], [(3, 4, (-1)), (4, 3, 1)], [(0, 7, 4)], [], [], [], none), (5, [], [4], [(0, (2, 4, 0)), (1, (0, 0, 11)), (2, (0, 0, 1)), (3, (0, 40, 40)), (4, (0, (-1), (-1)))], [], [(0, 7, 3)], [], [], [], none)], [(4, 7), (8, 0), (9, 0)], 0, 0)
set_option maxRecDepth 100000 in
def qP25 : zk_P := ([(35, 4, 7, 0), (19, 4, 2, 4), (22, 4, 3, 4)], [], [], [], [], [], [])
set_option maxRecDepth 100000 in
def qH25 : List zk_Hd := []
set_option maxRecDepth 100000 in
def qX25 : List zk_Hd := []
set_option maxRecDepth 100000 in
theorem qk25 : zk_chk qK qP25 prog_6_method_5_code 3 qC25 (some .int) qH25 qX25 84 0 = true := zk_chkD_ok (T := qdt_6_5) qdo_6_5 (by decide +kernel)
set_option maxRecDepth 100000 in
/-- UnaskedLetters.name(IZ)I  -/
def qC26 : zk_C := ((6, [], [0, 1, 2], [(0, (2, 2, 0)), (1, (0, (-2147483648), 2147483647)), (2, (0, 0, 1)), (3, (2, 4, 0)), (4, (0, 0, 12)), (5, (0, 0, 40))], [], [(0, 0, 3), (3, 6, 4), (3, 7, 5)], [], [], [], none), [(7, [], [6], [(0, (2, 2, 0)), (1, (0, (-2147483648), (-1))), (2, (0, 0, 1)), (3, (2, 4, 0)), (4, (0, 0, 12)), (5, (0, 0, 40)), (6, (0, (-1), (-1)))], [], [(0, 0, 3), (3, 6, 4), (3, 7, 5)], [], [], [], none), (7, [], [6], [(0, (2, 2, 0)), (1, (0, 0, 2147483647)), (2, (0, 0, 1)), (3, (2, 4, 0)), (4, (0, 0, 12)), (5, (0, 0, 40)), (6, (0, (-1), (-1)))], [(4, 1, 0)], [(0, 0, 3), (3, 6, 4), (3, 7, 5)], [], [], [], none), (7, [], [5], [(0, (2, 2, 0)), (1, (0, 0, 11)), (2, (0, 0, 1)), (3, (2, 4, 0)), (4, (0, 1, 12)), (5, (0, 0, 39)), (6, (0, 1, 40))], [(1, 4, (-1)), (5, 6, (-1)), (6, 5, 1)], [(0, 0, 3), (3, 6, 4), (3, 7, 6)], [], [], [], none), (7, [], [6], [(0, (2, 2, 0)), (1, (0, 0, 11)), (2, (0, 0, 1)), (3, (2, 4, 0)), (4, (0, 1, 12)), (5, (0, 40, 40)), (6, (0, (-1), (-1)))], [(1, 4, (-1))], [(0, 0, 3), (3, 6, 4), (3, 7, 5)], [], [], [], none)], [(4, 7), (8, 0), (9, 0)], 0, 0)
set_option maxRecDepth 100000 in
def qP26 : zk_P := ([(10, 11, 0, 4)], [], [], [], [], [(5, qC16), (17, qC25)], [])
set_option maxRecDepth 100000 in
def qH26 : List zk_Hd := []
set_option maxRecDepth 100000 in
def qX26 : List zk_Hd := []
set_option maxRecDepth 100000 in
theorem qk26 : zk_chk qK qP26 prog_1_method_5_code 3 qC26 (some .int) qH26 qX26 72 0 = true := zk_chkD_ok (T := qdt_1_5) qdo_1_5 (by decide +kernel)
set_option maxRecDepth 100000 in
/-- UnaskedLettersModel.name(IZ)I  -/
def qC27 : zk_C := ((5, [], [0, 1, 2], [(0, (2, 57, 0)), (1, (0, (-2147483648), 2147483647)), (2, (0, 0, 1)), (3, (0, 0, 12)), (4, (0, 0, 40))], [], [(0, 6, 3), (0, 7, 4)], [], [], [], none), [(6, [], [5], [(0, (2, 57, 0)), (1, (0, (-2147483648), (-1))), (2, (0, 0, 1)), (3, (0, 0, 12)), (4, (0, 0, 40)), (5, (0, (-1), (-1)))], [], [(0, 6, 3), (0, 7, 4)], [], [], [], none), (6, [], [5], [(0, (2, 57, 0)), (1, (0, 0, 2147483647)), (2, (0, 0, 1)), (3, (0, 0, 12)), (4, (0, 0, 40)), (5, (0, (-1), (-1)))], [(3, 1, 0)], [(0, 6, 3), (0, 7, 4)], [], [], [], none), (7, [], [5], [(0, (2, 57, 0)), (1, (0, 0, 11)), (2, (0, 0, 1)), (3, (0, 1, 12)), (4, (0, 0, 39)), (5, (0, 0, 39)), (6, (0, 1, 40))], [(1, 3, (-1)), (4, 5, 0), (4, 6, (-1)), (5, 4, 0), (5, 6, (-1)), (6, 4, 1), (6, 5, 1)], [(0, 6, 3), (0, 7, 6)], [], [], [], none), (6, [], [5], [(0, (2, 57, 0)), (1, (0, 0, 11)), (2, (0, 0, 1)), (3, (0, 1, 12)), (4, (0, 40, 40)), (5, (0, (-1), (-1)))], [(1, 3, (-1))], [(0, 6, 3), (0, 7, 4)], [], [], [], none)], [(57, 7), (61, 0), (62, 0)], 0, 0)
set_option maxRecDepth 100000 in
def qP27 : zk_P := ([(167, 12, 7, 0), (16, 12, 3, 4), (20, 12, 4, 4)], [], [], [], [], [(2, qC19)], [])
set_option maxRecDepth 100000 in
def qH27 : List zk_Hd := []
set_option maxRecDepth 100000 in
def qX27 : List zk_Hd := []
set_option maxRecDepth 100000 in
theorem qk27 : zk_chk qK qP27 prog_14_method_9_code 3 qC27 (some .int) qH27 qX27 91 0 = true := zk_chkD_ok (T := qdt_14_9) qdo_14_9 (by decide +kernel)
