/-! CONTRACTS: found by wip/an (python). -/
set_option maxRecDepth 100000 in
/-- UnaskedLetters.inState(I)I  -/
def qC618 : zk_C := ((2, [], [0, 1], [(0, (2, 2, 0)), (1, (0, 1, 5))], [], [], [], [], [], none), [(3, [], [2], [(0, (2, 2, 0)), (1, (0, 1, 5)), (2, (0, 0, 120))], [], [], [], [], [], none)], [], 0, 0)
set_option maxRecDepth 100000 in
def qP618 : zk_P := ([(181, 11, 15, 0), (60, 11, 7, 4), (235, 1, 5, 0)], [], [], [], [], [], [])
set_option maxRecDepth 100000 in
def qH618 : List zk_Hd := [(4, (4, [(0, 0), (1, 1), (2, 2), (3, 3)], [], [(0, (2, 2, 0)), (1, (0, 1, 5)), (2, (0, 0, 120)), (3, (0, 0, 120))], [(2, 3, 0)], [], [], [], [], none), [(1, none, none), (121, none, some 2), (1, none, none), (121, none, some 3), (1, none, none)], 0, 0)]
set_option maxRecDepth 100000 in
def qX618 : List zk_Hd := []
set_option maxRecDepth 100000 in
theorem qk618 : zk_chk qK qP618 prog_1_method_44_code 4 qC618 (some .int) qH618 qX618 79 5 = true := zk_chkD_ok (T := qdt_1_44) qdo_1_44 (by decide +kernel)
set_option maxRecDepth 100000 in
/-- UnaskedLetters.count(I)I  -/
def qC619 : zk_C := ((2, [], [0, 1], [(0, (2, 2, 0)), (1, (0, (-2147483648), 2147483647))], [], [], [], [], [], none), [(3, [], [2], [(0, (2, 2, 0)), (1, (0, (-2147483648), 2147483647)), (2, (0, (-2147483648), 2147483647))], [], [], [], [], [], none)], [], 0, 0)
set_option maxRecDepth 100000 in
def qP619 : zk_P := ([(88, 11, 13, 0), (10, 11, 0, 4), (172, 4, 6, 0), (391, 4, 7, 0), (181, 11, 15, 0), (47, 11, 5, 4), (397, 5, 5, 0), (155, 11, 14, 0), (67, 11, 8, 4), (400, 3, 4, 0), (54, 11, 6, 4), (340, 10, 4, 0), (382, 11, 16, 0), (19, 11, 1, 4), (120, 8, 1, 0)], [], [], [], [], [(100, qC618), (106, qC618), (112, qC618), (118, qC618)], [])
set_option maxRecDepth 100000 in
def qH619 : List zk_Hd := []
set_option maxRecDepth 100000 in
def qX619 : List zk_Hd := []
set_option maxRecDepth 100000 in
theorem qk619 : zk_chk qK qP619 prog_1_method_38_code 2 qC619 (some .int) qH619 qX619 66 0 = true := zk_chkD_ok (T := qdt_1_38) qdo_1_38 (by decide +kernel)
set_option maxRecDepth 100000 in
/-- UnaskedLettersModel.inState(I)I  -/
def qC620 : zk_C := ((2, [], [0, 1], [(0, (2, 57, 0)), (1, (0, 1, 5))], [], [], [], [], [], none), [(3, [], [2], [(0, (2, 57, 0)), (1, (0, 1, 5)), (2, (0, 0, 120))], [], [], [], [], [], none)], [], 0, 0)
set_option maxRecDepth 100000 in
def qP620 : zk_P := ([(341, 12, 44, 0), (90, 12, 40, 4)], [], [], [], [], [], [])
set_option maxRecDepth 100000 in
def qH620 : List zk_Hd := [(4, (4, [(0, 0), (1, 1), (2, 2), (3, 3)], [], [(0, (2, 57, 0)), (1, (0, 1, 5)), (2, (0, 0, 120)), (3, (0, 0, 120))], [(2, 3, 0)], [], [], [], [], none), [(1, none, none), (121, none, some 2), (1, none, none), (121, none, some 3), (1, none, none)], 0, 0)]
set_option maxRecDepth 100000 in
def qX620 : List zk_Hd := []
set_option maxRecDepth 100000 in
theorem qk620 : zk_chk qK qP620 prog_14_method_101_code 4 qC620 (some .int) qH620 qX620 78 5 = true := zk_chkD_ok (T := qdt_14_101) qdo_14_101 (by decide +kernel)
set_option maxRecDepth 100000 in
/-- UnaskedLettersModel.count(I)I  -/
def qC621 : zk_C := ((2, [], [0, 1], [(0, (2, 57, 0)), (1, (0, (-2147483648), 2147483647))], [], [], [], [], [], none), [(3, [], [2], [(0, (2, 57, 0)), (1, (0, (-2147483648), 2147483647)), (2, (0, (-2147483648), 2147483647))], [], [], [], [], [], none)], [], 0, 0)
set_option maxRecDepth 100000 in
def qP621 : zk_P := ([(156, 12, 0, 0), (164, 12, 6, 0), (167, 12, 7, 0), (341, 12, 44, 0), (301, 12, 26, 0), (298, 12, 57, 0), (366, 12, 49, 0), (443, 12, 65, 0), (463, 12, 70, 0), (181, 12, 9, 0)], [], [], [], [], [(94, qC620), (100, qC620), (106, qC620), (112, qC620)], [])
set_option maxRecDepth 100000 in
def qH621 : List zk_Hd := []
set_option maxRecDepth 100000 in
def qX621 : List zk_Hd := []
set_option maxRecDepth 100000 in
theorem qk621 : zk_chk qK qP621 prog_14_method_102_code 2 qC621 (some .int) qH621 qX621 66 0 = true := zk_chkD_ok (T := qdt_14_102) qdo_14_102 (by decide +kernel)
