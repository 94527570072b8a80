/-! CONTRACTS: found by wip/an (python). -/
set_option maxRecDepth 100000 in
/-- UnaskedLettersModel.path(III)I  -/
def qC548 : zk_C := ((5, [], [0, 1, 2, 3], [(0, (2, 57, 0)), (1, (0, (-2147483648), 2147483647)), (2, (0, (-2147483648), 2147483647)), (3, (0, (-2147483648), 2147483647)), (4, (0, 0, 12))], [], [(0, 6, 4)], [], [], [], none), [(6, [], [5], [(0, (2, 57, 0)), (1, (0, (-2147483648), 2147483647)), (2, (0, (-2147483648), 2147483647)), (3, (0, (-2147483648), 2147483647)), (4, (0, 0, 12)), (5, (0, (-1), 6))], [], [(0, 6, 4)], [], [], [], none)], [(99, 0), (100, 0), (101, 0)], 0, 0)
set_option maxRecDepth 100000 in
def qP548 : zk_P := ([(138, 12, 61, 4), (132, 12, 59, 4), (135, 12, 60, 4)], [], [], [], [], [(2, qC477), (10, qC19), (21, qC547)], [])
set_option maxRecDepth 100000 in
def qH548 : List zk_Hd := []
set_option maxRecDepth 100000 in
def qX548 : List zk_Hd := []
set_option maxRecDepth 100000 in
theorem qk548 : zk_chk qK qP548 prog_14_method_87_code 4 qC548 (some .int) qH548 qX548 116 0 = true := zk_chkD_ok (T := qdt_14_87) qdo_14_87 (by decide +kernel)
set_option maxRecDepth 100000 in
/-- UnaskedLetters.falsely(I)I  -/
def qC549 : zk_C := ((3, [], [0, 1], [(0, (2, 2, 0)), (1, (0, (-2147483648), 2147483647)), (2, (2, 4, 0))], [], [(0, 0, 2)], [], [], [], none), [(4, [], [3], [(0, (2, 2, 0)), (1, (0, (-2147483648), 2147483647)), (2, (2, 4, 0)), (3, (0, (-1), 6))], [], [(0, 0, 2)], [], [], [], none)], [], 0, 0)
set_option maxRecDepth 100000 in
def qP549 : zk_P := ([(307, 1, 16, 0), (10, 11, 0, 4), (310, 1, 14, 4), (313, 1, 15, 4), (316, 4, 2, 4), (250, 1, 1, 4)], [], [], [], [], [(2, qC474), (47, qC21)], [])
set_option maxRecDepth 100000 in
def qH549 : List zk_Hd := [(21, (7, [(0, 0), (2, 3), (3, 4)], [], [(0, (2, 2, 0)), (1, (0, 0, 119)), (2, (2, 4, 0)), (3, (2, 107, 0)), (4, (0, 1, 6)), (5, (0, 1, 6)), (6, (0, 1, 120))], [(1, 6, (-1)), (4, 5, 0)], [(3, 16, 5), (0, 0, 2), (0, 15, 6)], [], [], [], none), [(1, none, none), (7, none, some 4), (1, none, none)], 0, 0)]
set_option maxRecDepth 100000 in
def qX549 : List zk_Hd := []
set_option maxRecDepth 100000 in
theorem qk549 : zk_chk qK qP549 prog_1_method_29_code 4 qC549 (some .int) qH549 qX549 92 3 = true := zk_chkD_ok (T := qdt_1_29) qdo_1_29 (by decide +kernel)
