/-! CONTRACTS: found by wip/an (python). -/
set_option maxRecDepth 100000 in
/-- java/lang/Integer.bitCount(I)I UnaskedLettersModel.plan(II)I@101 -/
def qC616 : zk_C := ((1, [], [0], [(0, (0, 1, 255))], [], [], [], [], [], none), [(2, [], [1], [(0, (0, 1, 255)), (1, (0, 0, 63))], [], [], [], [], [], none)], [], 0, 0)
set_option maxRecDepth 100000 in
def qP616 : zk_P := ([], [], [], [], [(4, 3, (0, 1431655765, 1431655765)), (11, 3, (0, 858993459, 858993459)), (18, 3, (0, 858993459, 858993459)), (29, 3, (0, 252645135, 252645135))], [], [])
set_option maxRecDepth 100000 in
def qH616 : List zk_Hd := []
set_option maxRecDepth 100000 in
def qX616 : List zk_Hd := []
set_option maxRecDepth 100000 in
theorem qk616 : zk_chk qK qP616 prog_17_method_49_code 1 qC616 (some .int) qH616 qX616 102 0 = true := zk_chkD_ok (T := qdt_17_49) qdo_17_49 (by decide +kernel)
set_option maxRecDepth 100000 in
/-- UnaskedLettersModel.plan(II)I  -/
def qC617 : zk_C := ((3, [], [0, 1, 2], [(0, (2, 57, 0)), (1, (0, (-2147483648), 2147483647)), (2, (0, (-2147483648), 2147483647))], [], [], [], [], [], none), [(4, [], [3], [(0, (2, 57, 0)), (1, (0, (-2147483648), 2147483647)), (2, (0, (-2147483648), 2147483647)), (3, (0, (-1), 255))], [], [], [], [], [], none)], [(92, 0)], 0, 0)
set_option maxRecDepth 100000 in
def qP617 : zk_P := ([(156, 12, 0, 0), (463, 12, 70, 0)], [], [], [], [], [(4, qC612), (13, qC613), (26, qC424), (52, qC614), (66, qC614), (96, qC615), (101, qC616)], [])
set_option maxRecDepth 100000 in
def qH617 : List zk_Hd := [(37, (7, [(0, 0), (1, 1), (2, 2), (3, 3), (4, 4), (5, 5)], [], [(0, (2, 57, 0)), (1, (0, 0, 30)), (2, (0, 0, 1)), (3, (0, (-1), 255)), (4, (0, (-1), 30)), (5, (0, 0, 256)), (6, (0, (-2147483648), 2147483647))], [(3, 5, (-1))], [(0, 0, 6)], [], [], [], none), [(1, none, none), (256, none, some 3), (1, none, none), (257, none, some 5), (1, none, none)], 0, 0)]
set_option maxRecDepth 100000 in
def qX617 : List zk_Hd := []
set_option maxRecDepth 100000 in
theorem qk617 : zk_chk qK qP617 prog_14_method_100_code 9 qC617 (some .int) qH617 qX617 117 5 = true := zk_chkD_ok (T := qdt_14_100) qdo_14_100 (by decide +kernel)
