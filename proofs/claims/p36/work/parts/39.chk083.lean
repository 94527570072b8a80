/-! CONTRACTS: found by wip/an (python). -/
set_option maxRecDepth 100000 in
/-- UnaskedLettersModel.weigh([JII)I %77 -/
def qC517 : zk_C := ((4, [], [0, 1, 2, 3], [(0, (2, 57, 0)), (1, (2, 77, 0)), (2, (0, 0, 9758)), (3, (0, 0, 82))], [], [], [], [], [], none), [(6, [], [4], [(0, (2, 57, 0)), (1, (2, 77, 0)), (2, (0, 0, 9758)), (3, (0, 0, 82)), (4, (0, (-2147483648), 2147483647)), (5, (0, 0, 5))], [], [(0, 52, 5)], [], [], [], none)], [(57, 52), (93, 0), (94, 0)], 0, 0)
set_option maxRecDepth 100000 in
def qP517 : zk_P := ([(369, 12, 52, 0), (341, 12, 44, 0), (111, 12, 48, 4), (66, 12, 32, 4), (72, 12, 34, 4), (117, 12, 51, 4)], [], [], [], [(218, 3, (1, 1000, 1000))], [(109, qC512), (165, qC512), (246, qC516)], [])
set_option maxRecDepth 100000 in
def qH517 : List zk_Hd := [(14, (8, [(0, 0), (1, 1), (2, 2), (3, 3), (4, 4), (6, 5), (8, 6)], [], [(0, (2, 57, 0)), (1, (2, 77, 0)), (2, (0, 0, 9758)), (3, (0, 0, 82)), (4, (1, 0, 120)), (5, (1, 0, 120)), (6, (0, 0, 120)), (7, (0, 0, 0))], [(4, 6, 0), (5, 6, 0)], [(0, 52, 7)], [], [], [], none), [(3, none, none), (121, none, some 5), (1, none, none), (121, none, some 6), (1, none, none)], 0, 0), (261, (8, [(0, 0), (8, 4), (9, 5)], [], [(0, (2, 57, 0)), (1, (2, 77, 0)), (2, (0, 0, 9758)), (3, (0, 0, 82)), (4, (0, (-2147483648), 2147483647)), (5, (0, 0, 5)), (6, (0, 0, 120)), (7, (0, 0, 5))], [(5, 7, 0)], [(0, 44, 6), (0, 52, 7)], [], [], [], none), [(1, none, none), (6, none, some 5), (1, none, none)], 0, 0), (89, (9, [(0, 0), (1, 1), (2, 2), (3, 3), (4, 4), (6, 5), (8, 6)], [], [(0, (2, 57, 0)), (1, (2, 77, 0)), (2, (0, 0, 9758)), (3, (0, 0, 82)), (4, (1, 1, 1000)), (5, (1, 1, 1000)), (6, (0, 0, 82)), (7, (0, 0, 120)), (8, (0, 0, 5))], [(6, 3, 0)], [(0, 44, 7), (0, 52, 8)], [], [], [], none), [(2, none, none), (6, none, some 8), (1, none, none), (83, none, some 6), (2, none, none)], 0, 0), (127, (13, [(0, 0), (1, 1), (2, 2), (3, 3), (4, 4), (6, 5), (8, 6), (9, 7), (11, 8), (13, 9), (15, 10)], [], [(0, (2, 57, 0)), (1, (2, 77, 0)), (2, (0, 0, 9758)), (3, (0, 1, 82)), (4, (1, 1, 1000)), (5, (1, 1, 1000)), (6, (0, 0, 81)), (7, (1, (-9223372036854775808), 9223372036854775807)), (8, (1, 0, 120)), (9, (1, 0, 120)), (10, (0, 0, 120)), (11, (0, 0, 120)), (12, (0, 0, 5))], [(6, 3, (-1)), (8, 10, 0), (8, 11, 0), (9, 10, 0), (9, 11, 0), (10, 11, 0)], [(0, 44, 11), (0, 52, 12)], [], [], [], none), [(2, none, none), (6, none, some 12), (1, none, none), (83, none, some 6), (1, none, none), (121, none, some 10), (1, none, none)], 0, 0)]
set_option maxRecDepth 100000 in
def qX517 : List zk_Hd := []
set_option maxRecDepth 100000 in
theorem qk517 : zk_chk qK qP517 prog_14_method_65_code 16 qC517 (some .int) qH517 qX517 103 7 = true := zk_chkD_ok (T := qdt_14_65) qdo_14_65 (by decide +kernel)
set_option maxRecDepth 100000 in
/-- UnaskedLettersModel.weightOf(I)I  -/
def qC518 : zk_C := ((2, [], [0, 1], [(0, (2, 57, 0)), (1, (0, 0, 119))], [], [], [], [], [], none), [(4, [], [2], [(0, (2, 57, 0)), (1, (0, 0, 119)), (2, (0, (-2147483648), 2147483647)), (3, (0, 0, 5))], [], [(0, 52, 3)], [], [], [], none)], [(57, 52), (93, 0), (94, 0)], 0, 0)
set_option maxRecDepth 100000 in
def qP518 : zk_P := ([(66, 12, 32, 4), (72, 12, 34, 4)], [], [], [], [], [(15, qC517)], [])
set_option maxRecDepth 100000 in
def qH518 : List zk_Hd := []
set_option maxRecDepth 100000 in
def qX518 : List zk_Hd := []
set_option maxRecDepth 100000 in
theorem qk518 : zk_chk qK qP518 prog_14_method_67_code 2 qC518 (some .int) qH518 qX518 72 0 = true := zk_chkD_ok (T := qdt_14_67) qdo_14_67 (by decide +kernel)
set_option maxRecDepth 100000 in
/-- UnaskedLettersModel.wroteAhead(III)Z  -/
def qC519 : zk_C := ((4, [], [0, 1, 2, 3], [(0, (2, 57, 0)), (1, (0, 0, 39)), (2, (0, 0, 39)), (3, (0, 0, 119))], [], [], [], [], [], none), [(5, [], [4], [(0, (2, 57, 0)), (1, (0, 0, 39)), (2, (0, 0, 39)), (3, (0, 0, 119)), (4, (0, 0, 0))], [], [], [], [], [], none), (5, [], [4], [(0, (2, 57, 0)), (1, (0, 0, 39)), (2, (0, 0, 39)), (3, (0, 1, 119)), (4, (0, 1, 1))], [], [], [], [], [], none)], [], 0, 0)
set_option maxRecDepth 100000 in
def qP519 : zk_P := ([(75, 12, 35, 4), (78, 12, 36, 4)], [], [], [], [], [], [])
set_option maxRecDepth 100000 in
def qH519 : List zk_Hd := [(3, (5, [(0, 0), (1, 1), (2, 2), (3, 3), (4, 4)], [], [(0, (2, 57, 0)), (1, (0, 0, 39)), (2, (0, 0, 39)), (3, (0, 0, 119)), (4, (0, 0, 119))], [(4, 3, 0)], [], [], [], [], none), [(1, none, none), (120, none, some 4), (1, none, none)], 0, 0)]
set_option maxRecDepth 100000 in
def qX519 : List zk_Hd := []
set_option maxRecDepth 100000 in
theorem qk519 : zk_chk qK qP519 prog_14_method_84_code 5 qC519 (some .boolean) qH519 qX519 78 3 = true := zk_chkD_ok (T := qdt_14_84) qdo_14_84 (by decide +kernel)
set_option maxRecDepth 100000 in
/-- java/lang/Math.min(II)I UnaskedLettersModel.arrive(I)V@351 -/
def qC520 : zk_C := ((2, [], [0, 1], [(0, (0, 500, 500)), (1, (0, 1, 2147483647))], [], [], [], [], [], none), [(2, [], [1], [(0, (0, 500, 500)), (1, (0, 1, 499))], [], [], [], [], [], none), (2, [], [0], [(0, (0, 500, 500)), (1, (0, 500, 2147483647))], [], [], [], [], [], none)], [], 0, 0)
set_option maxRecDepth 100000 in
def qP520 : zk_P := ([], [], [], [], [], [], [])
set_option maxRecDepth 100000 in
def qH520 : List zk_Hd := []
set_option maxRecDepth 100000 in
def qX520 : List zk_Hd := []
set_option maxRecDepth 100000 in
theorem qk520 : zk_chk qK qP520 prog_18_method_69_code 2 qC520 (some .int) qH520 qX520 66 0 = true := zk_chkD_ok (T := qdt_18_69) qdo_18_69 (by decide +kernel)
