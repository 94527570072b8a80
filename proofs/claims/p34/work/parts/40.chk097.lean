/-! CONTRACTS: found by wip/an (python). -/
set_option maxRecDepth 100000 in
/-- UnaskedLettersModel.falsely(I)I  -/
def qC550 : zk_C := ((2, [], [0, 1], [(0, (2, 57, 0)), (1, (0, (-2147483648), 2147483647))], [], [], [], [], [], none), [(3, [], [2], [(0, (2, 57, 0)), (1, (0, (-2147483648), 2147483647)), (2, (0, (-1), 6))], [], [], [], [], [], none)], [], 0, 0)
set_option maxRecDepth 100000 in
def qP550 : zk_P := ([(138, 12, 61, 4), (13, 12, 2, 4), (132, 12, 59, 4), (135, 12, 60, 4), (16, 12, 3, 4), (78, 12, 36, 4)], [], [], [], [], [(2, qC477)], [])
set_option maxRecDepth 100000 in
def qH550 : List zk_Hd := []
set_option maxRecDepth 100000 in
def qX550 : List zk_Hd := []
set_option maxRecDepth 100000 in
theorem qk550 : zk_chk qK qP550 prog_14_method_88_code 4 qC550 (some .int) qH550 qX550 313 0 = true := zk_chkD_ok (T := qdt_14_88) qdo_14_88 (by decide +kernel)
set_option maxRecDepth 100000 in
/-- UnaskedLetters.give(II)Z  -/
def qC551 : zk_C := ((3, [], [0, 1, 2], [(0, (2, 2, 0)), (1, (0, (-2147483648), 2147483647)), (2, (0, (-2147483648), 2147483647))], [], [], [], [], [], none), [(5, [], [3], [(0, (2, 2, 0)), (1, (0, (-2147483648), 2147483647)), (2, (0, (-2147483648), 2147483647)), (3, (0, 0, 1)), (4, (2, 4, 0))], [], [(0, 0, 4)], [], [], [], none)], [(10, 0)], 0, 0)
set_option maxRecDepth 100000 in
def qP551 : zk_P := ([(10, 11, 0, 4), (319, 4, 4, 4)], [], [], [], [], [(5, qC437)], [])
set_option maxRecDepth 100000 in
def qH551 : List zk_Hd := []
set_option maxRecDepth 100000 in
def qX551 : List zk_Hd := []
set_option maxRecDepth 100000 in
theorem qk551 : zk_chk qK qP551 prog_1_method_30_code 3 qC551 (some .boolean) qH551 qX551 81 0 = true := zk_chkD_ok (T := qdt_1_30) qdo_1_30 (by decide +kernel)
set_option maxRecDepth 100000 in
/-- UnaskedLettersModel.in(III)Z UnaskedLettersModel.give(II)Z@13 -/
def qC552 : zk_C := ((3, [], [0, 1, 2], [(0, (0, (-2147483648), 2147483647)), (1, (0, 0, 0)), (2, (0, 255, 255))], [], [], [], [], [], none), [(4, [], [3], [(0, (0, (-2147483648), (-1))), (1, (0, 0, 0)), (2, (0, 255, 255)), (3, (0, 0, 0))], [], [], [], [], [], none), (4, [], [3], [(0, (0, 256, 2147483647)), (1, (0, 0, 0)), (2, (0, 255, 255)), (3, (0, 0, 0))], [], [], [], [], [], none), (4, [], [3], [(0, (0, 0, 255)), (1, (0, 0, 0)), (2, (0, 255, 255)), (3, (0, 1, 1))], [], [], [], [], [], none)], [], 0, 0)
set_option maxRecDepth 100000 in
def qP552 : zk_P := ([], [], [], [], [], [], [])
set_option maxRecDepth 100000 in
def qH552 : List zk_Hd := []
set_option maxRecDepth 100000 in
def qX552 : List zk_Hd := []
set_option maxRecDepth 100000 in
theorem qk552 : zk_chk qK qP552 prog_14_method_1_code 3 qC552 (some .boolean) qH552 qX552 69 0 = true := zk_chkD_ok (T := qdt_14_1) qdo_14_1 (by decide +kernel)
