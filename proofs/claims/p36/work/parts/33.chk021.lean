/-! CONTRACTS: found by wip/an (python). -/
set_option maxRecDepth 100000 in
/-- UnaskedLetters$RuleReader.readClause()Z  -/
def qC165 : zk_C := ((4, [], [0], [(0, (2, 18, 0)), (1, (2, 12, 0)), (2, (0, 0, 320)), (3, (0, 0, 160))], [], [(0, 1, 1), (0, 2, 2), (0, 3, 3)], [], [], [], none), [(7, [], [4], [(0, (2, 18, 0)), (1, (2, 12, 0)), (2, (0, 0, 320)), (3, (0, 0, 160)), (4, (0, 0, 0)), (5, (0, 0, 320)), (6, (0, 0, 160))], [], [(0, 1, 1), (0, 2, 5), (0, 3, 6)], [], [], [], none), (8, [], [4], [(0, (2, 18, 0)), (1, (2, 12, 0)), (2, (0, 0, 320)), (3, (0, 0, 158)), (4, (0, 1, 1)), (5, (0, 1, 320)), (6, (0, 2, 160)), (7, (0, 3, 160))], [], [(0, 1, 1), (0, 2, 5), (0, 3, 6), (1, 1, 7)], [], [], [], none)], [(18, 2), (18, 3), (20, 0)], 0, 0)
set_option maxRecDepth 100000 in
def qP165 : zk_P := ([(25, 6, 3, 0)], [], [], [], [(10, 2, (2, 121, 0))], [(1, qC38), (14, qC48), (38, qC49), (44, qC50), (53, qC38), (81, qC142), (94, qC38), (97, qC143), (106, qC164), (115, qC50), (127, qC49), (132, qC142), (144, qC49)], [])
set_option maxRecDepth 100000 in
def qH165 : List zk_Hd := []
set_option maxRecDepth 100000 in
def qX165 : List zk_Hd := []
set_option maxRecDepth 100000 in
theorem qk165 : zk_chk qK qP165 prog_8_method_7_code 4 qC165 (some .boolean) qH165 qX165 131 0 = true := zk_chkD_ok (T := qdt_8_7) qdo_8_7 (by decide +kernel)
