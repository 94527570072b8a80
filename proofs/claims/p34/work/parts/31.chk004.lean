/-! CONTRACTS: found by wip/an (python). -/
set_option maxRecDepth 100000 in
/-- UnaskedLetters$LetterReader.faultOf(LUnaskedLetters$Tape;)I  -/
def qC37 : zk_C := ((2, [], [0, 1], [(0, (2, 15, 0)), (1, (2, 12, 0))], [], [], [], [], [], none), [(3, [], [2], [(0, (2, 15, 0)), (1, (2, 12, 0)), (2, (0, 0, 160))], [], [], [], [], [], none), (3, [], [2], [(0, (2, 15, 0)), (1, (2, 12, 0)), (2, (0, (-1), (-1)))], [], [], [], [], [], none)], [], 0, 0)
set_option maxRecDepth 100000 in
def qP37 : zk_P := ([(17, 8, 1, 0)], [], [], [], [], [(28, qC34), (39, qC35), (73, qC34), (212, qC36)], [])
set_option maxRecDepth 100000 in
def qH37 : List zk_Hd := [(16, (8, [(1, 1), (2, 2), (3, 3), (4, 4), (5, 5), (6, 6), (7, 7)], [], [(0, (2, 15, 0)), (1, (2, 12, 0)), (2, (0, 0, 6)), (3, (0, 0, 2)), (4, (0, 0, 1)), (5, (0, 0, 1)), (6, (0, 0, 1)), (7, (0, 0, 160))], [(2, 7, 0), (3, 5, 1), (3, 6, 1), (3, 7, 1), (5, 7, 0), (6, 7, 0)], [], [], [], [], none), [(1, none, none), (161, none, some 7), (1, none, none)], 0, 0)]
set_option maxRecDepth 100000 in
def qX37 : List zk_Hd := []
set_option maxRecDepth 100000 in
theorem qk37 : zk_chk qK qP37 prog_4_method_2_code 9 qC37 (some .int) qH37 qX37 105 3 = true := zk_chkD_ok (T := qdt_4_2) qdo_4_2 (by decide +kernel)
