/-! CONTRACTS: found by wip/an (python). -/
set_option maxRecDepth 100000 in
/-- UnaskedLetters$RuleReader.readAtom(I)Z #1 -/
def qC127 : zk_C := ((6, [], [0, 1], [(0, (2, 18, 0)), (1, (0, 1, 1)), (2, (2, 12, 0)), (3, (0, 0, 320)), (4, (0, 3, 160)), (5, (0, 3, 160))], [], [(0, 1, 2), (0, 2, 3), (0, 3, 4), (2, 1, 5)], [], [], [], none), [(8, [], [6], [(0, (2, 18, 0)), (1, (0, 1, 1)), (2, (2, 12, 0)), (3, (0, 0, 320)), (4, (0, 3, 160)), (5, (0, 3, 160)), (6, (0, 0, 0)), (7, (0, 3, 160))], [(4, 7, 0)], [(0, 1, 2), (0, 2, 3), (0, 3, 7), (2, 1, 5)], [], [], [], none), (9, [], [6], [(0, (2, 18, 0)), (1, (0, 1, 1)), (2, (2, 12, 0)), (3, (0, 320, 320)), (4, (0, 3, 159)), (5, (0, 4, 160)), (6, (0, 1, 1)), (7, (0, 4, 160)), (8, (0, 4, 160))], [(4, 5, (-1)), (4, 7, (-1)), (4, 8, (-1)), (5, 8, 0), (7, 5, 0), (7, 8, 0), (8, 5, 0)], [(0, 1, 2), (0, 2, 3), (0, 3, 7), (2, 1, 8)], [], [], [], none), (10, [], [6], [(0, (2, 18, 0)), (1, (0, 1, 1)), (2, (2, 12, 0)), (3, (0, 0, 319)), (4, (0, 3, 159)), (5, (0, 4, 160)), (6, (0, 1, 1)), (7, (0, 1, 320)), (8, (0, 4, 160)), (9, (0, 4, 160))], [(3, 7, (-1)), (4, 5, (-1)), (4, 8, (-1)), (4, 9, (-1)), (5, 9, 0), (7, 3, 1), (8, 5, 0), (8, 9, 0), (9, 5, 0)], [(0, 1, 2), (0, 2, 7), (0, 3, 8), (2, 1, 9)], [], [], [], none), (10, [], [6], [(0, (2, 18, 0)), (1, (0, 1, 1)), (2, (2, 12, 0)), (3, (0, 0, 320)), (4, (0, 3, 158)), (5, (0, 5, 160)), (6, (0, 0, 0)), (7, (0, 1, 320)), (8, (0, 4, 160)), (9, (0, 5, 160))], [(3, 7, 0), (4, 5, (-2)), (4, 8, (-1)), (4, 9, (-2)), (5, 9, 0), (9, 5, 0)], [(0, 1, 2), (0, 2, 7), (0, 3, 8), (2, 1, 9)], [], [], [], none), (10, [], [6], [(0, (2, 18, 0)), (1, (0, 1, 1)), (2, (2, 12, 0)), (3, (0, 0, 320)), (4, (0, 3, 158)), (5, (0, 5, 160)), (6, (0, 1, 1)), (7, (0, 1, 320)), (8, (0, 5, 160)), (9, (0, 5, 160))], [(3, 7, 0), (4, 5, (-2)), (4, 8, (-2)), (4, 9, (-2)), (5, 9, 0), (8, 5, 0), (8, 9, 0), (9, 5, 0)], [(0, 1, 2), (0, 2, 7), (0, 3, 8), (2, 1, 9)], [], [], [], none), (9, [], [6], [(0, (2, 18, 0)), (1, (0, 1, 1)), (2, (2, 12, 0)), (3, (0, 320, 320)), (4, (0, 3, 159)), (5, (0, 4, 160)), (6, (0, 1, 1)), (7, (0, 3, 159)), (8, (0, 4, 160))], [(4, 5, (-1)), (4, 7, 0), (4, 8, (-1)), (5, 8, 0), (7, 5, (-1)), (7, 8, (-1)), (8, 5, 0)], [(0, 1, 2), (0, 2, 3), (0, 3, 7), (2, 1, 8)], [], [], [], none), (10, [], [6], [(0, (2, 18, 0)), (1, (0, 1, 1)), (2, (2, 12, 0)), (3, (0, 0, 319)), (4, (0, 3, 159)), (5, (0, 4, 160)), (6, (0, 1, 1)), (7, (0, 1, 320)), (8, (0, 3, 159)), (9, (0, 4, 160))], [(3, 7, (-1)), (4, 5, (-1)), (4, 8, 0), (4, 9, (-1)), (5, 9, 0), (7, 3, 1), (8, 5, (-1)), (8, 9, (-1)), (9, 5, 0)], [(0, 1, 2), (0, 2, 7), (0, 3, 8), (2, 1, 9)], [], [], [], none)], [(18, 2), (18, 3), (20, 0)], 0, 0)
set_option maxRecDepth 100000 in
def qP127 : zk_P := ([(25, 6, 3, 0)], [], [], [], [(80, 2, (2, 24, 0))], [(1, qC38), (18, qC51), (50, qC116), (59, qC50), (84, qC126), (110, qC49)], [])
set_option maxRecDepth 100000 in
def qH127 : List zk_Hd := []
set_option maxRecDepth 100000 in
def qX127 : List zk_Hd := []
set_option maxRecDepth 100000 in
theorem qk127 : zk_chk qK qP127 prog_8_method_14_code 4 qC127 (some .boolean) qH127 qX127 95 0 = true := zk_chkD_ok (T := qdt_8_14) qdo_8_14 (by decide +kernel)
set_option maxRecDepth 100000 in
/-- UnaskedLetters$RuleReader.readTerm(I)Z #1 -/
def qC128 : zk_C := ((6, [], [0, 1], [(0, (2, 18, 0)), (1, (0, 1, 1)), (2, (2, 12, 0)), (3, (0, 0, 320)), (4, (0, 3, 160)), (5, (0, 3, 160))], [], [(0, 1, 2), (0, 2, 3), (0, 3, 4), (2, 1, 5)], [], [], [], none), [(10, [], [6], [(0, (2, 18, 0)), (1, (0, 1, 1)), (2, (2, 12, 0)), (3, (0, 0, 320)), (4, (0, 3, 159)), (5, (0, 4, 160)), (6, (0, 1, 1)), (7, (0, 1, 320)), (8, (0, 3, 160)), (9, (0, 4, 160))], [(3, 7, 0), (4, 5, (-1)), (4, 8, 0), (4, 9, (-1)), (5, 9, 0), (9, 5, 0)], [(0, 1, 2), (0, 2, 7), (0, 3, 8), (2, 1, 9)], [], [], [], none), (10, [], [6], [(0, (2, 18, 0)), (1, (0, 1, 1)), (2, (2, 12, 0)), (3, (0, 0, 320)), (4, (0, 3, 159)), (5, (0, 4, 160)), (6, (0, 0, 0)), (7, (0, 1, 320)), (8, (0, 4, 160)), (9, (0, 4, 160))], [(3, 7, 0), (4, 5, (-1)), (4, 8, (-1)), (4, 9, (-1)), (5, 9, 0), (9, 5, 0)], [(0, 1, 2), (0, 2, 7), (0, 3, 8), (2, 1, 9)], [], [], [], none), (8, [], [6], [(0, (2, 18, 0)), (1, (0, 1, 1)), (2, (2, 12, 0)), (3, (0, 0, 320)), (4, (0, 3, 160)), (5, (0, 3, 160)), (6, (0, 0, 0)), (7, (0, 3, 160))], [(4, 7, 0)], [(0, 1, 2), (0, 2, 3), (0, 3, 7), (2, 1, 5)], [], [], [], none)], [(18, 2), (18, 3), (20, 0)], 0, 0)
set_option maxRecDepth 100000 in
def qP128 : zk_P := ([(25, 6, 3, 0)], [], [], [], [], [(2, qC127), (20, qC38), (50, qC127), (64, qC49)], [])
set_option maxRecDepth 100000 in
def qH128 : List zk_Hd := [(12, (10, [(0, 0), (1, 1), (2, 6)], [], [(0, (2, 18, 0)), (1, (0, 1, 1)), (2, (2, 12, 0)), (3, (0, 0, 320)), (4, (0, 3, 159)), (5, (0, 4, 160)), (6, (0, 0, 160)), (7, (0, 1, 320)), (8, (0, 3, 160)), (9, (0, 4, 160))], [(3, 7, 0), (4, 5, (-1)), (4, 8, 0), (4, 9, (-1)), (5, 9, 0), (8, 5, 0), (8, 9, 0), (9, 5, 0)], [(0, 1, 2), (0, 2, 7), (0, 3, 8), (2, 1, 9)], [], [], [], none), [(1, none, none), (161, none, some 8), (1, none, none)], 0, 0)]
set_option maxRecDepth 100000 in
def qX128 : List zk_Hd := []
set_option maxRecDepth 100000 in
theorem qk128 : zk_chk qK qP128 prog_8_method_13_code 4 qC128 (some .boolean) qH128 qX128 90 3 = true := zk_chkD_ok (T := qdt_8_13) qdo_8_13 (by decide +kernel)
set_option maxRecDepth 100000 in
/-- UnaskedLetters$RuleReader.readSum(I)Z #1 -/
def qC129 : zk_C := ((6, [], [0, 1], [(0, (2, 18, 0)), (1, (0, 1, 1)), (2, (2, 12, 0)), (3, (0, 0, 320)), (4, (0, 3, 160)), (5, (0, 3, 160))], [], [(0, 1, 2), (0, 2, 3), (0, 3, 4), (2, 1, 5)], [], [], [], none), [(10, [], [6], [(0, (2, 18, 0)), (1, (0, 1, 1)), (2, (2, 12, 0)), (3, (0, 0, 320)), (4, (0, 3, 159)), (5, (0, 4, 160)), (6, (0, 1, 1)), (7, (0, 1, 320)), (8, (0, 3, 160)), (9, (0, 4, 160))], [(3, 7, 0), (4, 5, (-1)), (4, 8, 0), (4, 9, (-1)), (5, 9, 0), (9, 5, 0)], [(0, 1, 2), (0, 2, 7), (0, 3, 8), (2, 1, 9)], [], [], [], none), (10, [], [6], [(0, (2, 18, 0)), (1, (0, 1, 1)), (2, (2, 12, 0)), (3, (0, 0, 320)), (4, (0, 3, 159)), (5, (0, 4, 160)), (6, (0, 0, 0)), (7, (0, 1, 320)), (8, (0, 4, 160)), (9, (0, 4, 160))], [(3, 7, 0), (4, 5, (-1)), (4, 8, (-1)), (4, 9, (-1)), (5, 9, 0), (9, 5, 0)], [(0, 1, 2), (0, 2, 7), (0, 3, 8), (2, 1, 9)], [], [], [], none), (8, [], [6], [(0, (2, 18, 0)), (1, (0, 1, 1)), (2, (2, 12, 0)), (3, (0, 0, 320)), (4, (0, 3, 160)), (5, (0, 3, 160)), (6, (0, 0, 0)), (7, (0, 3, 160))], [(4, 7, 0)], [(0, 1, 2), (0, 2, 3), (0, 3, 7), (2, 1, 5)], [], [], [], none)], [(18, 2), (18, 3), (20, 0)], 0, 0)
set_option maxRecDepth 100000 in
def qP129 : zk_P := ([(25, 6, 3, 0)], [], [], [], [], [(2, qC128), (20, qC38), (50, qC128), (64, qC49)], [])
set_option maxRecDepth 100000 in
def qH129 : List zk_Hd := [(12, (10, [(0, 0), (1, 1), (2, 6)], [], [(0, (2, 18, 0)), (1, (0, 1, 1)), (2, (2, 12, 0)), (3, (0, 0, 320)), (4, (0, 3, 159)), (5, (0, 4, 160)), (6, (0, 0, 160)), (7, (0, 1, 320)), (8, (0, 3, 160)), (9, (0, 4, 160))], [(3, 7, 0), (4, 5, (-1)), (4, 8, 0), (4, 9, (-1)), (5, 9, 0), (9, 5, 0)], [(0, 1, 2), (0, 2, 7), (0, 3, 8), (2, 1, 9)], [], [], [], none), [(1, none, none), (161, none, some 8), (1, none, none)], 0, 0)]
set_option maxRecDepth 100000 in
def qX129 : List zk_Hd := []
set_option maxRecDepth 100000 in
theorem qk129 : zk_chk qK qP129 prog_8_method_12_code 4 qC129 (some .boolean) qH129 qX129 90 3 = true := zk_chkD_ok (T := qdt_8_12) qdo_8_12 (by decide +kernel)
set_option maxRecDepth 100000 in
/-- java/lang/String.isLatin1()Z java/lang/String.indexOf(II)I@1java/lang/String.indexOf(I)I@3UnaskedLetters$RuleReader.readAtom(I)Z@84#0 -/
def qC130 : zk_C := ((1, [], [0], [(0, (2, 24, 0))], [], [], [], [], [], none), [(2, [], [1], [(0, (2, 24, 0)), (1, (0, 1, 1))], [], [], [], [], [], none)], [], 0, 0)
set_option maxRecDepth 100000 in
def qP130 : zk_P := ([(15, 13, 1, 4)], [], [], [], [(0, 3, (0, 1, 1))], [], [])
set_option maxRecDepth 100000 in
def qH130 : List zk_Hd := []
set_option maxRecDepth 100000 in
def qX130 : List zk_Hd := []
set_option maxRecDepth 100000 in
theorem qk130 : zk_chk qK qP130 prog_19_method_154_code 1 qC130 (some .boolean) qH130 qX130 68 0 = true := zk_chkD_ok (T := qdt_19_154) qdo_19_154 (by decide +kernel)
set_option maxRecDepth 100000 in
/-- java/lang/String.coder()B java/lang/String.length()I@6java/lang/String.indexOf(II)I@14java/lang/String.indexOf(I)I@3UnaskedLetters$RuleReader.readAtom(I)Z@84#0 -/
def qC131 : zk_C := ((1, [], [0], [(0, (2, 24, 0))], [], [], [], [], [], none), [(2, [], [1], [(0, (2, 24, 0)), (1, (0, 0, 0))], [], [], [], [], [], none)], [], 0, 0)
set_option maxRecDepth 100000 in
def qP131 : zk_P := ([(15, 13, 1, 4)], [], [], [], [(0, 3, (0, 1, 1))], [], [])
set_option maxRecDepth 100000 in
def qH131 : List zk_Hd := []
set_option maxRecDepth 100000 in
def qX131 : List zk_Hd := []
set_option maxRecDepth 100000 in
theorem qk131 : zk_chk qK qP131 prog_19_method_152_code 1 qC131 (some .byte) qH131 qX131 66 0 = true := zk_chkD_ok (T := qdt_19_152) qdo_19_152 (by decide +kernel)
set_option maxRecDepth 100000 in
/-- java/lang/String.length()I java/lang/String.indexOf(II)I@14java/lang/String.indexOf(I)I@3UnaskedLetters$RuleReader.readAtom(I)Z@84#0 -/
def qC132 : zk_C := ((1, [], [0], [(0, (2, 24, 0))], [], [], [], [], [], none), [(2, [], [1], [(0, (2, 24, 0)), (1, (0, 12, 12))], [], [], [], [], [], none)], [], 0, 0)
set_option maxRecDepth 100000 in
def qP132 : zk_P := ([(9, 13, 0, 4)], [], [], [], [], [(6, qC131)], [])
set_option maxRecDepth 100000 in
def qH132 : List zk_Hd := []
set_option maxRecDepth 100000 in
def qX132 : List zk_Hd := []
set_option maxRecDepth 100000 in
theorem qk132 : zk_chk qK qP132 prog_19_method_54_code 1 qC132 (some .int) qH132 qX132 67 0 = true := zk_chkD_ok (T := qdt_19_54) qdo_19_54 (by decide +kernel)
set_option maxRecDepth 100000 in
/-- java/lang/StringLatin1.canEncode(I)Z java/lang/StringLatin1.indexOf([BIII)I@1java/lang/String.indexOf(II)I@17java/lang/String.indexOf(I)I@3UnaskedLetters$RuleReader.readAtom(I)Z@84#0 -/
def qC133 : zk_C := ((1, [], [0], [(0, (0, 0, 255))], [], [], [], [], [], none), [(2, [], [1], [(0, (0, 0, 255)), (1, (0, 1, 1))], [], [], [], [], [], none)], [], 0, 0)
set_option maxRecDepth 100000 in
def qP133 : zk_P := ([], [], [], [], [], [], [])
set_option maxRecDepth 100000 in
def qH133 : List zk_Hd := []
set_option maxRecDepth 100000 in
def qX133 : List zk_Hd := []
set_option maxRecDepth 100000 in
theorem qk133 : zk_chk qK qP133 prog_20_method_4_code 1 qC133 (some .boolean) qH133 qX133 68 0 = true := zk_chkD_ok (T := qdt_20_4) qdo_20_4 (by decide +kernel)
set_option maxRecDepth 100000 in
/-- java/lang/Math.max(II)I java/lang/StringLatin1.indexOf([BIII)I@11java/lang/String.indexOf(II)I@17java/lang/String.indexOf(I)I@3UnaskedLetters$RuleReader.readAtom(I)Z@84#0 -/
def qC134 : zk_C := ((2, [], [0, 1], [(0, (0, 0, 0)), (1, (0, 0, 0))], [], [], [], [], [], none), [(2, [], [0], [(0, (0, 0, 0)), (1, (0, 0, 0))], [], [], [], [], [], none)], [], 0, 0)
set_option maxRecDepth 100000 in
def qP134 : zk_P := ([], [], [], [], [], [], [])
set_option maxRecDepth 100000 in
def qH134 : List zk_Hd := []
set_option maxRecDepth 100000 in
def qX134 : List zk_Hd := []
set_option maxRecDepth 100000 in
theorem qk134 : zk_chk qK qP134 prog_18_method_65_code 2 qC134 (some .int) qH134 qX134 66 0 = true := zk_chkD_ok (T := qdt_18_65) qdo_18_65 (by decide +kernel)
set_option maxRecDepth 100000 in
/-- java/lang/Math.min(II)I java/lang/StringLatin1.indexOf([BIII)I@18java/lang/String.indexOf(II)I@17java/lang/String.indexOf(I)I@3UnaskedLetters$RuleReader.readAtom(I)Z@84#0 -/
def qC135 : zk_C := ((2, [], [0, 1], [(0, (0, 12, 12)), (1, (0, 12, 12))], [], [], [], [], [], none), [(2, [], [0], [(0, (0, 12, 12)), (1, (0, 12, 12))], [], [], [], [], [], none)], [], 0, 0)
set_option maxRecDepth 100000 in
def qP135 : zk_P := ([], [], [], [], [], [], [])
set_option maxRecDepth 100000 in
def qH135 : List zk_Hd := []
set_option maxRecDepth 100000 in
def qX135 : List zk_Hd := []
set_option maxRecDepth 100000 in
theorem qk135 : zk_chk qK qP135 prog_18_method_69_code 2 qC135 (some .int) qH135 qX135 66 0 = true := zk_chkD_ok (T := qdt_18_69) qdo_18_69 (by decide +kernel)
set_option maxRecDepth 100000 in
/-- java/lang/StringLatin1.indexOfChar([BIII)I java/lang/StringLatin1.indexOf([BIII)I@33java/lang/String.indexOf(II)I@17java/lang/String.indexOf(I)I@3UnaskedLetters$RuleReader.readAtom(I)Z@84#0 -/
def qC136 : zk_C := ((4, [], [0, 1, 2, 3], [(0, (2, 23, 0)), (1, (0, 0, 255)), (2, (0, 0, 0)), (3, (0, 12, 12))], [], [], [], [], [], none), [(5, [], [4], [(0, (2, 23, 0)), (1, (0, 0, 255)), (2, (0, 0, 0)), (3, (0, 12, 12)), (4, (0, (-1), (-1)))], [], [], [], [], [], none), (5, [], [4], [(0, (2, 23, 0)), (1, (0, 0, 255)), (2, (0, 0, 0)), (3, (0, 12, 12)), (4, (0, 0, 11))], [], [], [], [], [], none)], [], 0, 0)
set_option maxRecDepth 100000 in
def qP136 : zk_P := ([], [], [], [], [], [], [])
set_option maxRecDepth 100000 in
def qH136 : List zk_Hd := [(7, (6, [(0, 0), (3, 3), (4, 4), (5, 5)], [], [(0, (2, 23, 0)), (1, (0, 0, 255)), (2, (0, 0, 0)), (3, (0, 12, 12)), (4, (0, (-128), 127)), (5, (0, 0, 12))], [], [], [], [], [], none), [(1, none, none), (13, none, some 5), (1, none, none)], 0, 0)]
set_option maxRecDepth 100000 in
def qX136 : List zk_Hd := []
set_option maxRecDepth 100000 in
theorem qk136 : zk_chk qK qP136 prog_20_method_23_code 6 qC136 (some .int) qH136 qX136 71 3 = true := zk_chkD_ok (T := qdt_20_23) qdo_20_23 (by decide +kernel)
set_option maxRecDepth 100000 in
/-- java/lang/StringLatin1.indexOf([BIII)I java/lang/String.indexOf(II)I@17java/lang/String.indexOf(I)I@3UnaskedLetters$RuleReader.readAtom(I)Z@84#0 -/
def qC137 : zk_C := ((4, [], [0, 1, 2, 3], [(0, (2, 23, 0)), (1, (0, 0, 255)), (2, (0, 0, 0)), (3, (0, 12, 12))], [], [], [], [], [], none), [(5, [], [4], [(0, (2, 23, 0)), (1, (0, 0, 255)), (2, (0, 0, 0)), (3, (0, 12, 12)), (4, (0, (-1), (-1)))], [], [], [], [], [], none), (5, [], [4], [(0, (2, 23, 0)), (1, (0, 0, 255)), (2, (0, 0, 0)), (3, (0, 12, 12)), (4, (0, 0, 11))], [], [], [], [], [], none)], [], 0, 0)
set_option maxRecDepth 100000 in
def qP137 : zk_P := ([], [], [], [], [], [(1, qC133), (11, qC134), (18, qC135), (33, qC136)], [])
set_option maxRecDepth 100000 in
def qH137 : List zk_Hd := []
set_option maxRecDepth 100000 in
def qX137 : List zk_Hd := []
set_option maxRecDepth 100000 in
theorem qk137 : zk_chk qK qP137 prog_20_method_22_code 4 qC137 (some .int) qH137 qX137 81 0 = true := zk_chkD_ok (T := qdt_20_22) qdo_20_22 (by decide +kernel)
set_option maxRecDepth 100000 in
/-- java/lang/String.indexOf(II)I java/lang/String.indexOf(I)I@3UnaskedLetters$RuleReader.readAtom(I)Z@84#0 -/
def qC138 : zk_C := ((3, [], [0, 1, 2], [(0, (2, 24, 0)), (1, (0, 0, 255)), (2, (0, 0, 0))], [], [], [], [], [], none), [(4, [], [3], [(0, (2, 24, 0)), (1, (0, 0, 255)), (2, (0, 0, 0)), (3, (0, (-1), (-1)))], [], [], [], [], [], none), (4, [], [3], [(0, (2, 24, 0)), (1, (0, 0, 255)), (2, (0, 0, 0)), (3, (0, 0, 11))], [], [], [], [], [], none)], [], 0, 0)
set_option maxRecDepth 100000 in
def qP138 : zk_P := ([(9, 13, 0, 4)], [], [], [], [], [(1, qC130), (14, qC132), (17, qC137)], [])
set_option maxRecDepth 100000 in
def qH138 : List zk_Hd := []
set_option maxRecDepth 100000 in
def qX138 : List zk_Hd := []
set_option maxRecDepth 100000 in
theorem qk138 : zk_chk qK qP138 prog_19_method_80_code 3 qC138 (some .int) qH138 qX138 72 0 = true := zk_chkD_ok (T := qdt_19_80) qdo_19_80 (by decide +kernel)
set_option maxRecDepth 100000 in
/-- java/lang/String.indexOf(I)I UnaskedLetters$RuleReader.readAtom(I)Z@84#0 -/
def qC139 : zk_C := ((2, [], [0, 1], [(0, (2, 24, 0)), (1, (0, 0, 255))], [], [], [], [], [], none), [(3, [], [2], [(0, (2, 24, 0)), (1, (0, 0, 255)), (2, (0, (-1), (-1)))], [], [], [], [], [], none), (3, [], [2], [(0, (2, 24, 0)), (1, (0, 0, 255)), (2, (0, 0, 11))], [], [], [], [], [], none)], [], 0, 0)
set_option maxRecDepth 100000 in
def qP139 : zk_P := ([], [], [], [], [], [(3, qC138)], [])
set_option maxRecDepth 100000 in
def qH139 : List zk_Hd := []
set_option maxRecDepth 100000 in
def qX139 : List zk_Hd := []
set_option maxRecDepth 100000 in
theorem qk139 : zk_chk qK qP139 prog_19_method_79_code 2 qC139 (some .int) qH139 qX139 65 0 = true := zk_chkD_ok (T := qdt_19_79) qdo_19_79 (by decide +kernel)
