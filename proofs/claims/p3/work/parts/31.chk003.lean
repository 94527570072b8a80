/-! CONTRACTS: found by wip/an (python). -/
noncomputable section
set_option maxRecDepth 100000 in
/-- UnaskedLetters$RuleReader.readTerm(I)Z #2 -/
def qC113 : zk_C := ((6, [], [0, 1], [(0, (2, 18, 0)), (1, (0, 2, 2)), (2, (2, 12, 0)), (3, (0, 0, 320)), (4, (0, 4, 160)), (5, (0, 4, 160))], [], [(0, 1, 2), (0, 2, 3), (0, 3, 4), (2, 1, 5)], [], [], [], none), [(10, [], [6], [(0, (2, 18, 0)), (1, (0, 2, 2)), (2, (2, 12, 0)), (3, (0, 0, 320)), (4, (0, 4, 159)), (5, (0, 5, 160)), (6, (0, 1, 1)), (7, (0, 1, 320)), (8, (0, 4, 160)), (9, (0, 5, 160))], [(3, 7, 0), (4, 5, (-1)), (4, 8, 0), (4, 9, (-1)), (5, 9, 0), (9, 5, 0)], [(0, 1, 2), (0, 2, 7), (0, 3, 8), (2, 1, 9)], [], [], [], none), (10, [], [6], [(0, (2, 18, 0)), (1, (0, 2, 2)), (2, (2, 12, 0)), (3, (0, 0, 320)), (4, (0, 4, 159)), (5, (0, 5, 160)), (6, (0, 0, 0)), (7, (0, 1, 320)), (8, (0, 5, 160)), (9, (0, 5, 160))], [(3, 7, 0), (4, 5, (-1)), (4, 8, (-1)), (4, 9, (-1)), (5, 9, 0), (9, 5, 0)], [(0, 1, 2), (0, 2, 7), (0, 3, 8), (2, 1, 9)], [], [], [], none), (8, [], [6], [(0, (2, 18, 0)), (1, (0, 2, 2)), (2, (2, 12, 0)), (3, (0, 0, 320)), (4, (0, 4, 160)), (5, (0, 4, 160)), (6, (0, 0, 0)), (7, (0, 4, 160))], [(4, 7, 0)], [(0, 1, 2), (0, 2, 3), (0, 3, 7), (2, 1, 5)], [], [], [], none)], [(18, 2), (18, 3), (20, 0)], 0, 0)
set_option maxRecDepth 100000 in
def qP113 : zk_P := ([(25, 6, 3, 0)], [], [], [], [], [(2, qC112), (20, qC36), (50, qC112), (64, qC47)], [])
set_option maxRecDepth 100000 in
def qH113 : List zk_Hd := [(12, (10, [(0, 0), (1, 1), (2, 6)], [], [(0, (2, 18, 0)), (1, (0, 2, 2)), (2, (2, 12, 0)), (3, (0, 0, 320)), (4, (0, 4, 159)), (5, (0, 5, 160)), (6, (0, 0, 160)), (7, (0, 1, 320)), (8, (0, 4, 160)), (9, (0, 5, 160))], [(3, 7, 0), (4, 5, (-1)), (4, 8, 0), (4, 9, (-1)), (5, 9, 0), (8, 5, 0), (8, 9, 0), (9, 5, 0)], [(0, 1, 2), (0, 2, 7), (0, 3, 8), (2, 1, 9)], [], [], [], none), [(1, none, none), (161, none, some 8), (1, none, none)], 0, 0)]
set_option maxRecDepth 100000 in
def qX113 : List zk_Hd := []
set_option maxRecDepth 100000 in
theorem qk113 : zk_chk qK qP113 prog_8_method_13_code 4 qC113 (some .boolean) qH113 qX113 90 3 = true := zk_chkD_ok (T := qdt_8_13) qdo_8_13 (by decide +kernel)
set_option maxRecDepth 100000 in
/-- UnaskedLetters$RuleReader.readSum(I)Z #2 -/
def qC114 : zk_C := ((6, [], [0, 1], [(0, (2, 18, 0)), (1, (0, 2, 2)), (2, (2, 12, 0)), (3, (0, 0, 320)), (4, (0, 4, 160)), (5, (0, 4, 160))], [], [(0, 1, 2), (0, 2, 3), (0, 3, 4), (2, 1, 5)], [], [], [], none), [(10, [], [6], [(0, (2, 18, 0)), (1, (0, 2, 2)), (2, (2, 12, 0)), (3, (0, 0, 320)), (4, (0, 4, 159)), (5, (0, 5, 160)), (6, (0, 1, 1)), (7, (0, 1, 320)), (8, (0, 4, 160)), (9, (0, 5, 160))], [(3, 7, 0), (4, 5, (-1)), (4, 8, 0), (4, 9, (-1)), (5, 9, 0), (9, 5, 0)], [(0, 1, 2), (0, 2, 7), (0, 3, 8), (2, 1, 9)], [], [], [], none), (10, [], [6], [(0, (2, 18, 0)), (1, (0, 2, 2)), (2, (2, 12, 0)), (3, (0, 0, 320)), (4, (0, 4, 159)), (5, (0, 5, 160)), (6, (0, 0, 0)), (7, (0, 1, 320)), (8, (0, 5, 160)), (9, (0, 5, 160))], [(3, 7, 0), (4, 5, (-1)), (4, 8, (-1)), (4, 9, (-1)), (5, 9, 0), (9, 5, 0)], [(0, 1, 2), (0, 2, 7), (0, 3, 8), (2, 1, 9)], [], [], [], none), (8, [], [6], [(0, (2, 18, 0)), (1, (0, 2, 2)), (2, (2, 12, 0)), (3, (0, 0, 320)), (4, (0, 4, 160)), (5, (0, 4, 160)), (6, (0, 0, 0)), (7, (0, 4, 160))], [(4, 7, 0)], [(0, 1, 2), (0, 2, 3), (0, 3, 7), (2, 1, 5)], [], [], [], none)], [(18, 2), (18, 3), (20, 0)], 0, 0)
set_option maxRecDepth 100000 in
def qP114 : zk_P := ([(25, 6, 3, 0)], [], [], [], [], [(2, qC113), (20, qC36), (50, qC113), (64, qC47)], [])
set_option maxRecDepth 100000 in
def qH114 : List zk_Hd := [(12, (10, [(0, 0), (1, 1), (2, 6)], [], [(0, (2, 18, 0)), (1, (0, 2, 2)), (2, (2, 12, 0)), (3, (0, 0, 320)), (4, (0, 4, 159)), (5, (0, 5, 160)), (6, (0, 0, 160)), (7, (0, 1, 320)), (8, (0, 4, 160)), (9, (0, 5, 160))], [(3, 7, 0), (4, 5, (-1)), (4, 8, 0), (4, 9, (-1)), (5, 9, 0), (9, 5, 0)], [(0, 1, 2), (0, 2, 7), (0, 3, 8), (2, 1, 9)], [], [], [], none), [(1, none, none), (161, none, some 8), (1, none, none)], 0, 0)]
set_option maxRecDepth 100000 in
def qX114 : List zk_Hd := []
set_option maxRecDepth 100000 in
theorem qk114 : zk_chk qK qP114 prog_8_method_12_code 4 qC114 (some .boolean) qH114 qX114 90 3 = true := zk_chkD_ok (T := qdt_8_12) qdo_8_12 (by decide +kernel)
set_option maxRecDepth 100000 in
/-- java/lang/String.isLatin1()Z java/lang/String.indexOf(II)I@1java/lang/String.indexOf(I)I@3UnaskedLetters$RuleReader.readAtom(I)Z@84#1 -/
def qC115 : zk_C := ((1, [], [0], [(0, (2, 24, 0))], [], [], [], [], [], none), [(2, [], [1], [(0, (2, 24, 0)), (1, (0, 1, 1))], [], [], [], [], [], none)], [], 0, 0)
set_option maxRecDepth 100000 in
def qP115 : zk_P := ([(15, 13, 1, 4)], [], [], [], [(0, 3, (0, 1, 1))], [], [])
set_option maxRecDepth 100000 in
def qH115 : List zk_Hd := []
set_option maxRecDepth 100000 in
def qX115 : List zk_Hd := []
set_option maxRecDepth 100000 in
theorem qk115 : zk_chk qK qP115 prog_19_method_154_code 1 qC115 (some .boolean) qH115 qX115 68 0 = true := zk_chkD_ok (T := qdt_19_154) qdo_19_154 (by decide +kernel)
set_option maxRecDepth 100000 in
/-- java/lang/String.coder()B java/lang/String.length()I@6java/lang/String.indexOf(II)I@14java/lang/String.indexOf(I)I@3UnaskedLetters$RuleReader.readAtom(I)Z@84#1 -/
def qC116 : zk_C := ((1, [], [0], [(0, (2, 24, 0))], [], [], [], [], [], none), [(2, [], [1], [(0, (2, 24, 0)), (1, (0, 0, 0))], [], [], [], [], [], none)], [], 0, 0)
set_option maxRecDepth 100000 in
def qP116 : zk_P := ([(15, 13, 1, 4)], [], [], [], [(0, 3, (0, 1, 1))], [], [])
set_option maxRecDepth 100000 in
def qH116 : List zk_Hd := []
set_option maxRecDepth 100000 in
def qX116 : List zk_Hd := []
set_option maxRecDepth 100000 in
theorem qk116 : zk_chk qK qP116 prog_19_method_152_code 1 qC116 (some .byte) qH116 qX116 66 0 = true := zk_chkD_ok (T := qdt_19_152) qdo_19_152 (by decide +kernel)
set_option maxRecDepth 100000 in
/-- java/lang/String.length()I java/lang/String.indexOf(II)I@14java/lang/String.indexOf(I)I@3UnaskedLetters$RuleReader.readAtom(I)Z@84#1 -/
def qC117 : zk_C := ((1, [], [0], [(0, (2, 24, 0))], [], [], [], [], [], none), [(2, [], [1], [(0, (2, 24, 0)), (1, (0, 12, 12))], [], [], [], [], [], none)], [], 0, 0)
set_option maxRecDepth 100000 in
def qP117 : zk_P := ([(9, 13, 0, 4)], [], [], [], [], [(6, qC116)], [])
set_option maxRecDepth 100000 in
def qH117 : List zk_Hd := []
set_option maxRecDepth 100000 in
def qX117 : List zk_Hd := []
set_option maxRecDepth 100000 in
theorem qk117 : zk_chk qK qP117 prog_19_method_54_code 1 qC117 (some .int) qH117 qX117 67 0 = true := zk_chkD_ok (T := qdt_19_54) qdo_19_54 (by decide +kernel)
set_option maxRecDepth 100000 in
/-- java/lang/StringLatin1.canEncode(I)Z java/lang/StringLatin1.indexOf([BIII)I@1java/lang/String.indexOf(II)I@17java/lang/String.indexOf(I)I@3UnaskedLetters$RuleReader.readAtom(I)Z@84#1 -/
def qC118 : zk_C := ((1, [], [0], [(0, (0, 0, 255))], [], [], [], [], [], none), [(2, [], [1], [(0, (0, 0, 255)), (1, (0, 1, 1))], [], [], [], [], [], none)], [], 0, 0)
set_option maxRecDepth 100000 in
def qP118 : zk_P := ([], [], [], [], [], [], [])
set_option maxRecDepth 100000 in
def qH118 : List zk_Hd := []
set_option maxRecDepth 100000 in
def qX118 : List zk_Hd := []
set_option maxRecDepth 100000 in
theorem qk118 : zk_chk qK qP118 prog_20_method_4_code 1 qC118 (some .boolean) qH118 qX118 68 0 = true := zk_chkD_ok (T := qdt_20_4) qdo_20_4 (by decide +kernel)
set_option maxRecDepth 100000 in
/-- java/lang/Math.max(II)I java/lang/StringLatin1.indexOf([BIII)I@11java/lang/String.indexOf(II)I@17java/lang/String.indexOf(I)I@3UnaskedLetters$RuleReader.readAtom(I)Z@84#1 -/
def qC119 : zk_C := ((2, [], [0, 1], [(0, (0, 0, 0)), (1, (0, 0, 0))], [], [], [], [], [], none), [(2, [], [0], [(0, (0, 0, 0)), (1, (0, 0, 0))], [], [], [], [], [], none)], [], 0, 0)
set_option maxRecDepth 100000 in
def qP119 : zk_P := ([], [], [], [], [], [], [])
set_option maxRecDepth 100000 in
def qH119 : List zk_Hd := []
set_option maxRecDepth 100000 in
def qX119 : List zk_Hd := []
set_option maxRecDepth 100000 in
theorem qk119 : zk_chk qK qP119 prog_18_method_65_code 2 qC119 (some .int) qH119 qX119 66 0 = true := zk_chkD_ok (T := qdt_18_65) qdo_18_65 (by decide +kernel)
set_option maxRecDepth 100000 in
/-- java/lang/Math.min(II)I java/lang/StringLatin1.indexOf([BIII)I@18java/lang/String.indexOf(II)I@17java/lang/String.indexOf(I)I@3UnaskedLetters$RuleReader.readAtom(I)Z@84#1 -/
def qC120 : zk_C := ((2, [], [0, 1], [(0, (0, 12, 12)), (1, (0, 12, 12))], [], [], [], [], [], none), [(2, [], [0], [(0, (0, 12, 12)), (1, (0, 12, 12))], [], [], [], [], [], none)], [], 0, 0)
set_option maxRecDepth 100000 in
def qP120 : zk_P := ([], [], [], [], [], [], [])
set_option maxRecDepth 100000 in
def qH120 : List zk_Hd := []
set_option maxRecDepth 100000 in
def qX120 : List zk_Hd := []
set_option maxRecDepth 100000 in
theorem qk120 : zk_chk qK qP120 prog_18_method_69_code 2 qC120 (some .int) qH120 qX120 66 0 = true := zk_chkD_ok (T := qdt_18_69) qdo_18_69 (by decide +kernel)
set_option maxRecDepth 100000 in
/-- java/lang/StringLatin1.indexOfChar([BIII)I java/lang/StringLatin1.indexOf([BIII)I@33java/lang/String.indexOf(II)I@17java/lang/String.indexOf(I)I@3UnaskedLetters$RuleReader.readAtom(I)Z@84#1 -/
def qC121 : zk_C := ((4, [], [0, 1, 2, 3], [(0, (2, 23, 0)), (1, (0, 0, 255)), (2, (0, 0, 0)), (3, (0, 12, 12))], [], [], [], [], [], none), [(5, [], [4], [(0, (2, 23, 0)), (1, (0, 0, 255)), (2, (0, 0, 0)), (3, (0, 12, 12)), (4, (0, (-1), (-1)))], [], [], [], [], [], none), (5, [], [4], [(0, (2, 23, 0)), (1, (0, 0, 255)), (2, (0, 0, 0)), (3, (0, 12, 12)), (4, (0, 0, 11))], [], [], [], [], [], none)], [], 0, 0)
set_option maxRecDepth 100000 in
def qP121 : zk_P := ([], [], [], [], [], [], [])
set_option maxRecDepth 100000 in
def qH121 : List zk_Hd := [(7, (6, [(0, 0), (3, 3), (4, 4), (5, 5)], [], [(0, (2, 23, 0)), (1, (0, 0, 255)), (2, (0, 0, 0)), (3, (0, 12, 12)), (4, (0, (-128), 127)), (5, (0, 0, 12))], [], [], [], [], [], none), [(1, none, none), (13, none, some 5), (1, none, none)], 0, 0)]
set_option maxRecDepth 100000 in
def qX121 : List zk_Hd := []
set_option maxRecDepth 100000 in
theorem qk121 : zk_chk qK qP121 prog_20_method_23_code 6 qC121 (some .int) qH121 qX121 71 3 = true := zk_chkD_ok (T := qdt_20_23) qdo_20_23 (by decide +kernel)
set_option maxRecDepth 100000 in
/-- java/lang/StringLatin1.indexOf([BIII)I java/lang/String.indexOf(II)I@17java/lang/String.indexOf(I)I@3UnaskedLetters$RuleReader.readAtom(I)Z@84#1 -/
def qC122 : zk_C := ((4, [], [0, 1, 2, 3], [(0, (2, 23, 0)), (1, (0, 0, 255)), (2, (0, 0, 0)), (3, (0, 12, 12))], [], [], [], [], [], none), [(5, [], [4], [(0, (2, 23, 0)), (1, (0, 0, 255)), (2, (0, 0, 0)), (3, (0, 12, 12)), (4, (0, (-1), (-1)))], [], [], [], [], [], none), (5, [], [4], [(0, (2, 23, 0)), (1, (0, 0, 255)), (2, (0, 0, 0)), (3, (0, 12, 12)), (4, (0, 0, 11))], [], [], [], [], [], none)], [], 0, 0)
set_option maxRecDepth 100000 in
def qP122 : zk_P := ([], [], [], [], [], [(1, qC118), (11, qC119), (18, qC120), (33, qC121)], [])
set_option maxRecDepth 100000 in
def qH122 : List zk_Hd := []
set_option maxRecDepth 100000 in
def qX122 : List zk_Hd := []
set_option maxRecDepth 100000 in
theorem qk122 : zk_chk qK qP122 prog_20_method_22_code 4 qC122 (some .int) qH122 qX122 81 0 = true := zk_chkD_ok (T := qdt_20_22) qdo_20_22 (by decide +kernel)
set_option maxRecDepth 100000 in
/-- java/lang/String.indexOf(II)I java/lang/String.indexOf(I)I@3UnaskedLetters$RuleReader.readAtom(I)Z@84#1 -/
def qC123 : zk_C := ((3, [], [0, 1, 2], [(0, (2, 24, 0)), (1, (0, 0, 255)), (2, (0, 0, 0))], [], [], [], [], [], none), [(4, [], [3], [(0, (2, 24, 0)), (1, (0, 0, 255)), (2, (0, 0, 0)), (3, (0, (-1), (-1)))], [], [], [], [], [], none), (4, [], [3], [(0, (2, 24, 0)), (1, (0, 0, 255)), (2, (0, 0, 0)), (3, (0, 0, 11))], [], [], [], [], [], none)], [], 0, 0)
set_option maxRecDepth 100000 in
def qP123 : zk_P := ([(9, 13, 0, 4)], [], [], [], [], [(1, qC115), (14, qC117), (17, qC122)], [])
set_option maxRecDepth 100000 in
def qH123 : List zk_Hd := []
set_option maxRecDepth 100000 in
def qX123 : List zk_Hd := []
set_option maxRecDepth 100000 in
theorem qk123 : zk_chk qK qP123 prog_19_method_80_code 3 qC123 (some .int) qH123 qX123 72 0 = true := zk_chkD_ok (T := qdt_19_80) qdo_19_80 (by decide +kernel)
set_option maxRecDepth 100000 in
/-- java/lang/String.indexOf(I)I UnaskedLetters$RuleReader.readAtom(I)Z@84#1 -/
def qC124 : zk_C := ((2, [], [0, 1], [(0, (2, 24, 0)), (1, (0, 0, 255))], [], [], [], [], [], none), [(3, [], [2], [(0, (2, 24, 0)), (1, (0, 0, 255)), (2, (0, (-1), (-1)))], [], [], [], [], [], none), (3, [], [2], [(0, (2, 24, 0)), (1, (0, 0, 255)), (2, (0, 0, 11))], [], [], [], [], [], none)], [], 0, 0)
set_option maxRecDepth 100000 in
def qP124 : zk_P := ([], [], [], [], [], [(3, qC123)], [])
set_option maxRecDepth 100000 in
def qH124 : List zk_Hd := []
set_option maxRecDepth 100000 in
def qX124 : List zk_Hd := []
set_option maxRecDepth 100000 in
theorem qk124 : zk_chk qK qP124 prog_19_method_79_code 2 qC124 (some .int) qH124 qX124 65 0 = true := zk_chkD_ok (T := qdt_19_79) qdo_19_79 (by decide +kernel)
set_option maxRecDepth 100000 in
/-- UnaskedLetters$RuleReader.readAtom(I)Z #1 -/
def qC125 : zk_C := ((6, [], [0, 1], [(0, (2, 18, 0)), (1, (0, 1, 1)), (2, (2, 12, 0)), (3, (0, 0, 320)), (4, (0, 3, 160)), (5, (0, 3, 160))], [], [(0, 1, 2), (0, 2, 3), (0, 3, 4), (2, 1, 5)], [], [], [], none), [(8, [], [6], [(0, (2, 18, 0)), (1, (0, 1, 1)), (2, (2, 12, 0)), (3, (0, 0, 320)), (4, (0, 3, 160)), (5, (0, 3, 160)), (6, (0, 0, 0)), (7, (0, 3, 160))], [(4, 7, 0)], [(0, 1, 2), (0, 2, 3), (0, 3, 7), (2, 1, 5)], [], [], [], none), (9, [], [6], [(0, (2, 18, 0)), (1, (0, 1, 1)), (2, (2, 12, 0)), (3, (0, 320, 320)), (4, (0, 3, 159)), (5, (0, 4, 160)), (6, (0, 1, 1)), (7, (0, 4, 160)), (8, (0, 4, 160))], [(4, 5, (-1)), (4, 7, (-1)), (4, 8, (-1)), (5, 8, 0), (7, 5, 0), (7, 8, 0), (8, 5, 0)], [(0, 1, 2), (0, 2, 3), (0, 3, 7), (2, 1, 8)], [], [], [], none), (10, [], [6], [(0, (2, 18, 0)), (1, (0, 1, 1)), (2, (2, 12, 0)), (3, (0, 0, 319)), (4, (0, 3, 159)), (5, (0, 4, 160)), (6, (0, 1, 1)), (7, (0, 1, 320)), (8, (0, 4, 160)), (9, (0, 4, 160))], [(3, 7, (-1)), (4, 5, (-1)), (4, 8, (-1)), (4, 9, (-1)), (5, 9, 0), (7, 3, 1), (8, 5, 0), (8, 9, 0), (9, 5, 0)], [(0, 1, 2), (0, 2, 7), (0, 3, 8), (2, 1, 9)], [], [], [], none), (10, [], [6], [(0, (2, 18, 0)), (1, (0, 1, 1)), (2, (2, 12, 0)), (3, (0, 0, 320)), (4, (0, 3, 158)), (5, (0, 5, 160)), (6, (0, 0, 0)), (7, (0, 1, 320)), (8, (0, 4, 160)), (9, (0, 5, 160))], [(3, 7, 0), (4, 5, (-2)), (4, 8, (-1)), (4, 9, (-2)), (5, 9, 0), (9, 5, 0)], [(0, 1, 2), (0, 2, 7), (0, 3, 8), (2, 1, 9)], [], [], [], none), (10, [], [6], [(0, (2, 18, 0)), (1, (0, 1, 1)), (2, (2, 12, 0)), (3, (0, 0, 320)), (4, (0, 3, 158)), (5, (0, 5, 160)), (6, (0, 1, 1)), (7, (0, 1, 320)), (8, (0, 5, 160)), (9, (0, 5, 160))], [(3, 7, 0), (4, 5, (-2)), (4, 8, (-2)), (4, 9, (-2)), (5, 9, 0), (8, 5, 0), (8, 9, 0), (9, 5, 0)], [(0, 1, 2), (0, 2, 7), (0, 3, 8), (2, 1, 9)], [], [], [], none), (9, [], [6], [(0, (2, 18, 0)), (1, (0, 1, 1)), (2, (2, 12, 0)), (3, (0, 320, 320)), (4, (0, 3, 159)), (5, (0, 4, 160)), (6, (0, 1, 1)), (7, (0, 3, 159)), (8, (0, 4, 160))], [(4, 5, (-1)), (4, 7, 0), (4, 8, (-1)), (5, 8, 0), (7, 5, (-1)), (7, 8, (-1)), (8, 5, 0)], [(0, 1, 2), (0, 2, 3), (0, 3, 7), (2, 1, 8)], [], [], [], none), (10, [], [6], [(0, (2, 18, 0)), (1, (0, 1, 1)), (2, (2, 12, 0)), (3, (0, 0, 319)), (4, (0, 3, 159)), (5, (0, 4, 160)), (6, (0, 1, 1)), (7, (0, 1, 320)), (8, (0, 3, 159)), (9, (0, 4, 160))], [(3, 7, (-1)), (4, 5, (-1)), (4, 8, 0), (4, 9, (-1)), (5, 9, 0), (7, 3, 1), (8, 5, (-1)), (8, 9, (-1)), (9, 5, 0)], [(0, 1, 2), (0, 2, 7), (0, 3, 8), (2, 1, 9)], [], [], [], none)], [(18, 2), (18, 3), (20, 0)], 0, 0)
set_option maxRecDepth 100000 in
def qP125 : zk_P := ([(25, 6, 3, 0)], [], [], [], [(80, 2, (2, 24, 0))], [(1, qC36), (18, qC49), (50, qC114), (59, qC48), (84, qC124), (110, qC47)], [])
set_option maxRecDepth 100000 in
def qH125 : List zk_Hd := []
set_option maxRecDepth 100000 in
def qX125 : List zk_Hd := []
set_option maxRecDepth 100000 in
theorem qk125 : zk_chk qK qP125 prog_8_method_14_code 4 qC125 (some .boolean) qH125 qX125 95 0 = true := zk_chkD_ok (T := qdt_8_14) qdo_8_14 (by decide +kernel)
set_option maxRecDepth 100000 in
/-- UnaskedLetters$RuleReader.readTerm(I)Z #1 -/
def qC126 : zk_C := ((6, [], [0, 1], [(0, (2, 18, 0)), (1, (0, 1, 1)), (2, (2, 12, 0)), (3, (0, 0, 320)), (4, (0, 3, 160)), (5, (0, 3, 160))], [], [(0, 1, 2), (0, 2, 3), (0, 3, 4), (2, 1, 5)], [], [], [], none), [(10, [], [6], [(0, (2, 18, 0)), (1, (0, 1, 1)), (2, (2, 12, 0)), (3, (0, 0, 320)), (4, (0, 3, 159)), (5, (0, 4, 160)), (6, (0, 1, 1)), (7, (0, 1, 320)), (8, (0, 3, 160)), (9, (0, 4, 160))], [(3, 7, 0), (4, 5, (-1)), (4, 8, 0), (4, 9, (-1)), (5, 9, 0), (9, 5, 0)], [(0, 1, 2), (0, 2, 7), (0, 3, 8), (2, 1, 9)], [], [], [], none), (10, [], [6], [(0, (2, 18, 0)), (1, (0, 1, 1)), (2, (2, 12, 0)), (3, (0, 0, 320)), (4, (0, 3, 159)), (5, (0, 4, 160)), (6, (0, 0, 0)), (7, (0, 1, 320)), (8, (0, 4, 160)), (9, (0, 4, 160))], [(3, 7, 0), (4, 5, (-1)), (4, 8, (-1)), (4, 9, (-1)), (5, 9, 0), (9, 5, 0)], [(0, 1, 2), (0, 2, 7), (0, 3, 8), (2, 1, 9)], [], [], [], none), (8, [], [6], [(0, (2, 18, 0)), (1, (0, 1, 1)), (2, (2, 12, 0)), (3, (0, 0, 320)), (4, (0, 3, 160)), (5, (0, 3, 160)), (6, (0, 0, 0)), (7, (0, 3, 160))], [(4, 7, 0)], [(0, 1, 2), (0, 2, 3), (0, 3, 7), (2, 1, 5)], [], [], [], none)], [(18, 2), (18, 3), (20, 0)], 0, 0)
set_option maxRecDepth 100000 in
def qP126 : zk_P := ([(25, 6, 3, 0)], [], [], [], [], [(2, qC125), (20, qC36), (50, qC125), (64, qC47)], [])
set_option maxRecDepth 100000 in
def qH126 : List zk_Hd := [(12, (10, [(0, 0), (1, 1), (2, 6)], [], [(0, (2, 18, 0)), (1, (0, 1, 1)), (2, (2, 12, 0)), (3, (0, 0, 320)), (4, (0, 3, 159)), (5, (0, 4, 160)), (6, (0, 0, 160)), (7, (0, 1, 320)), (8, (0, 3, 160)), (9, (0, 4, 160))], [(3, 7, 0), (4, 5, (-1)), (4, 8, 0), (4, 9, (-1)), (5, 9, 0), (8, 5, 0), (8, 9, 0), (9, 5, 0)], [(0, 1, 2), (0, 2, 7), (0, 3, 8), (2, 1, 9)], [], [], [], none), [(1, none, none), (161, none, some 8), (1, none, none)], 0, 0)]
set_option maxRecDepth 100000 in
def qX126 : List zk_Hd := []
set_option maxRecDepth 100000 in
theorem qk126 : zk_chk qK qP126 prog_8_method_13_code 4 qC126 (some .boolean) qH126 qX126 90 3 = true := zk_chkD_ok (T := qdt_8_13) qdo_8_13 (by decide +kernel)
set_option maxRecDepth 100000 in
/-- UnaskedLetters$RuleReader.readSum(I)Z #1 -/
def qC127 : zk_C := ((6, [], [0, 1], [(0, (2, 18, 0)), (1, (0, 1, 1)), (2, (2, 12, 0)), (3, (0, 0, 320)), (4, (0, 3, 160)), (5, (0, 3, 160))], [], [(0, 1, 2), (0, 2, 3), (0, 3, 4), (2, 1, 5)], [], [], [], none), [(10, [], [6], [(0, (2, 18, 0)), (1, (0, 1, 1)), (2, (2, 12, 0)), (3, (0, 0, 320)), (4, (0, 3, 159)), (5, (0, 4, 160)), (6, (0, 1, 1)), (7, (0, 1, 320)), (8, (0, 3, 160)), (9, (0, 4, 160))], [(3, 7, 0), (4, 5, (-1)), (4, 8, 0), (4, 9, (-1)), (5, 9, 0), (9, 5, 0)], [(0, 1, 2), (0, 2, 7), (0, 3, 8), (2, 1, 9)], [], [], [], none), (10, [], [6], [(0, (2, 18, 0)), (1, (0, 1, 1)), (2, (2, 12, 0)), (3, (0, 0, 320)), (4, (0, 3, 159)), (5, (0, 4, 160)), (6, (0, 0, 0)), (7, (0, 1, 320)), (8, (0, 4, 160)), (9, (0, 4, 160))], [(3, 7, 0), (4, 5, (-1)), (4, 8, (-1)), (4, 9, (-1)), (5, 9, 0), (9, 5, 0)], [(0, 1, 2), (0, 2, 7), (0, 3, 8), (2, 1, 9)], [], [], [], none), (8, [], [6], [(0, (2, 18, 0)), (1, (0, 1, 1)), (2, (2, 12, 0)), (3, (0, 0, 320)), (4, (0, 3, 160)), (5, (0, 3, 160)), (6, (0, 0, 0)), (7, (0, 3, 160))], [(4, 7, 0)], [(0, 1, 2), (0, 2, 3), (0, 3, 7), (2, 1, 5)], [], [], [], none)], [(18, 2), (18, 3), (20, 0)], 0, 0)
set_option maxRecDepth 100000 in
def qP127 : zk_P := ([(25, 6, 3, 0)], [], [], [], [], [(2, qC126), (20, qC36), (50, qC126), (64, qC47)], [])
set_option maxRecDepth 100000 in
def qH127 : List zk_Hd := [(12, (10, [(0, 0), (1, 1), (2, 6)], [], [(0, (2, 18, 0)), (1, (0, 1, 1)), (2, (2, 12, 0)), (3, (0, 0, 320)), (4, (0, 3, 159)), (5, (0, 4, 160)), (6, (0, 0, 160)), (7, (0, 1, 320)), (8, (0, 3, 160)), (9, (0, 4, 160))], [(3, 7, 0), (4, 5, (-1)), (4, 8, 0), (4, 9, (-1)), (5, 9, 0), (9, 5, 0)], [(0, 1, 2), (0, 2, 7), (0, 3, 8), (2, 1, 9)], [], [], [], none), [(1, none, none), (161, none, some 8), (1, none, none)], 0, 0)]
set_option maxRecDepth 100000 in
def qX127 : List zk_Hd := []
set_option maxRecDepth 100000 in
theorem qk127 : zk_chk qK qP127 prog_8_method_12_code 4 qC127 (some .boolean) qH127 qX127 90 3 = true := zk_chkD_ok (T := qdt_8_12) qdo_8_12 (by decide +kernel)
set_option maxRecDepth 100000 in
/-- java/lang/String.isLatin1()Z java/lang/String.indexOf(II)I@1java/lang/String.indexOf(I)I@3UnaskedLetters$RuleReader.readAtom(I)Z@84#0 -/
def qC128 : zk_C := ((1, [], [0], [(0, (2, 24, 0))], [], [], [], [], [], none), [(2, [], [1], [(0, (2, 24, 0)), (1, (0, 1, 1))], [], [], [], [], [], none)], [], 0, 0)
set_option maxRecDepth 100000 in
def qP128 : zk_P := ([(15, 13, 1, 4)], [], [], [], [(0, 3, (0, 1, 1))], [], [])
set_option maxRecDepth 100000 in
def qH128 : List zk_Hd := []
set_option maxRecDepth 100000 in
def qX128 : List zk_Hd := []
set_option maxRecDepth 100000 in
theorem qk128 : zk_chk qK qP128 prog_19_method_154_code 1 qC128 (some .boolean) qH128 qX128 68 0 = true := zk_chkD_ok (T := qdt_19_154) qdo_19_154 (by decide +kernel)
set_option maxRecDepth 100000 in
/-- java/lang/String.coder()B java/lang/String.length()I@6java/lang/String.indexOf(II)I@14java/lang/String.indexOf(I)I@3UnaskedLetters$RuleReader.readAtom(I)Z@84#0 -/
def qC129 : zk_C := ((1, [], [0], [(0, (2, 24, 0))], [], [], [], [], [], none), [(2, [], [1], [(0, (2, 24, 0)), (1, (0, 0, 0))], [], [], [], [], [], none)], [], 0, 0)
set_option maxRecDepth 100000 in
def qP129 : zk_P := ([(15, 13, 1, 4)], [], [], [], [(0, 3, (0, 1, 1))], [], [])
set_option maxRecDepth 100000 in
def qH129 : List zk_Hd := []
set_option maxRecDepth 100000 in
def qX129 : List zk_Hd := []
set_option maxRecDepth 100000 in
theorem qk129 : zk_chk qK qP129 prog_19_method_152_code 1 qC129 (some .byte) qH129 qX129 66 0 = true := zk_chkD_ok (T := qdt_19_152) qdo_19_152 (by decide +kernel)
set_option maxRecDepth 100000 in
/-- java/lang/String.length()I java/lang/String.indexOf(II)I@14java/lang/String.indexOf(I)I@3UnaskedLetters$RuleReader.readAtom(I)Z@84#0 -/
def qC130 : zk_C := ((1, [], [0], [(0, (2, 24, 0))], [], [], [], [], [], none), [(2, [], [1], [(0, (2, 24, 0)), (1, (0, 12, 12))], [], [], [], [], [], none)], [], 0, 0)
set_option maxRecDepth 100000 in
def qP130 : zk_P := ([(9, 13, 0, 4)], [], [], [], [], [(6, qC129)], [])
set_option maxRecDepth 100000 in
def qH130 : List zk_Hd := []
set_option maxRecDepth 100000 in
def qX130 : List zk_Hd := []
set_option maxRecDepth 100000 in
theorem qk130 : zk_chk qK qP130 prog_19_method_54_code 1 qC130 (some .int) qH130 qX130 67 0 = true := zk_chkD_ok (T := qdt_19_54) qdo_19_54 (by decide +kernel)
set_option maxRecDepth 100000 in
/-- java/lang/StringLatin1.canEncode(I)Z java/lang/StringLatin1.indexOf([BIII)I@1java/lang/String.indexOf(II)I@17java/lang/String.indexOf(I)I@3UnaskedLetters$RuleReader.readAtom(I)Z@84#0 -/
def qC131 : zk_C := ((1, [], [0], [(0, (0, 0, 255))], [], [], [], [], [], none), [(2, [], [1], [(0, (0, 0, 255)), (1, (0, 1, 1))], [], [], [], [], [], none)], [], 0, 0)
set_option maxRecDepth 100000 in
def qP131 : zk_P := ([], [], [], [], [], [], [])
set_option maxRecDepth 100000 in
def qH131 : List zk_Hd := []
set_option maxRecDepth 100000 in
def qX131 : List zk_Hd := []
set_option maxRecDepth 100000 in
theorem qk131 : zk_chk qK qP131 prog_20_method_4_code 1 qC131 (some .boolean) qH131 qX131 68 0 = true := zk_chkD_ok (T := qdt_20_4) qdo_20_4 (by decide +kernel)
set_option maxRecDepth 100000 in
/-- java/lang/Math.max(II)I java/lang/StringLatin1.indexOf([BIII)I@11java/lang/String.indexOf(II)I@17java/lang/String.indexOf(I)I@3UnaskedLetters$RuleReader.readAtom(I)Z@84#0 -/
def qC132 : zk_C := ((2, [], [0, 1], [(0, (0, 0, 0)), (1, (0, 0, 0))], [], [], [], [], [], none), [(2, [], [0], [(0, (0, 0, 0)), (1, (0, 0, 0))], [], [], [], [], [], none)], [], 0, 0)
set_option maxRecDepth 100000 in
def qP132 : zk_P := ([], [], [], [], [], [], [])
set_option maxRecDepth 100000 in
def qH132 : List zk_Hd := []
set_option maxRecDepth 100000 in
def qX132 : List zk_Hd := []
set_option maxRecDepth 100000 in
theorem qk132 : zk_chk qK qP132 prog_18_method_65_code 2 qC132 (some .int) qH132 qX132 66 0 = true := zk_chkD_ok (T := qdt_18_65) qdo_18_65 (by decide +kernel)
set_option maxRecDepth 100000 in
/-- java/lang/Math.min(II)I java/lang/StringLatin1.indexOf([BIII)I@18java/lang/String.indexOf(II)I@17java/lang/String.indexOf(I)I@3UnaskedLetters$RuleReader.readAtom(I)Z@84#0 -/
def qC133 : zk_C := ((2, [], [0, 1], [(0, (0, 12, 12)), (1, (0, 12, 12))], [], [], [], [], [], none), [(2, [], [0], [(0, (0, 12, 12)), (1, (0, 12, 12))], [], [], [], [], [], none)], [], 0, 0)
set_option maxRecDepth 100000 in
def qP133 : zk_P := ([], [], [], [], [], [], [])
set_option maxRecDepth 100000 in
def qH133 : List zk_Hd := []
set_option maxRecDepth 100000 in
def qX133 : List zk_Hd := []
set_option maxRecDepth 100000 in
theorem qk133 : zk_chk qK qP133 prog_18_method_69_code 2 qC133 (some .int) qH133 qX133 66 0 = true := zk_chkD_ok (T := qdt_18_69) qdo_18_69 (by decide +kernel)
set_option maxRecDepth 100000 in
/-- java/lang/StringLatin1.indexOfChar([BIII)I java/lang/StringLatin1.indexOf([BIII)I@33java/lang/String.indexOf(II)I@17java/lang/String.indexOf(I)I@3UnaskedLetters$RuleReader.readAtom(I)Z@84#0 -/
def qC134 : zk_C := ((4, [], [0, 1, 2, 3], [(0, (2, 23, 0)), (1, (0, 0, 255)), (2, (0, 0, 0)), (3, (0, 12, 12))], [], [], [], [], [], none), [(5, [], [4], [(0, (2, 23, 0)), (1, (0, 0, 255)), (2, (0, 0, 0)), (3, (0, 12, 12)), (4, (0, (-1), (-1)))], [], [], [], [], [], none), (5, [], [4], [(0, (2, 23, 0)), (1, (0, 0, 255)), (2, (0, 0, 0)), (3, (0, 12, 12)), (4, (0, 0, 11))], [], [], [], [], [], none)], [], 0, 0)
set_option maxRecDepth 100000 in
def qP134 : zk_P := ([], [], [], [], [], [], [])
set_option maxRecDepth 100000 in
def qH134 : List zk_Hd := [(7, (6, [(0, 0), (3, 3), (4, 4), (5, 5)], [], [(0, (2, 23, 0)), (1, (0, 0, 255)), (2, (0, 0, 0)), (3, (0, 12, 12)), (4, (0, (-128), 127)), (5, (0, 0, 12))], [], [], [], [], [], none), [(1, none, none), (13, none, some 5), (1, none, none)], 0, 0)]
set_option maxRecDepth 100000 in
def qX134 : List zk_Hd := []
set_option maxRecDepth 100000 in
theorem qk134 : zk_chk qK qP134 prog_20_method_23_code 6 qC134 (some .int) qH134 qX134 71 3 = true := zk_chkD_ok (T := qdt_20_23) qdo_20_23 (by decide +kernel)
set_option maxRecDepth 100000 in
/-- java/lang/StringLatin1.indexOf([BIII)I java/lang/String.indexOf(II)I@17java/lang/String.indexOf(I)I@3UnaskedLetters$RuleReader.readAtom(I)Z@84#0 -/
def qC135 : zk_C := ((4, [], [0, 1, 2, 3], [(0, (2, 23, 0)), (1, (0, 0, 255)), (2, (0, 0, 0)), (3, (0, 12, 12))], [], [], [], [], [], none), [(5, [], [4], [(0, (2, 23, 0)), (1, (0, 0, 255)), (2, (0, 0, 0)), (3, (0, 12, 12)), (4, (0, (-1), (-1)))], [], [], [], [], [], none), (5, [], [4], [(0, (2, 23, 0)), (1, (0, 0, 255)), (2, (0, 0, 0)), (3, (0, 12, 12)), (4, (0, 0, 11))], [], [], [], [], [], none)], [], 0, 0)
set_option maxRecDepth 100000 in
def qP135 : zk_P := ([], [], [], [], [], [(1, qC131), (11, qC132), (18, qC133), (33, qC134)], [])
set_option maxRecDepth 100000 in
def qH135 : List zk_Hd := []
set_option maxRecDepth 100000 in
def qX135 : List zk_Hd := []
set_option maxRecDepth 100000 in
theorem qk135 : zk_chk qK qP135 prog_20_method_22_code 4 qC135 (some .int) qH135 qX135 81 0 = true := zk_chkD_ok (T := qdt_20_22) qdo_20_22 (by decide +kernel)
set_option maxRecDepth 100000 in
/-- java/lang/String.indexOf(II)I java/lang/String.indexOf(I)I@3UnaskedLetters$RuleReader.readAtom(I)Z@84#0 -/
def qC136 : zk_C := ((3, [], [0, 1, 2], [(0, (2, 24, 0)), (1, (0, 0, 255)), (2, (0, 0, 0))], [], [], [], [], [], none), [(4, [], [3], [(0, (2, 24, 0)), (1, (0, 0, 255)), (2, (0, 0, 0)), (3, (0, (-1), (-1)))], [], [], [], [], [], none), (4, [], [3], [(0, (2, 24, 0)), (1, (0, 0, 255)), (2, (0, 0, 0)), (3, (0, 0, 11))], [], [], [], [], [], none)], [], 0, 0)
set_option maxRecDepth 100000 in
def qP136 : zk_P := ([(9, 13, 0, 4)], [], [], [], [], [(1, qC128), (14, qC130), (17, qC135)], [])
set_option maxRecDepth 100000 in
def qH136 : List zk_Hd := []
set_option maxRecDepth 100000 in
def qX136 : List zk_Hd := []
set_option maxRecDepth 100000 in
theorem qk136 : zk_chk qK qP136 prog_19_method_80_code 3 qC136 (some .int) qH136 qX136 72 0 = true := zk_chkD_ok (T := qdt_19_80) qdo_19_80 (by decide +kernel)
set_option maxRecDepth 100000 in
/-- java/lang/String.indexOf(I)I UnaskedLetters$RuleReader.readAtom(I)Z@84#0 -/
def qC137 : zk_C := ((2, [], [0, 1], [(0, (2, 24, 0)), (1, (0, 0, 255))], [], [], [], [], [], none), [(3, [], [2], [(0, (2, 24, 0)), (1, (0, 0, 255)), (2, (0, (-1), (-1)))], [], [], [], [], [], none), (3, [], [2], [(0, (2, 24, 0)), (1, (0, 0, 255)), (2, (0, 0, 11))], [], [], [], [], [], none)], [], 0, 0)
set_option maxRecDepth 100000 in
def qP137 : zk_P := ([], [], [], [], [], [(3, qC136)], [])
set_option maxRecDepth 100000 in
def qH137 : List zk_Hd := []
set_option maxRecDepth 100000 in
def qX137 : List zk_Hd := []
set_option maxRecDepth 100000 in
theorem qk137 : zk_chk qK qP137 prog_19_method_79_code 2 qC137 (some .int) qH137 qX137 65 0 = true := zk_chkD_ok (T := qdt_19_79) qdo_19_79 (by decide +kernel)
set_option maxRecDepth 100000 in
/-- UnaskedLetters$RuleReader.readAtom(I)Z #0 -/
def qC138 : zk_C := ((6, [], [0, 1], [(0, (2, 18, 0)), (1, (0, 0, 0)), (2, (2, 12, 0)), (3, (0, 0, 320)), (4, (0, 2, 160)), (5, (0, 2, 160))], [], [(0, 1, 2), (0, 2, 3), (0, 3, 4), (2, 1, 5)], [], [], [], none), [(8, [], [6], [(0, (2, 18, 0)), (1, (0, 0, 0)), (2, (2, 12, 0)), (3, (0, 0, 320)), (4, (0, 2, 160)), (5, (0, 2, 160)), (6, (0, 0, 0)), (7, (0, 2, 160))], [(4, 7, 0)], [(0, 1, 2), (0, 2, 3), (0, 3, 7), (2, 1, 5)], [], [], [], none), (9, [], [6], [(0, (2, 18, 0)), (1, (0, 0, 0)), (2, (2, 12, 0)), (3, (0, 320, 320)), (4, (0, 2, 159)), (5, (0, 3, 160)), (6, (0, 1, 1)), (7, (0, 3, 160)), (8, (0, 3, 160))], [(4, 5, (-1)), (4, 7, (-1)), (4, 8, (-1)), (5, 8, 0), (7, 5, 0), (7, 8, 0), (8, 5, 0)], [(0, 1, 2), (0, 2, 3), (0, 3, 7), (2, 1, 8)], [], [], [], none), (10, [], [6], [(0, (2, 18, 0)), (1, (0, 0, 0)), (2, (2, 12, 0)), (3, (0, 0, 319)), (4, (0, 2, 159)), (5, (0, 3, 160)), (6, (0, 1, 1)), (7, (0, 1, 320)), (8, (0, 3, 160)), (9, (0, 3, 160))], [(3, 7, (-1)), (4, 5, (-1)), (4, 8, (-1)), (4, 9, (-1)), (5, 9, 0), (7, 3, 1), (8, 5, 0), (8, 9, 0), (9, 5, 0)], [(0, 1, 2), (0, 2, 7), (0, 3, 8), (2, 1, 9)], [], [], [], none), (10, [], [6], [(0, (2, 18, 0)), (1, (0, 0, 0)), (2, (2, 12, 0)), (3, (0, 0, 320)), (4, (0, 2, 158)), (5, (0, 4, 160)), (6, (0, 0, 0)), (7, (0, 1, 320)), (8, (0, 3, 160)), (9, (0, 4, 160))], [(3, 7, 0), (4, 5, (-2)), (4, 8, (-1)), (4, 9, (-2)), (5, 9, 0), (9, 5, 0)], [(0, 1, 2), (0, 2, 7), (0, 3, 8), (2, 1, 9)], [], [], [], none), (10, [], [6], [(0, (2, 18, 0)), (1, (0, 0, 0)), (2, (2, 12, 0)), (3, (0, 0, 320)), (4, (0, 2, 158)), (5, (0, 4, 160)), (6, (0, 1, 1)), (7, (0, 1, 320)), (8, (0, 4, 160)), (9, (0, 4, 160))], [(3, 7, 0), (4, 5, (-2)), (4, 8, (-2)), (4, 9, (-2)), (5, 9, 0), (8, 5, 0), (8, 9, 0), (9, 5, 0)], [(0, 1, 2), (0, 2, 7), (0, 3, 8), (2, 1, 9)], [], [], [], none), (9, [], [6], [(0, (2, 18, 0)), (1, (0, 0, 0)), (2, (2, 12, 0)), (3, (0, 320, 320)), (4, (0, 2, 159)), (5, (0, 3, 160)), (6, (0, 1, 1)), (7, (0, 2, 159)), (8, (0, 3, 160))], [(4, 5, (-1)), (4, 7, 0), (4, 8, (-1)), (5, 8, 0), (7, 5, (-1)), (7, 8, (-1)), (8, 5, 0)], [(0, 1, 2), (0, 2, 3), (0, 3, 7), (2, 1, 8)], [], [], [], none), (10, [], [6], [(0, (2, 18, 0)), (1, (0, 0, 0)), (2, (2, 12, 0)), (3, (0, 0, 319)), (4, (0, 2, 159)), (5, (0, 3, 160)), (6, (0, 1, 1)), (7, (0, 1, 320)), (8, (0, 2, 159)), (9, (0, 3, 160))], [(3, 7, (-1)), (4, 5, (-1)), (4, 8, 0), (4, 9, (-1)), (5, 9, 0), (7, 3, 1), (8, 5, (-1)), (8, 9, (-1)), (9, 5, 0)], [(0, 1, 2), (0, 2, 7), (0, 3, 8), (2, 1, 9)], [], [], [], none)], [(18, 2), (18, 3), (20, 0)], 0, 0)
set_option maxRecDepth 100000 in
def qP138 : zk_P := ([(25, 6, 3, 0)], [], [], [], [(80, 2, (2, 24, 0))], [(1, qC36), (18, qC49), (50, qC127), (59, qC48), (84, qC137), (110, qC47)], [])
set_option maxRecDepth 100000 in
def qH138 : List zk_Hd := []
set_option maxRecDepth 100000 in
def qX138 : List zk_Hd := []
set_option maxRecDepth 100000 in
theorem qk138 : zk_chk qK qP138 prog_8_method_14_code 4 qC138 (some .boolean) qH138 qX138 95 0 = true := zk_chkD_ok (T := qdt_8_14) qdo_8_14 (by decide +kernel)
set_option maxRecDepth 100000 in
/-- UnaskedLetters$RuleReader.readTerm(I)Z #0 -/
def qC139 : zk_C := ((6, [], [0, 1], [(0, (2, 18, 0)), (1, (0, 0, 0)), (2, (2, 12, 0)), (3, (0, 1, 320)), (4, (0, 2, 160)), (5, (0, 2, 160))], [], [(0, 1, 2), (0, 2, 3), (0, 3, 4), (2, 1, 5)], [], [], [], none), [(10, [], [6], [(0, (2, 18, 0)), (1, (0, 0, 0)), (2, (2, 12, 0)), (3, (0, 1, 320)), (4, (0, 2, 159)), (5, (0, 3, 160)), (6, (0, 1, 1)), (7, (0, 1, 320)), (8, (0, 2, 160)), (9, (0, 3, 160))], [(3, 7, 0), (4, 5, (-1)), (4, 8, 0), (4, 9, (-1)), (5, 9, 0), (9, 5, 0)], [(0, 1, 2), (0, 2, 7), (0, 3, 8), (2, 1, 9)], [], [], [], none), (10, [], [6], [(0, (2, 18, 0)), (1, (0, 0, 0)), (2, (2, 12, 0)), (3, (0, 1, 320)), (4, (0, 2, 159)), (5, (0, 3, 160)), (6, (0, 0, 0)), (7, (0, 1, 320)), (8, (0, 3, 160)), (9, (0, 3, 160))], [(3, 7, 0), (4, 5, (-1)), (4, 8, (-1)), (4, 9, (-1)), (5, 9, 0), (9, 5, 0)], [(0, 1, 2), (0, 2, 7), (0, 3, 8), (2, 1, 9)], [], [], [], none), (8, [], [6], [(0, (2, 18, 0)), (1, (0, 0, 0)), (2, (2, 12, 0)), (3, (0, 1, 320)), (4, (0, 2, 160)), (5, (0, 2, 160)), (6, (0, 0, 0)), (7, (0, 2, 160))], [(4, 7, 0)], [(0, 1, 2), (0, 2, 3), (0, 3, 7), (2, 1, 5)], [], [], [], none)], [(18, 2), (18, 3), (20, 0)], 0, 0)
set_option maxRecDepth 100000 in
def qP139 : zk_P := ([(25, 6, 3, 0)], [], [], [], [], [(2, qC138), (20, qC36), (50, qC138), (64, qC47)], [])
set_option maxRecDepth 100000 in
def qH139 : List zk_Hd := [(12, (10, [(0, 0), (1, 1), (2, 6)], [], [(0, (2, 18, 0)), (1, (0, 0, 0)), (2, (2, 12, 0)), (3, (0, 1, 320)), (4, (0, 2, 159)), (5, (0, 3, 160)), (6, (0, 0, 160)), (7, (0, 1, 320)), (8, (0, 2, 160)), (9, (0, 3, 160))], [(3, 7, 0), (4, 5, (-1)), (4, 8, 0), (4, 9, (-1)), (5, 9, 0), (8, 5, 0), (8, 9, 0), (9, 5, 0)], [(0, 1, 2), (0, 2, 7), (0, 3, 8), (2, 1, 9)], [], [], [], none), [(1, none, none), (161, none, some 8), (1, none, none)], 0, 0)]
set_option maxRecDepth 100000 in
def qX139 : List zk_Hd := []
set_option maxRecDepth 100000 in
theorem qk139 : zk_chk qK qP139 prog_8_method_13_code 4 qC139 (some .boolean) qH139 qX139 90 3 = true := zk_chkD_ok (T := qdt_8_13) qdo_8_13 (by decide +kernel)
set_option maxRecDepth 100000 in
/-- UnaskedLetters$RuleReader.readSum(I)Z #0 -/
def qC140 : zk_C := ((6, [], [0, 1], [(0, (2, 18, 0)), (1, (0, 0, 0)), (2, (2, 12, 0)), (3, (0, 1, 320)), (4, (0, 2, 160)), (5, (0, 2, 160))], [], [(0, 1, 2), (0, 2, 3), (0, 3, 4), (2, 1, 5)], [], [], [], none), [(10, [], [6], [(0, (2, 18, 0)), (1, (0, 0, 0)), (2, (2, 12, 0)), (3, (0, 1, 320)), (4, (0, 2, 159)), (5, (0, 3, 160)), (6, (0, 1, 1)), (7, (0, 1, 320)), (8, (0, 2, 160)), (9, (0, 3, 160))], [(3, 7, 0), (4, 5, (-1)), (4, 8, 0), (4, 9, (-1)), (5, 9, 0), (9, 5, 0)], [(0, 1, 2), (0, 2, 7), (0, 3, 8), (2, 1, 9)], [], [], [], none), (10, [], [6], [(0, (2, 18, 0)), (1, (0, 0, 0)), (2, (2, 12, 0)), (3, (0, 1, 320)), (4, (0, 2, 159)), (5, (0, 3, 160)), (6, (0, 0, 0)), (7, (0, 1, 320)), (8, (0, 3, 160)), (9, (0, 3, 160))], [(3, 7, 0), (4, 5, (-1)), (4, 8, (-1)), (4, 9, (-1)), (5, 9, 0), (9, 5, 0)], [(0, 1, 2), (0, 2, 7), (0, 3, 8), (2, 1, 9)], [], [], [], none), (8, [], [6], [(0, (2, 18, 0)), (1, (0, 0, 0)), (2, (2, 12, 0)), (3, (0, 1, 320)), (4, (0, 2, 160)), (5, (0, 2, 160)), (6, (0, 0, 0)), (7, (0, 2, 160))], [(4, 7, 0)], [(0, 1, 2), (0, 2, 3), (0, 3, 7), (2, 1, 5)], [], [], [], none)], [(18, 2), (18, 3), (20, 0)], 0, 0)
set_option maxRecDepth 100000 in
def qP140 : zk_P := ([(25, 6, 3, 0)], [], [], [], [], [(2, qC139), (20, qC36), (50, qC139), (64, qC47)], [])
set_option maxRecDepth 100000 in
def qH140 : List zk_Hd := [(12, (10, [(0, 0), (1, 1), (2, 6)], [], [(0, (2, 18, 0)), (1, (0, 0, 0)), (2, (2, 12, 0)), (3, (0, 1, 320)), (4, (0, 2, 159)), (5, (0, 3, 160)), (6, (0, 0, 160)), (7, (0, 1, 320)), (8, (0, 2, 160)), (9, (0, 3, 160))], [(3, 7, 0), (4, 5, (-1)), (4, 8, 0), (4, 9, (-1)), (5, 9, 0), (9, 5, 0)], [(0, 1, 2), (0, 2, 7), (0, 3, 8), (2, 1, 9)], [], [], [], none), [(1, none, none), (161, none, some 8), (1, none, none)], 0, 0)]
set_option maxRecDepth 100000 in
def qX140 : List zk_Hd := []
set_option maxRecDepth 100000 in
theorem qk140 : zk_chk qK qP140 prog_8_method_12_code 4 qC140 (some .boolean) qH140 qX140 90 3 = true := zk_chkD_ok (T := qdt_8_12) qdo_8_12 (by decide +kernel)
set_option maxRecDepth 100000 in
/-- UnaskedLetters$RuleReader.isComparison(I)Z  -/
def qC141 : zk_C := ((1, [], [0], [(0, (0, (-1), 255))], [], [], [], [], [], none), [(2, [], [1], [(0, (0, 61, 61)), (1, (0, 1, 1))], [], [], [], [], [], none), (2, [], [1], [(0, (0, 60, 60)), (1, (0, 1, 1))], [], [], [], [], [], none), (2, [], [1], [(0, (0, (-1), 255)), (1, (0, 0, 0))], [], [], [], [], [(2, 0, 60, 0), (2, 0, 61, 0), (2, 0, 62, 0)], none), (2, [], [1], [(0, (0, 62, 62)), (1, (0, 1, 1))], [], [], [], [], [], none)], [], 0, 0)
set_option maxRecDepth 100000 in
def qP141 : zk_P := ([], [], [], [], [], [], [])
set_option maxRecDepth 100000 in
def qH141 : List zk_Hd := []
set_option maxRecDepth 100000 in
def qX141 : List zk_Hd := []
set_option maxRecDepth 100000 in
theorem qk141 : zk_chk qK qP141 prog_8_method_8_code 1 qC141 (some .boolean) qH141 qX141 72 0 = true := zk_chkD_ok (T := qdt_8_8) qdo_8_8 (by decide +kernel)
set_option maxRecDepth 100000 in
/-- UnaskedLetters$RuleReader.readUnit(IZ)Z #6 -/
def qC142 : zk_C := ((7, [], [0, 1, 2], [(0, (2, 18, 0)), (1, (0, 6, 6)), (2, (0, 0, 0)), (3, (2, 12, 0)), (4, (0, 1, 320)), (5, (0, 8, 160)), (6, (0, 8, 160))], [(5, 6, 0)], [(0, 1, 3), (0, 2, 4), (0, 3, 5), (3, 1, 6)], [], [], [], none), [(11, [], [7], [(0, (2, 18, 0)), (1, (0, 6, 6)), (2, (0, 0, 0)), (3, (2, 12, 0)), (4, (0, 1, 320)), (5, (0, 8, 159)), (6, (0, 9, 160)), (7, (0, 0, 0)), (8, (0, 1, 320)), (9, (0, 8, 160)), (10, (0, 9, 160))], [(4, 8, 0), (5, 6, (-1)), (5, 9, 0), (5, 10, (-1)), (6, 10, 0), (10, 6, 0)], [(0, 1, 3), (0, 2, 8), (0, 3, 9), (3, 1, 10)], [], [], [], none), (11, [], [7], [(0, (2, 18, 0)), (1, (0, 6, 6)), (2, (0, 0, 0)), (3, (2, 12, 0)), (4, (0, 1, 320)), (5, (0, 8, 159)), (6, (0, 9, 160)), (7, (0, 1, 1)), (8, (0, 320, 320)), (9, (0, 9, 160)), (10, (0, 10, 160))], [(5, 6, (-1)), (5, 9, (-1)), (5, 10, (-2)), (6, 10, 0), (10, 6, 0)], [(0, 1, 3), (0, 2, 8), (0, 3, 9), (3, 1, 10)], [], [], [], none), (11, [], [7], [(0, (2, 18, 0)), (1, (0, 6, 6)), (2, (0, 0, 0)), (3, (2, 12, 0)), (4, (0, 1, 319)), (5, (0, 8, 159)), (6, (0, 9, 160)), (7, (0, 1, 1)), (8, (0, 2, 320)), (9, (0, 9, 160)), (10, (0, 10, 160))], [(4, 8, (-1)), (5, 6, (-1)), (5, 9, (-1)), (5, 10, (-2)), (6, 10, 0), (10, 6, 0)], [(0, 1, 3), (0, 2, 8), (0, 3, 9), (3, 1, 10)], [], [], [], none), (9, [], [7], [(0, (2, 18, 0)), (1, (0, 6, 6)), (2, (0, 0, 0)), (3, (2, 12, 0)), (4, (0, 1, 320)), (5, (0, 8, 160)), (6, (0, 8, 160)), (7, (0, 0, 0)), (8, (0, 8, 160))], [(5, 6, 0), (5, 8, 0)], [(0, 1, 3), (0, 2, 4), (0, 3, 8), (3, 1, 6)], [], [], [], none)], [(18, 2), (18, 3), (20, 0)], 0, 0)
set_option maxRecDepth 100000 in
def qP142 : zk_P := ([(25, 6, 3, 0)], [], [], [], [], [(1, qC36), (99, qC62), (108, qC36), (115, qC141), (135, qC62), (150, qC47)], [])
set_option maxRecDepth 100000 in
def qH142 : List zk_Hd := []
set_option maxRecDepth 100000 in
def qX142 : List zk_Hd := []
set_option maxRecDepth 100000 in
theorem qk142 : zk_chk qK qP142 prog_8_method_11_code 5 qC142 (some .boolean) qH142 qX142 100 0 = true := zk_chkD_ok (T := qdt_8_11) qdo_8_11 (by decide +kernel)
end
