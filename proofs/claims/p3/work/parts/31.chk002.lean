/-! CONTRACTS: found by wip/an (python). -/
noncomputable section
set_option maxRecDepth 100000 in
/-- UnaskedLetters$RuleReader.readTerm(I)Z #5 -/
def qC74 : zk_C := ((6, [], [0, 1], [(0, (2, 18, 0)), (1, (0, 5, 5)), (2, (2, 12, 0)), (3, (0, 0, 320)), (4, (0, 7, 160)), (5, (0, 7, 160))], [], [(0, 1, 2), (0, 2, 3), (0, 3, 4), (2, 1, 5)], [], [], [], none), [(10, [], [6], [(0, (2, 18, 0)), (1, (0, 5, 5)), (2, (2, 12, 0)), (3, (0, 0, 320)), (4, (0, 7, 159)), (5, (0, 8, 160)), (6, (0, 1, 1)), (7, (0, 1, 320)), (8, (0, 7, 160)), (9, (0, 8, 160))], [(3, 7, 0), (4, 5, (-1)), (4, 8, 0), (4, 9, (-1)), (5, 9, 0), (9, 5, 0)], [(0, 1, 2), (0, 2, 7), (0, 3, 8), (2, 1, 9)], [], [], [], none), (10, [], [6], [(0, (2, 18, 0)), (1, (0, 5, 5)), (2, (2, 12, 0)), (3, (0, 0, 320)), (4, (0, 7, 159)), (5, (0, 8, 160)), (6, (0, 0, 0)), (7, (0, 1, 320)), (8, (0, 8, 160)), (9, (0, 8, 160))], [(3, 7, 0), (4, 5, (-1)), (4, 8, (-1)), (4, 9, (-1)), (5, 9, 0), (9, 5, 0)], [(0, 1, 2), (0, 2, 7), (0, 3, 8), (2, 1, 9)], [], [], [], none), (8, [], [6], [(0, (2, 18, 0)), (1, (0, 5, 5)), (2, (2, 12, 0)), (3, (0, 0, 320)), (4, (0, 7, 160)), (5, (0, 7, 160)), (6, (0, 0, 0)), (7, (0, 7, 160))], [(4, 7, 0)], [(0, 1, 2), (0, 2, 3), (0, 3, 7), (2, 1, 5)], [], [], [], none)], [(18, 2), (18, 3), (20, 0)], 0, 0)
set_option maxRecDepth 100000 in
def qP74 : zk_P := ([(25, 6, 3, 0)], [], [], [], [], [(2, qC73), (20, qC36), (50, qC73), (64, qC47)], [])
set_option maxRecDepth 100000 in
def qH74 : List zk_Hd := [(12, (10, [(0, 0), (1, 1), (2, 6)], [], [(0, (2, 18, 0)), (1, (0, 5, 5)), (2, (2, 12, 0)), (3, (0, 0, 320)), (4, (0, 7, 159)), (5, (0, 8, 160)), (6, (0, 0, 160)), (7, (0, 1, 320)), (8, (0, 7, 160)), (9, (0, 8, 160))], [(3, 7, 0), (4, 5, (-1)), (4, 8, 0), (4, 9, (-1)), (5, 9, 0), (8, 5, 0), (8, 9, 0), (9, 5, 0)], [(0, 1, 2), (0, 2, 7), (0, 3, 8), (2, 1, 9)], [], [], [], none), [(1, none, none), (161, none, some 8), (1, none, none)], 0, 0)]
set_option maxRecDepth 100000 in
def qX74 : List zk_Hd := []
set_option maxRecDepth 100000 in
theorem qk74 : zk_chk qK qP74 prog_8_method_13_code 4 qC74 (some .boolean) qH74 qX74 90 3 = true := zk_chkD_ok (T := qdt_8_13) qdo_8_13 (by decide +kernel)
set_option maxRecDepth 100000 in
/-- UnaskedLetters$RuleReader.readSum(I)Z #5 -/
def qC75 : zk_C := ((6, [], [0, 1], [(0, (2, 18, 0)), (1, (0, 5, 5)), (2, (2, 12, 0)), (3, (0, 0, 320)), (4, (0, 7, 160)), (5, (0, 7, 160))], [], [(0, 1, 2), (0, 2, 3), (0, 3, 4), (2, 1, 5)], [], [], [], none), [(10, [], [6], [(0, (2, 18, 0)), (1, (0, 5, 5)), (2, (2, 12, 0)), (3, (0, 0, 320)), (4, (0, 7, 159)), (5, (0, 8, 160)), (6, (0, 1, 1)), (7, (0, 1, 320)), (8, (0, 7, 160)), (9, (0, 8, 160))], [(3, 7, 0), (4, 5, (-1)), (4, 8, 0), (4, 9, (-1)), (5, 9, 0), (9, 5, 0)], [(0, 1, 2), (0, 2, 7), (0, 3, 8), (2, 1, 9)], [], [], [], none), (10, [], [6], [(0, (2, 18, 0)), (1, (0, 5, 5)), (2, (2, 12, 0)), (3, (0, 0, 320)), (4, (0, 7, 159)), (5, (0, 8, 160)), (6, (0, 0, 0)), (7, (0, 1, 320)), (8, (0, 8, 160)), (9, (0, 8, 160))], [(3, 7, 0), (4, 5, (-1)), (4, 8, (-1)), (4, 9, (-1)), (5, 9, 0), (9, 5, 0)], [(0, 1, 2), (0, 2, 7), (0, 3, 8), (2, 1, 9)], [], [], [], none), (8, [], [6], [(0, (2, 18, 0)), (1, (0, 5, 5)), (2, (2, 12, 0)), (3, (0, 0, 320)), (4, (0, 7, 160)), (5, (0, 7, 160)), (6, (0, 0, 0)), (7, (0, 7, 160))], [(4, 7, 0)], [(0, 1, 2), (0, 2, 3), (0, 3, 7), (2, 1, 5)], [], [], [], none)], [(18, 2), (18, 3), (20, 0)], 0, 0)
set_option maxRecDepth 100000 in
def qP75 : zk_P := ([(25, 6, 3, 0)], [], [], [], [], [(2, qC74), (20, qC36), (50, qC74), (64, qC47)], [])
set_option maxRecDepth 100000 in
def qH75 : List zk_Hd := [(12, (10, [(0, 0), (1, 1), (2, 6)], [], [(0, (2, 18, 0)), (1, (0, 5, 5)), (2, (2, 12, 0)), (3, (0, 0, 320)), (4, (0, 7, 159)), (5, (0, 8, 160)), (6, (0, 0, 160)), (7, (0, 1, 320)), (8, (0, 7, 160)), (9, (0, 8, 160))], [(3, 7, 0), (4, 5, (-1)), (4, 8, 0), (4, 9, (-1)), (5, 9, 0), (9, 5, 0)], [(0, 1, 2), (0, 2, 7), (0, 3, 8), (2, 1, 9)], [], [], [], none), [(1, none, none), (161, none, some 8), (1, none, none)], 0, 0)]
set_option maxRecDepth 100000 in
def qX75 : List zk_Hd := []
set_option maxRecDepth 100000 in
theorem qk75 : zk_chk qK qP75 prog_8_method_12_code 4 qC75 (some .boolean) qH75 qX75 90 3 = true := zk_chkD_ok (T := qdt_8_12) qdo_8_12 (by decide +kernel)
set_option maxRecDepth 100000 in
/-- java/lang/String.isLatin1()Z java/lang/String.indexOf(II)I@1java/lang/String.indexOf(I)I@3UnaskedLetters$RuleReader.readAtom(I)Z@84#4 -/
def qC76 : zk_C := ((1, [], [0], [(0, (2, 24, 0))], [], [], [], [], [], none), [(2, [], [1], [(0, (2, 24, 0)), (1, (0, 1, 1))], [], [], [], [], [], none)], [], 0, 0)
set_option maxRecDepth 100000 in
def qP76 : zk_P := ([(15, 13, 1, 4)], [], [], [], [(0, 3, (0, 1, 1))], [], [])
set_option maxRecDepth 100000 in
def qH76 : List zk_Hd := []
set_option maxRecDepth 100000 in
def qX76 : List zk_Hd := []
set_option maxRecDepth 100000 in
theorem qk76 : zk_chk qK qP76 prog_19_method_154_code 1 qC76 (some .boolean) qH76 qX76 68 0 = true := zk_chkD_ok (T := qdt_19_154) qdo_19_154 (by decide +kernel)
set_option maxRecDepth 100000 in
/-- java/lang/String.coder()B java/lang/String.length()I@6java/lang/String.indexOf(II)I@14java/lang/String.indexOf(I)I@3UnaskedLetters$RuleReader.readAtom(I)Z@84#4 -/
def qC77 : zk_C := ((1, [], [0], [(0, (2, 24, 0))], [], [], [], [], [], none), [(2, [], [1], [(0, (2, 24, 0)), (1, (0, 0, 0))], [], [], [], [], [], none)], [], 0, 0)
set_option maxRecDepth 100000 in
def qP77 : zk_P := ([(15, 13, 1, 4)], [], [], [], [(0, 3, (0, 1, 1))], [], [])
set_option maxRecDepth 100000 in
def qH77 : List zk_Hd := []
set_option maxRecDepth 100000 in
def qX77 : List zk_Hd := []
set_option maxRecDepth 100000 in
theorem qk77 : zk_chk qK qP77 prog_19_method_152_code 1 qC77 (some .byte) qH77 qX77 66 0 = true := zk_chkD_ok (T := qdt_19_152) qdo_19_152 (by decide +kernel)
set_option maxRecDepth 100000 in
/-- java/lang/String.length()I java/lang/String.indexOf(II)I@14java/lang/String.indexOf(I)I@3UnaskedLetters$RuleReader.readAtom(I)Z@84#4 -/
def qC78 : zk_C := ((1, [], [0], [(0, (2, 24, 0))], [], [], [], [], [], none), [(2, [], [1], [(0, (2, 24, 0)), (1, (0, 12, 12))], [], [], [], [], [], none)], [], 0, 0)
set_option maxRecDepth 100000 in
def qP78 : zk_P := ([(9, 13, 0, 4)], [], [], [], [], [(6, qC77)], [])
set_option maxRecDepth 100000 in
def qH78 : List zk_Hd := []
set_option maxRecDepth 100000 in
def qX78 : List zk_Hd := []
set_option maxRecDepth 100000 in
theorem qk78 : zk_chk qK qP78 prog_19_method_54_code 1 qC78 (some .int) qH78 qX78 67 0 = true := zk_chkD_ok (T := qdt_19_54) qdo_19_54 (by decide +kernel)
set_option maxRecDepth 100000 in
/-- java/lang/StringLatin1.canEncode(I)Z java/lang/StringLatin1.indexOf([BIII)I@1java/lang/String.indexOf(II)I@17java/lang/String.indexOf(I)I@3UnaskedLetters$RuleReader.readAtom(I)Z@84#4 -/
def qC79 : zk_C := ((1, [], [0], [(0, (0, 0, 255))], [], [], [], [], [], none), [(2, [], [1], [(0, (0, 0, 255)), (1, (0, 1, 1))], [], [], [], [], [], none)], [], 0, 0)
set_option maxRecDepth 100000 in
def qP79 : zk_P := ([], [], [], [], [], [], [])
set_option maxRecDepth 100000 in
def qH79 : List zk_Hd := []
set_option maxRecDepth 100000 in
def qX79 : List zk_Hd := []
set_option maxRecDepth 100000 in
theorem qk79 : zk_chk qK qP79 prog_20_method_4_code 1 qC79 (some .boolean) qH79 qX79 68 0 = true := zk_chkD_ok (T := qdt_20_4) qdo_20_4 (by decide +kernel)
set_option maxRecDepth 100000 in
/-- java/lang/Math.max(II)I java/lang/StringLatin1.indexOf([BIII)I@11java/lang/String.indexOf(II)I@17java/lang/String.indexOf(I)I@3UnaskedLetters$RuleReader.readAtom(I)Z@84#4 -/
def qC80 : zk_C := ((2, [], [0, 1], [(0, (0, 0, 0)), (1, (0, 0, 0))], [], [], [], [], [], none), [(2, [], [0], [(0, (0, 0, 0)), (1, (0, 0, 0))], [], [], [], [], [], none)], [], 0, 0)
set_option maxRecDepth 100000 in
def qP80 : zk_P := ([], [], [], [], [], [], [])
set_option maxRecDepth 100000 in
def qH80 : List zk_Hd := []
set_option maxRecDepth 100000 in
def qX80 : List zk_Hd := []
set_option maxRecDepth 100000 in
theorem qk80 : zk_chk qK qP80 prog_18_method_65_code 2 qC80 (some .int) qH80 qX80 66 0 = true := zk_chkD_ok (T := qdt_18_65) qdo_18_65 (by decide +kernel)
set_option maxRecDepth 100000 in
/-- java/lang/Math.min(II)I java/lang/StringLatin1.indexOf([BIII)I@18java/lang/String.indexOf(II)I@17java/lang/String.indexOf(I)I@3UnaskedLetters$RuleReader.readAtom(I)Z@84#4 -/
def qC81 : zk_C := ((2, [], [0, 1], [(0, (0, 12, 12)), (1, (0, 12, 12))], [], [], [], [], [], none), [(2, [], [0], [(0, (0, 12, 12)), (1, (0, 12, 12))], [], [], [], [], [], none)], [], 0, 0)
set_option maxRecDepth 100000 in
def qP81 : zk_P := ([], [], [], [], [], [], [])
set_option maxRecDepth 100000 in
def qH81 : List zk_Hd := []
set_option maxRecDepth 100000 in
def qX81 : List zk_Hd := []
set_option maxRecDepth 100000 in
theorem qk81 : zk_chk qK qP81 prog_18_method_69_code 2 qC81 (some .int) qH81 qX81 66 0 = true := zk_chkD_ok (T := qdt_18_69) qdo_18_69 (by decide +kernel)
set_option maxRecDepth 100000 in
/-- java/lang/StringLatin1.indexOfChar([BIII)I java/lang/StringLatin1.indexOf([BIII)I@33java/lang/String.indexOf(II)I@17java/lang/String.indexOf(I)I@3UnaskedLetters$RuleReader.readAtom(I)Z@84#4 -/
def qC82 : zk_C := ((4, [], [0, 1, 2, 3], [(0, (2, 23, 0)), (1, (0, 0, 255)), (2, (0, 0, 0)), (3, (0, 12, 12))], [], [], [], [], [], none), [(5, [], [4], [(0, (2, 23, 0)), (1, (0, 0, 255)), (2, (0, 0, 0)), (3, (0, 12, 12)), (4, (0, (-1), (-1)))], [], [], [], [], [], none), (5, [], [4], [(0, (2, 23, 0)), (1, (0, 0, 255)), (2, (0, 0, 0)), (3, (0, 12, 12)), (4, (0, 0, 11))], [], [], [], [], [], none)], [], 0, 0)
set_option maxRecDepth 100000 in
def qP82 : zk_P := ([], [], [], [], [], [], [])
set_option maxRecDepth 100000 in
def qH82 : List zk_Hd := [(7, (6, [(0, 0), (3, 3), (4, 4), (5, 5)], [], [(0, (2, 23, 0)), (1, (0, 0, 255)), (2, (0, 0, 0)), (3, (0, 12, 12)), (4, (0, (-128), 127)), (5, (0, 0, 12))], [], [], [], [], [], none), [(1, none, none), (13, none, some 5), (1, none, none)], 0, 0)]
set_option maxRecDepth 100000 in
def qX82 : List zk_Hd := []
set_option maxRecDepth 100000 in
theorem qk82 : zk_chk qK qP82 prog_20_method_23_code 6 qC82 (some .int) qH82 qX82 71 3 = true := zk_chkD_ok (T := qdt_20_23) qdo_20_23 (by decide +kernel)
set_option maxRecDepth 100000 in
/-- java/lang/StringLatin1.indexOf([BIII)I java/lang/String.indexOf(II)I@17java/lang/String.indexOf(I)I@3UnaskedLetters$RuleReader.readAtom(I)Z@84#4 -/
def qC83 : zk_C := ((4, [], [0, 1, 2, 3], [(0, (2, 23, 0)), (1, (0, 0, 255)), (2, (0, 0, 0)), (3, (0, 12, 12))], [], [], [], [], [], none), [(5, [], [4], [(0, (2, 23, 0)), (1, (0, 0, 255)), (2, (0, 0, 0)), (3, (0, 12, 12)), (4, (0, (-1), (-1)))], [], [], [], [], [], none), (5, [], [4], [(0, (2, 23, 0)), (1, (0, 0, 255)), (2, (0, 0, 0)), (3, (0, 12, 12)), (4, (0, 0, 11))], [], [], [], [], [], none)], [], 0, 0)
set_option maxRecDepth 100000 in
def qP83 : zk_P := ([], [], [], [], [], [(1, qC79), (11, qC80), (18, qC81), (33, qC82)], [])
set_option maxRecDepth 100000 in
def qH83 : List zk_Hd := []
set_option maxRecDepth 100000 in
def qX83 : List zk_Hd := []
set_option maxRecDepth 100000 in
theorem qk83 : zk_chk qK qP83 prog_20_method_22_code 4 qC83 (some .int) qH83 qX83 81 0 = true := zk_chkD_ok (T := qdt_20_22) qdo_20_22 (by decide +kernel)
set_option maxRecDepth 100000 in
/-- java/lang/String.indexOf(II)I java/lang/String.indexOf(I)I@3UnaskedLetters$RuleReader.readAtom(I)Z@84#4 -/
def qC84 : zk_C := ((3, [], [0, 1, 2], [(0, (2, 24, 0)), (1, (0, 0, 255)), (2, (0, 0, 0))], [], [], [], [], [], none), [(4, [], [3], [(0, (2, 24, 0)), (1, (0, 0, 255)), (2, (0, 0, 0)), (3, (0, (-1), (-1)))], [], [], [], [], [], none), (4, [], [3], [(0, (2, 24, 0)), (1, (0, 0, 255)), (2, (0, 0, 0)), (3, (0, 0, 11))], [], [], [], [], [], none)], [], 0, 0)
set_option maxRecDepth 100000 in
def qP84 : zk_P := ([(9, 13, 0, 4)], [], [], [], [], [(1, qC76), (14, qC78), (17, qC83)], [])
set_option maxRecDepth 100000 in
def qH84 : List zk_Hd := []
set_option maxRecDepth 100000 in
def qX84 : List zk_Hd := []
set_option maxRecDepth 100000 in
theorem qk84 : zk_chk qK qP84 prog_19_method_80_code 3 qC84 (some .int) qH84 qX84 72 0 = true := zk_chkD_ok (T := qdt_19_80) qdo_19_80 (by decide +kernel)
set_option maxRecDepth 100000 in
/-- java/lang/String.indexOf(I)I UnaskedLetters$RuleReader.readAtom(I)Z@84#4 -/
def qC85 : zk_C := ((2, [], [0, 1], [(0, (2, 24, 0)), (1, (0, 0, 255))], [], [], [], [], [], none), [(3, [], [2], [(0, (2, 24, 0)), (1, (0, 0, 255)), (2, (0, (-1), (-1)))], [], [], [], [], [], none), (3, [], [2], [(0, (2, 24, 0)), (1, (0, 0, 255)), (2, (0, 0, 11))], [], [], [], [], [], none)], [], 0, 0)
set_option maxRecDepth 100000 in
def qP85 : zk_P := ([], [], [], [], [], [(3, qC84)], [])
set_option maxRecDepth 100000 in
def qH85 : List zk_Hd := []
set_option maxRecDepth 100000 in
def qX85 : List zk_Hd := []
set_option maxRecDepth 100000 in
theorem qk85 : zk_chk qK qP85 prog_19_method_79_code 2 qC85 (some .int) qH85 qX85 65 0 = true := zk_chkD_ok (T := qdt_19_79) qdo_19_79 (by decide +kernel)
set_option maxRecDepth 100000 in
/-- UnaskedLetters$RuleReader.readAtom(I)Z #4 -/
def qC86 : zk_C := ((6, [], [0, 1], [(0, (2, 18, 0)), (1, (0, 4, 4)), (2, (2, 12, 0)), (3, (0, 0, 320)), (4, (0, 6, 160)), (5, (0, 6, 160))], [], [(0, 1, 2), (0, 2, 3), (0, 3, 4), (2, 1, 5)], [], [], [], none), [(8, [], [6], [(0, (2, 18, 0)), (1, (0, 4, 4)), (2, (2, 12, 0)), (3, (0, 0, 320)), (4, (0, 6, 160)), (5, (0, 6, 160)), (6, (0, 0, 0)), (7, (0, 6, 160))], [(4, 7, 0)], [(0, 1, 2), (0, 2, 3), (0, 3, 7), (2, 1, 5)], [], [], [], none), (9, [], [6], [(0, (2, 18, 0)), (1, (0, 4, 4)), (2, (2, 12, 0)), (3, (0, 320, 320)), (4, (0, 6, 159)), (5, (0, 7, 160)), (6, (0, 1, 1)), (7, (0, 7, 160)), (8, (0, 7, 160))], [(4, 5, (-1)), (4, 7, (-1)), (4, 8, (-1)), (5, 8, 0), (7, 5, 0), (7, 8, 0), (8, 5, 0)], [(0, 1, 2), (0, 2, 3), (0, 3, 7), (2, 1, 8)], [], [], [], none), (10, [], [6], [(0, (2, 18, 0)), (1, (0, 4, 4)), (2, (2, 12, 0)), (3, (0, 0, 319)), (4, (0, 6, 159)), (5, (0, 7, 160)), (6, (0, 1, 1)), (7, (0, 1, 320)), (8, (0, 7, 160)), (9, (0, 7, 160))], [(3, 7, (-1)), (4, 5, (-1)), (4, 8, (-1)), (4, 9, (-1)), (5, 9, 0), (7, 3, 1), (8, 5, 0), (8, 9, 0), (9, 5, 0)], [(0, 1, 2), (0, 2, 7), (0, 3, 8), (2, 1, 9)], [], [], [], none), (10, [], [6], [(0, (2, 18, 0)), (1, (0, 4, 4)), (2, (2, 12, 0)), (3, (0, 0, 320)), (4, (0, 6, 158)), (5, (0, 8, 160)), (6, (0, 0, 0)), (7, (0, 1, 320)), (8, (0, 7, 160)), (9, (0, 8, 160))], [(3, 7, 0), (4, 5, (-2)), (4, 8, (-1)), (4, 9, (-2)), (5, 9, 0), (9, 5, 0)], [(0, 1, 2), (0, 2, 7), (0, 3, 8), (2, 1, 9)], [], [], [], none), (10, [], [6], [(0, (2, 18, 0)), (1, (0, 4, 4)), (2, (2, 12, 0)), (3, (0, 0, 320)), (4, (0, 6, 158)), (5, (0, 8, 160)), (6, (0, 1, 1)), (7, (0, 1, 320)), (8, (0, 8, 160)), (9, (0, 8, 160))], [(3, 7, 0), (4, 5, (-2)), (4, 8, (-2)), (4, 9, (-2)), (5, 9, 0), (8, 5, 0), (8, 9, 0), (9, 5, 0)], [(0, 1, 2), (0, 2, 7), (0, 3, 8), (2, 1, 9)], [], [], [], none), (9, [], [6], [(0, (2, 18, 0)), (1, (0, 4, 4)), (2, (2, 12, 0)), (3, (0, 320, 320)), (4, (0, 6, 159)), (5, (0, 7, 160)), (6, (0, 1, 1)), (7, (0, 6, 159)), (8, (0, 7, 160))], [(4, 5, (-1)), (4, 7, 0), (4, 8, (-1)), (5, 8, 0), (7, 5, (-1)), (7, 8, (-1)), (8, 5, 0)], [(0, 1, 2), (0, 2, 3), (0, 3, 7), (2, 1, 8)], [], [], [], none), (10, [], [6], [(0, (2, 18, 0)), (1, (0, 4, 4)), (2, (2, 12, 0)), (3, (0, 0, 319)), (4, (0, 6, 159)), (5, (0, 7, 160)), (6, (0, 1, 1)), (7, (0, 1, 320)), (8, (0, 6, 159)), (9, (0, 7, 160))], [(3, 7, (-1)), (4, 5, (-1)), (4, 8, 0), (4, 9, (-1)), (5, 9, 0), (7, 3, 1), (8, 5, (-1)), (8, 9, (-1)), (9, 5, 0)], [(0, 1, 2), (0, 2, 7), (0, 3, 8), (2, 1, 9)], [], [], [], none)], [(18, 2), (18, 3), (20, 0)], 0, 0)
set_option maxRecDepth 100000 in
def qP86 : zk_P := ([(25, 6, 3, 0)], [], [], [], [(80, 2, (2, 24, 0))], [(1, qC36), (18, qC49), (50, qC75), (59, qC48), (84, qC85), (110, qC47)], [])
set_option maxRecDepth 100000 in
def qH86 : List zk_Hd := []
set_option maxRecDepth 100000 in
def qX86 : List zk_Hd := []
set_option maxRecDepth 100000 in
theorem qk86 : zk_chk qK qP86 prog_8_method_14_code 4 qC86 (some .boolean) qH86 qX86 95 0 = true := zk_chkD_ok (T := qdt_8_14) qdo_8_14 (by decide +kernel)
set_option maxRecDepth 100000 in
/-- UnaskedLetters$RuleReader.readTerm(I)Z #4 -/
def qC87 : zk_C := ((6, [], [0, 1], [(0, (2, 18, 0)), (1, (0, 4, 4)), (2, (2, 12, 0)), (3, (0, 0, 320)), (4, (0, 6, 160)), (5, (0, 6, 160))], [], [(0, 1, 2), (0, 2, 3), (0, 3, 4), (2, 1, 5)], [], [], [], none), [(10, [], [6], [(0, (2, 18, 0)), (1, (0, 4, 4)), (2, (2, 12, 0)), (3, (0, 0, 320)), (4, (0, 6, 159)), (5, (0, 7, 160)), (6, (0, 1, 1)), (7, (0, 1, 320)), (8, (0, 6, 160)), (9, (0, 7, 160))], [(3, 7, 0), (4, 5, (-1)), (4, 8, 0), (4, 9, (-1)), (5, 9, 0), (9, 5, 0)], [(0, 1, 2), (0, 2, 7), (0, 3, 8), (2, 1, 9)], [], [], [], none), (10, [], [6], [(0, (2, 18, 0)), (1, (0, 4, 4)), (2, (2, 12, 0)), (3, (0, 0, 320)), (4, (0, 6, 159)), (5, (0, 7, 160)), (6, (0, 0, 0)), (7, (0, 1, 320)), (8, (0, 7, 160)), (9, (0, 7, 160))], [(3, 7, 0), (4, 5, (-1)), (4, 8, (-1)), (4, 9, (-1)), (5, 9, 0), (9, 5, 0)], [(0, 1, 2), (0, 2, 7), (0, 3, 8), (2, 1, 9)], [], [], [], none), (8, [], [6], [(0, (2, 18, 0)), (1, (0, 4, 4)), (2, (2, 12, 0)), (3, (0, 0, 320)), (4, (0, 6, 160)), (5, (0, 6, 160)), (6, (0, 0, 0)), (7, (0, 6, 160))], [(4, 7, 0)], [(0, 1, 2), (0, 2, 3), (0, 3, 7), (2, 1, 5)], [], [], [], none)], [(18, 2), (18, 3), (20, 0)], 0, 0)
set_option maxRecDepth 100000 in
def qP87 : zk_P := ([(25, 6, 3, 0)], [], [], [], [], [(2, qC86), (20, qC36), (50, qC86), (64, qC47)], [])
set_option maxRecDepth 100000 in
def qH87 : List zk_Hd := [(12, (10, [(0, 0), (1, 1), (2, 6)], [], [(0, (2, 18, 0)), (1, (0, 4, 4)), (2, (2, 12, 0)), (3, (0, 0, 320)), (4, (0, 6, 159)), (5, (0, 7, 160)), (6, (0, 0, 160)), (7, (0, 1, 320)), (8, (0, 6, 160)), (9, (0, 7, 160))], [(3, 7, 0), (4, 5, (-1)), (4, 8, 0), (4, 9, (-1)), (5, 9, 0), (8, 5, 0), (8, 9, 0), (9, 5, 0)], [(0, 1, 2), (0, 2, 7), (0, 3, 8), (2, 1, 9)], [], [], [], none), [(1, none, none), (161, none, some 8), (1, none, none)], 0, 0)]
set_option maxRecDepth 100000 in
def qX87 : List zk_Hd := []
set_option maxRecDepth 100000 in
theorem qk87 : zk_chk qK qP87 prog_8_method_13_code 4 qC87 (some .boolean) qH87 qX87 90 3 = true := zk_chkD_ok (T := qdt_8_13) qdo_8_13 (by decide +kernel)
set_option maxRecDepth 100000 in
/-- UnaskedLetters$RuleReader.readSum(I)Z #4 -/
def qC88 : zk_C := ((6, [], [0, 1], [(0, (2, 18, 0)), (1, (0, 4, 4)), (2, (2, 12, 0)), (3, (0, 0, 320)), (4, (0, 6, 160)), (5, (0, 6, 160))], [], [(0, 1, 2), (0, 2, 3), (0, 3, 4), (2, 1, 5)], [], [], [], none), [(10, [], [6], [(0, (2, 18, 0)), (1, (0, 4, 4)), (2, (2, 12, 0)), (3, (0, 0, 320)), (4, (0, 6, 159)), (5, (0, 7, 160)), (6, (0, 1, 1)), (7, (0, 1, 320)), (8, (0, 6, 160)), (9, (0, 7, 160))], [(3, 7, 0), (4, 5, (-1)), (4, 8, 0), (4, 9, (-1)), (5, 9, 0), (9, 5, 0)], [(0, 1, 2), (0, 2, 7), (0, 3, 8), (2, 1, 9)], [], [], [], none), (10, [], [6], [(0, (2, 18, 0)), (1, (0, 4, 4)), (2, (2, 12, 0)), (3, (0, 0, 320)), (4, (0, 6, 159)), (5, (0, 7, 160)), (6, (0, 0, 0)), (7, (0, 1, 320)), (8, (0, 7, 160)), (9, (0, 7, 160))], [(3, 7, 0), (4, 5, (-1)), (4, 8, (-1)), (4, 9, (-1)), (5, 9, 0), (9, 5, 0)], [(0, 1, 2), (0, 2, 7), (0, 3, 8), (2, 1, 9)], [], [], [], none), (8, [], [6], [(0, (2, 18, 0)), (1, (0, 4, 4)), (2, (2, 12, 0)), (3, (0, 0, 320)), (4, (0, 6, 160)), (5, (0, 6, 160)), (6, (0, 0, 0)), (7, (0, 6, 160))], [(4, 7, 0)], [(0, 1, 2), (0, 2, 3), (0, 3, 7), (2, 1, 5)], [], [], [], none)], [(18, 2), (18, 3), (20, 0)], 0, 0)
set_option maxRecDepth 100000 in
def qP88 : zk_P := ([(25, 6, 3, 0)], [], [], [], [], [(2, qC87), (20, qC36), (50, qC87), (64, qC47)], [])
set_option maxRecDepth 100000 in
def qH88 : List zk_Hd := [(12, (10, [(0, 0), (1, 1), (2, 6)], [], [(0, (2, 18, 0)), (1, (0, 4, 4)), (2, (2, 12, 0)), (3, (0, 0, 320)), (4, (0, 6, 159)), (5, (0, 7, 160)), (6, (0, 0, 160)), (7, (0, 1, 320)), (8, (0, 6, 160)), (9, (0, 7, 160))], [(3, 7, 0), (4, 5, (-1)), (4, 8, 0), (4, 9, (-1)), (5, 9, 0), (9, 5, 0)], [(0, 1, 2), (0, 2, 7), (0, 3, 8), (2, 1, 9)], [], [], [], none), [(1, none, none), (161, none, some 8), (1, none, none)], 0, 0)]
set_option maxRecDepth 100000 in
def qX88 : List zk_Hd := []
set_option maxRecDepth 100000 in
theorem qk88 : zk_chk qK qP88 prog_8_method_12_code 4 qC88 (some .boolean) qH88 qX88 90 3 = true := zk_chkD_ok (T := qdt_8_12) qdo_8_12 (by decide +kernel)
set_option maxRecDepth 100000 in
/-- java/lang/String.isLatin1()Z java/lang/String.indexOf(II)I@1java/lang/String.indexOf(I)I@3UnaskedLetters$RuleReader.readAtom(I)Z@84#3 -/
def qC89 : zk_C := ((1, [], [0], [(0, (2, 24, 0))], [], [], [], [], [], none), [(2, [], [1], [(0, (2, 24, 0)), (1, (0, 1, 1))], [], [], [], [], [], none)], [], 0, 0)
set_option maxRecDepth 100000 in
def qP89 : zk_P := ([(15, 13, 1, 4)], [], [], [], [(0, 3, (0, 1, 1))], [], [])
set_option maxRecDepth 100000 in
def qH89 : List zk_Hd := []
set_option maxRecDepth 100000 in
def qX89 : List zk_Hd := []
set_option maxRecDepth 100000 in
theorem qk89 : zk_chk qK qP89 prog_19_method_154_code 1 qC89 (some .boolean) qH89 qX89 68 0 = true := zk_chkD_ok (T := qdt_19_154) qdo_19_154 (by decide +kernel)
set_option maxRecDepth 100000 in
/-- java/lang/String.coder()B java/lang/String.length()I@6java/lang/String.indexOf(II)I@14java/lang/String.indexOf(I)I@3UnaskedLetters$RuleReader.readAtom(I)Z@84#3 -/
def qC90 : zk_C := ((1, [], [0], [(0, (2, 24, 0))], [], [], [], [], [], none), [(2, [], [1], [(0, (2, 24, 0)), (1, (0, 0, 0))], [], [], [], [], [], none)], [], 0, 0)
set_option maxRecDepth 100000 in
def qP90 : zk_P := ([(15, 13, 1, 4)], [], [], [], [(0, 3, (0, 1, 1))], [], [])
set_option maxRecDepth 100000 in
def qH90 : List zk_Hd := []
set_option maxRecDepth 100000 in
def qX90 : List zk_Hd := []
set_option maxRecDepth 100000 in
theorem qk90 : zk_chk qK qP90 prog_19_method_152_code 1 qC90 (some .byte) qH90 qX90 66 0 = true := zk_chkD_ok (T := qdt_19_152) qdo_19_152 (by decide +kernel)
set_option maxRecDepth 100000 in
/-- java/lang/String.length()I java/lang/String.indexOf(II)I@14java/lang/String.indexOf(I)I@3UnaskedLetters$RuleReader.readAtom(I)Z@84#3 -/
def qC91 : zk_C := ((1, [], [0], [(0, (2, 24, 0))], [], [], [], [], [], none), [(2, [], [1], [(0, (2, 24, 0)), (1, (0, 12, 12))], [], [], [], [], [], none)], [], 0, 0)
set_option maxRecDepth 100000 in
def qP91 : zk_P := ([(9, 13, 0, 4)], [], [], [], [], [(6, qC90)], [])
set_option maxRecDepth 100000 in
def qH91 : List zk_Hd := []
set_option maxRecDepth 100000 in
def qX91 : List zk_Hd := []
set_option maxRecDepth 100000 in
theorem qk91 : zk_chk qK qP91 prog_19_method_54_code 1 qC91 (some .int) qH91 qX91 67 0 = true := zk_chkD_ok (T := qdt_19_54) qdo_19_54 (by decide +kernel)
set_option maxRecDepth 100000 in
/-- java/lang/StringLatin1.canEncode(I)Z java/lang/StringLatin1.indexOf([BIII)I@1java/lang/String.indexOf(II)I@17java/lang/String.indexOf(I)I@3UnaskedLetters$RuleReader.readAtom(I)Z@84#3 -/
def qC92 : zk_C := ((1, [], [0], [(0, (0, 0, 255))], [], [], [], [], [], none), [(2, [], [1], [(0, (0, 0, 255)), (1, (0, 1, 1))], [], [], [], [], [], none)], [], 0, 0)
set_option maxRecDepth 100000 in
def qP92 : zk_P := ([], [], [], [], [], [], [])
set_option maxRecDepth 100000 in
def qH92 : List zk_Hd := []
set_option maxRecDepth 100000 in
def qX92 : List zk_Hd := []
set_option maxRecDepth 100000 in
theorem qk92 : zk_chk qK qP92 prog_20_method_4_code 1 qC92 (some .boolean) qH92 qX92 68 0 = true := zk_chkD_ok (T := qdt_20_4) qdo_20_4 (by decide +kernel)
set_option maxRecDepth 100000 in
/-- java/lang/Math.max(II)I java/lang/StringLatin1.indexOf([BIII)I@11java/lang/String.indexOf(II)I@17java/lang/String.indexOf(I)I@3UnaskedLetters$RuleReader.readAtom(I)Z@84#3 -/
def qC93 : zk_C := ((2, [], [0, 1], [(0, (0, 0, 0)), (1, (0, 0, 0))], [], [], [], [], [], none), [(2, [], [0], [(0, (0, 0, 0)), (1, (0, 0, 0))], [], [], [], [], [], none)], [], 0, 0)
set_option maxRecDepth 100000 in
def qP93 : zk_P := ([], [], [], [], [], [], [])
set_option maxRecDepth 100000 in
def qH93 : List zk_Hd := []
set_option maxRecDepth 100000 in
def qX93 : List zk_Hd := []
set_option maxRecDepth 100000 in
theorem qk93 : zk_chk qK qP93 prog_18_method_65_code 2 qC93 (some .int) qH93 qX93 66 0 = true := zk_chkD_ok (T := qdt_18_65) qdo_18_65 (by decide +kernel)
set_option maxRecDepth 100000 in
/-- java/lang/Math.min(II)I java/lang/StringLatin1.indexOf([BIII)I@18java/lang/String.indexOf(II)I@17java/lang/String.indexOf(I)I@3UnaskedLetters$RuleReader.readAtom(I)Z@84#3 -/
def qC94 : zk_C := ((2, [], [0, 1], [(0, (0, 12, 12)), (1, (0, 12, 12))], [], [], [], [], [], none), [(2, [], [0], [(0, (0, 12, 12)), (1, (0, 12, 12))], [], [], [], [], [], none)], [], 0, 0)
set_option maxRecDepth 100000 in
def qP94 : zk_P := ([], [], [], [], [], [], [])
set_option maxRecDepth 100000 in
def qH94 : List zk_Hd := []
set_option maxRecDepth 100000 in
def qX94 : List zk_Hd := []
set_option maxRecDepth 100000 in
theorem qk94 : zk_chk qK qP94 prog_18_method_69_code 2 qC94 (some .int) qH94 qX94 66 0 = true := zk_chkD_ok (T := qdt_18_69) qdo_18_69 (by decide +kernel)
set_option maxRecDepth 100000 in
/-- java/lang/StringLatin1.indexOfChar([BIII)I java/lang/StringLatin1.indexOf([BIII)I@33java/lang/String.indexOf(II)I@17java/lang/String.indexOf(I)I@3UnaskedLetters$RuleReader.readAtom(I)Z@84#3 -/
def qC95 : zk_C := ((4, [], [0, 1, 2, 3], [(0, (2, 23, 0)), (1, (0, 0, 255)), (2, (0, 0, 0)), (3, (0, 12, 12))], [], [], [], [], [], none), [(5, [], [4], [(0, (2, 23, 0)), (1, (0, 0, 255)), (2, (0, 0, 0)), (3, (0, 12, 12)), (4, (0, (-1), (-1)))], [], [], [], [], [], none), (5, [], [4], [(0, (2, 23, 0)), (1, (0, 0, 255)), (2, (0, 0, 0)), (3, (0, 12, 12)), (4, (0, 0, 11))], [], [], [], [], [], none)], [], 0, 0)
set_option maxRecDepth 100000 in
def qP95 : zk_P := ([], [], [], [], [], [], [])
set_option maxRecDepth 100000 in
def qH95 : List zk_Hd := [(7, (6, [(0, 0), (3, 3), (4, 4), (5, 5)], [], [(0, (2, 23, 0)), (1, (0, 0, 255)), (2, (0, 0, 0)), (3, (0, 12, 12)), (4, (0, (-128), 127)), (5, (0, 0, 12))], [], [], [], [], [], none), [(1, none, none), (13, none, some 5), (1, none, none)], 0, 0)]
set_option maxRecDepth 100000 in
def qX95 : List zk_Hd := []
set_option maxRecDepth 100000 in
theorem qk95 : zk_chk qK qP95 prog_20_method_23_code 6 qC95 (some .int) qH95 qX95 71 3 = true := zk_chkD_ok (T := qdt_20_23) qdo_20_23 (by decide +kernel)
set_option maxRecDepth 100000 in
/-- java/lang/StringLatin1.indexOf([BIII)I java/lang/String.indexOf(II)I@17java/lang/String.indexOf(I)I@3UnaskedLetters$RuleReader.readAtom(I)Z@84#3 -/
def qC96 : zk_C := ((4, [], [0, 1, 2, 3], [(0, (2, 23, 0)), (1, (0, 0, 255)), (2, (0, 0, 0)), (3, (0, 12, 12))], [], [], [], [], [], none), [(5, [], [4], [(0, (2, 23, 0)), (1, (0, 0, 255)), (2, (0, 0, 0)), (3, (0, 12, 12)), (4, (0, (-1), (-1)))], [], [], [], [], [], none), (5, [], [4], [(0, (2, 23, 0)), (1, (0, 0, 255)), (2, (0, 0, 0)), (3, (0, 12, 12)), (4, (0, 0, 11))], [], [], [], [], [], none)], [], 0, 0)
set_option maxRecDepth 100000 in
def qP96 : zk_P := ([], [], [], [], [], [(1, qC92), (11, qC93), (18, qC94), (33, qC95)], [])
set_option maxRecDepth 100000 in
def qH96 : List zk_Hd := []
set_option maxRecDepth 100000 in
def qX96 : List zk_Hd := []
set_option maxRecDepth 100000 in
theorem qk96 : zk_chk qK qP96 prog_20_method_22_code 4 qC96 (some .int) qH96 qX96 81 0 = true := zk_chkD_ok (T := qdt_20_22) qdo_20_22 (by decide +kernel)
set_option maxRecDepth 100000 in
/-- java/lang/String.indexOf(II)I java/lang/String.indexOf(I)I@3UnaskedLetters$RuleReader.readAtom(I)Z@84#3 -/
def qC97 : zk_C := ((3, [], [0, 1, 2], [(0, (2, 24, 0)), (1, (0, 0, 255)), (2, (0, 0, 0))], [], [], [], [], [], none), [(4, [], [3], [(0, (2, 24, 0)), (1, (0, 0, 255)), (2, (0, 0, 0)), (3, (0, (-1), (-1)))], [], [], [], [], [], none), (4, [], [3], [(0, (2, 24, 0)), (1, (0, 0, 255)), (2, (0, 0, 0)), (3, (0, 0, 11))], [], [], [], [], [], none)], [], 0, 0)
set_option maxRecDepth 100000 in
def qP97 : zk_P := ([(9, 13, 0, 4)], [], [], [], [], [(1, qC89), (14, qC91), (17, qC96)], [])
set_option maxRecDepth 100000 in
def qH97 : List zk_Hd := []
set_option maxRecDepth 100000 in
def qX97 : List zk_Hd := []
set_option maxRecDepth 100000 in
theorem qk97 : zk_chk qK qP97 prog_19_method_80_code 3 qC97 (some .int) qH97 qX97 72 0 = true := zk_chkD_ok (T := qdt_19_80) qdo_19_80 (by decide +kernel)
set_option maxRecDepth 100000 in
/-- java/lang/String.indexOf(I)I UnaskedLetters$RuleReader.readAtom(I)Z@84#3 -/
def qC98 : zk_C := ((2, [], [0, 1], [(0, (2, 24, 0)), (1, (0, 0, 255))], [], [], [], [], [], none), [(3, [], [2], [(0, (2, 24, 0)), (1, (0, 0, 255)), (2, (0, (-1), (-1)))], [], [], [], [], [], none), (3, [], [2], [(0, (2, 24, 0)), (1, (0, 0, 255)), (2, (0, 0, 11))], [], [], [], [], [], none)], [], 0, 0)
set_option maxRecDepth 100000 in
def qP98 : zk_P := ([], [], [], [], [], [(3, qC97)], [])
set_option maxRecDepth 100000 in
def qH98 : List zk_Hd := []
set_option maxRecDepth 100000 in
def qX98 : List zk_Hd := []
set_option maxRecDepth 100000 in
theorem qk98 : zk_chk qK qP98 prog_19_method_79_code 2 qC98 (some .int) qH98 qX98 65 0 = true := zk_chkD_ok (T := qdt_19_79) qdo_19_79 (by decide +kernel)
set_option maxRecDepth 100000 in
/-- UnaskedLetters$RuleReader.readAtom(I)Z #3 -/
def qC99 : zk_C := ((6, [], [0, 1], [(0, (2, 18, 0)), (1, (0, 3, 3)), (2, (2, 12, 0)), (3, (0, 0, 320)), (4, (0, 5, 160)), (5, (0, 5, 160))], [], [(0, 1, 2), (0, 2, 3), (0, 3, 4), (2, 1, 5)], [], [], [], none), [(8, [], [6], [(0, (2, 18, 0)), (1, (0, 3, 3)), (2, (2, 12, 0)), (3, (0, 0, 320)), (4, (0, 5, 160)), (5, (0, 5, 160)), (6, (0, 0, 0)), (7, (0, 5, 160))], [(4, 7, 0)], [(0, 1, 2), (0, 2, 3), (0, 3, 7), (2, 1, 5)], [], [], [], none), (9, [], [6], [(0, (2, 18, 0)), (1, (0, 3, 3)), (2, (2, 12, 0)), (3, (0, 320, 320)), (4, (0, 5, 159)), (5, (0, 6, 160)), (6, (0, 1, 1)), (7, (0, 6, 160)), (8, (0, 6, 160))], [(4, 5, (-1)), (4, 7, (-1)), (4, 8, (-1)), (5, 8, 0), (7, 5, 0), (7, 8, 0), (8, 5, 0)], [(0, 1, 2), (0, 2, 3), (0, 3, 7), (2, 1, 8)], [], [], [], none), (10, [], [6], [(0, (2, 18, 0)), (1, (0, 3, 3)), (2, (2, 12, 0)), (3, (0, 0, 319)), (4, (0, 5, 159)), (5, (0, 6, 160)), (6, (0, 1, 1)), (7, (0, 1, 320)), (8, (0, 6, 160)), (9, (0, 6, 160))], [(3, 7, (-1)), (4, 5, (-1)), (4, 8, (-1)), (4, 9, (-1)), (5, 9, 0), (7, 3, 1), (8, 5, 0), (8, 9, 0), (9, 5, 0)], [(0, 1, 2), (0, 2, 7), (0, 3, 8), (2, 1, 9)], [], [], [], none), (10, [], [6], [(0, (2, 18, 0)), (1, (0, 3, 3)), (2, (2, 12, 0)), (3, (0, 0, 320)), (4, (0, 5, 158)), (5, (0, 7, 160)), (6, (0, 0, 0)), (7, (0, 1, 320)), (8, (0, 6, 160)), (9, (0, 7, 160))], [(3, 7, 0), (4, 5, (-2)), (4, 8, (-1)), (4, 9, (-2)), (5, 9, 0), (9, 5, 0)], [(0, 1, 2), (0, 2, 7), (0, 3, 8), (2, 1, 9)], [], [], [], none), (10, [], [6], [(0, (2, 18, 0)), (1, (0, 3, 3)), (2, (2, 12, 0)), (3, (0, 0, 320)), (4, (0, 5, 158)), (5, (0, 7, 160)), (6, (0, 1, 1)), (7, (0, 1, 320)), (8, (0, 7, 160)), (9, (0, 7, 160))], [(3, 7, 0), (4, 5, (-2)), (4, 8, (-2)), (4, 9, (-2)), (5, 9, 0), (8, 5, 0), (8, 9, 0), (9, 5, 0)], [(0, 1, 2), (0, 2, 7), (0, 3, 8), (2, 1, 9)], [], [], [], none), (9, [], [6], [(0, (2, 18, 0)), (1, (0, 3, 3)), (2, (2, 12, 0)), (3, (0, 320, 320)), (4, (0, 5, 159)), (5, (0, 6, 160)), (6, (0, 1, 1)), (7, (0, 5, 159)), (8, (0, 6, 160))], [(4, 5, (-1)), (4, 7, 0), (4, 8, (-1)), (5, 8, 0), (7, 5, (-1)), (7, 8, (-1)), (8, 5, 0)], [(0, 1, 2), (0, 2, 3), (0, 3, 7), (2, 1, 8)], [], [], [], none), (10, [], [6], [(0, (2, 18, 0)), (1, (0, 3, 3)), (2, (2, 12, 0)), (3, (0, 0, 319)), (4, (0, 5, 159)), (5, (0, 6, 160)), (6, (0, 1, 1)), (7, (0, 1, 320)), (8, (0, 5, 159)), (9, (0, 6, 160))], [(3, 7, (-1)), (4, 5, (-1)), (4, 8, 0), (4, 9, (-1)), (5, 9, 0), (7, 3, 1), (8, 5, (-1)), (8, 9, (-1)), (9, 5, 0)], [(0, 1, 2), (0, 2, 7), (0, 3, 8), (2, 1, 9)], [], [], [], none)], [(18, 2), (18, 3), (20, 0)], 0, 0)
set_option maxRecDepth 100000 in
def qP99 : zk_P := ([(25, 6, 3, 0)], [], [], [], [(80, 2, (2, 24, 0))], [(1, qC36), (18, qC49), (50, qC88), (59, qC48), (84, qC98), (110, qC47)], [])
set_option maxRecDepth 100000 in
def qH99 : List zk_Hd := []
set_option maxRecDepth 100000 in
def qX99 : List zk_Hd := []
set_option maxRecDepth 100000 in
theorem qk99 : zk_chk qK qP99 prog_8_method_14_code 4 qC99 (some .boolean) qH99 qX99 95 0 = true := zk_chkD_ok (T := qdt_8_14) qdo_8_14 (by decide +kernel)
set_option maxRecDepth 100000 in
/-- UnaskedLetters$RuleReader.readTerm(I)Z #3 -/
def qC100 : zk_C := ((6, [], [0, 1], [(0, (2, 18, 0)), (1, (0, 3, 3)), (2, (2, 12, 0)), (3, (0, 0, 320)), (4, (0, 5, 160)), (5, (0, 5, 160))], [], [(0, 1, 2), (0, 2, 3), (0, 3, 4), (2, 1, 5)], [], [], [], none), [(10, [], [6], [(0, (2, 18, 0)), (1, (0, 3, 3)), (2, (2, 12, 0)), (3, (0, 0, 320)), (4, (0, 5, 159)), (5, (0, 6, 160)), (6, (0, 1, 1)), (7, (0, 1, 320)), (8, (0, 5, 160)), (9, (0, 6, 160))], [(3, 7, 0), (4, 5, (-1)), (4, 8, 0), (4, 9, (-1)), (5, 9, 0), (9, 5, 0)], [(0, 1, 2), (0, 2, 7), (0, 3, 8), (2, 1, 9)], [], [], [], none), (10, [], [6], [(0, (2, 18, 0)), (1, (0, 3, 3)), (2, (2, 12, 0)), (3, (0, 0, 320)), (4, (0, 5, 159)), (5, (0, 6, 160)), (6, (0, 0, 0)), (7, (0, 1, 320)), (8, (0, 6, 160)), (9, (0, 6, 160))], [(3, 7, 0), (4, 5, (-1)), (4, 8, (-1)), (4, 9, (-1)), (5, 9, 0), (9, 5, 0)], [(0, 1, 2), (0, 2, 7), (0, 3, 8), (2, 1, 9)], [], [], [], none), (8, [], [6], [(0, (2, 18, 0)), (1, (0, 3, 3)), (2, (2, 12, 0)), (3, (0, 0, 320)), (4, (0, 5, 160)), (5, (0, 5, 160)), (6, (0, 0, 0)), (7, (0, 5, 160))], [(4, 7, 0)], [(0, 1, 2), (0, 2, 3), (0, 3, 7), (2, 1, 5)], [], [], [], none)], [(18, 2), (18, 3), (20, 0)], 0, 0)
set_option maxRecDepth 100000 in
def qP100 : zk_P := ([(25, 6, 3, 0)], [], [], [], [], [(2, qC99), (20, qC36), (50, qC99), (64, qC47)], [])
set_option maxRecDepth 100000 in
def qH100 : List zk_Hd := [(12, (10, [(0, 0), (1, 1), (2, 6)], [], [(0, (2, 18, 0)), (1, (0, 3, 3)), (2, (2, 12, 0)), (3, (0, 0, 320)), (4, (0, 5, 159)), (5, (0, 6, 160)), (6, (0, 0, 160)), (7, (0, 1, 320)), (8, (0, 5, 160)), (9, (0, 6, 160))], [(3, 7, 0), (4, 5, (-1)), (4, 8, 0), (4, 9, (-1)), (5, 9, 0), (8, 5, 0), (8, 9, 0), (9, 5, 0)], [(0, 1, 2), (0, 2, 7), (0, 3, 8), (2, 1, 9)], [], [], [], none), [(1, none, none), (161, none, some 8), (1, none, none)], 0, 0)]
set_option maxRecDepth 100000 in
def qX100 : List zk_Hd := []
set_option maxRecDepth 100000 in
theorem qk100 : zk_chk qK qP100 prog_8_method_13_code 4 qC100 (some .boolean) qH100 qX100 90 3 = true := zk_chkD_ok (T := qdt_8_13) qdo_8_13 (by decide +kernel)
set_option maxRecDepth 100000 in
/-- UnaskedLetters$RuleReader.readSum(I)Z #3 -/
def qC101 : zk_C := ((6, [], [0, 1], [(0, (2, 18, 0)), (1, (0, 3, 3)), (2, (2, 12, 0)), (3, (0, 0, 320)), (4, (0, 5, 160)), (5, (0, 5, 160))], [], [(0, 1, 2), (0, 2, 3), (0, 3, 4), (2, 1, 5)], [], [], [], none), [(10, [], [6], [(0, (2, 18, 0)), (1, (0, 3, 3)), (2, (2, 12, 0)), (3, (0, 0, 320)), (4, (0, 5, 159)), (5, (0, 6, 160)), (6, (0, 1, 1)), (7, (0, 1, 320)), (8, (0, 5, 160)), (9, (0, 6, 160))], [(3, 7, 0), (4, 5, (-1)), (4, 8, 0), (4, 9, (-1)), (5, 9, 0), (9, 5, 0)], [(0, 1, 2), (0, 2, 7), (0, 3, 8), (2, 1, 9)], [], [], [], none), (10, [], [6], [(0, (2, 18, 0)), (1, (0, 3, 3)), (2, (2, 12, 0)), (3, (0, 0, 320)), (4, (0, 5, 159)), (5, (0, 6, 160)), (6, (0, 0, 0)), (7, (0, 1, 320)), (8, (0, 6, 160)), (9, (0, 6, 160))], [(3, 7, 0), (4, 5, (-1)), (4, 8, (-1)), (4, 9, (-1)), (5, 9, 0), (9, 5, 0)], [(0, 1, 2), (0, 2, 7), (0, 3, 8), (2, 1, 9)], [], [], [], none), (8, [], [6], [(0, (2, 18, 0)), (1, (0, 3, 3)), (2, (2, 12, 0)), (3, (0, 0, 320)), (4, (0, 5, 160)), (5, (0, 5, 160)), (6, (0, 0, 0)), (7, (0, 5, 160))], [(4, 7, 0)], [(0, 1, 2), (0, 2, 3), (0, 3, 7), (2, 1, 5)], [], [], [], none)], [(18, 2), (18, 3), (20, 0)], 0, 0)
set_option maxRecDepth 100000 in
def qP101 : zk_P := ([(25, 6, 3, 0)], [], [], [], [], [(2, qC100), (20, qC36), (50, qC100), (64, qC47)], [])
set_option maxRecDepth 100000 in
def qH101 : List zk_Hd := [(12, (10, [(0, 0), (1, 1), (2, 6)], [], [(0, (2, 18, 0)), (1, (0, 3, 3)), (2, (2, 12, 0)), (3, (0, 0, 320)), (4, (0, 5, 159)), (5, (0, 6, 160)), (6, (0, 0, 160)), (7, (0, 1, 320)), (8, (0, 5, 160)), (9, (0, 6, 160))], [(3, 7, 0), (4, 5, (-1)), (4, 8, 0), (4, 9, (-1)), (5, 9, 0), (9, 5, 0)], [(0, 1, 2), (0, 2, 7), (0, 3, 8), (2, 1, 9)], [], [], [], none), [(1, none, none), (161, none, some 8), (1, none, none)], 0, 0)]
set_option maxRecDepth 100000 in
def qX101 : List zk_Hd := []
set_option maxRecDepth 100000 in
theorem qk101 : zk_chk qK qP101 prog_8_method_12_code 4 qC101 (some .boolean) qH101 qX101 90 3 = true := zk_chkD_ok (T := qdt_8_12) qdo_8_12 (by decide +kernel)
set_option maxRecDepth 100000 in
/-- java/lang/String.isLatin1()Z java/lang/String.indexOf(II)I@1java/lang/String.indexOf(I)I@3UnaskedLetters$RuleReader.readAtom(I)Z@84#2 -/
def qC102 : zk_C := ((1, [], [0], [(0, (2, 24, 0))], [], [], [], [], [], none), [(2, [], [1], [(0, (2, 24, 0)), (1, (0, 1, 1))], [], [], [], [], [], none)], [], 0, 0)
set_option maxRecDepth 100000 in
def qP102 : zk_P := ([(15, 13, 1, 4)], [], [], [], [(0, 3, (0, 1, 1))], [], [])
set_option maxRecDepth 100000 in
def qH102 : List zk_Hd := []
set_option maxRecDepth 100000 in
def qX102 : List zk_Hd := []
set_option maxRecDepth 100000 in
theorem qk102 : zk_chk qK qP102 prog_19_method_154_code 1 qC102 (some .boolean) qH102 qX102 68 0 = true := zk_chkD_ok (T := qdt_19_154) qdo_19_154 (by decide +kernel)
set_option maxRecDepth 100000 in
/-- java/lang/String.coder()B java/lang/String.length()I@6java/lang/String.indexOf(II)I@14java/lang/String.indexOf(I)I@3UnaskedLetters$RuleReader.readAtom(I)Z@84#2 -/
def qC103 : zk_C := ((1, [], [0], [(0, (2, 24, 0))], [], [], [], [], [], none), [(2, [], [1], [(0, (2, 24, 0)), (1, (0, 0, 0))], [], [], [], [], [], none)], [], 0, 0)
set_option maxRecDepth 100000 in
def qP103 : zk_P := ([(15, 13, 1, 4)], [], [], [], [(0, 3, (0, 1, 1))], [], [])
set_option maxRecDepth 100000 in
def qH103 : List zk_Hd := []
set_option maxRecDepth 100000 in
def qX103 : List zk_Hd := []
set_option maxRecDepth 100000 in
theorem qk103 : zk_chk qK qP103 prog_19_method_152_code 1 qC103 (some .byte) qH103 qX103 66 0 = true := zk_chkD_ok (T := qdt_19_152) qdo_19_152 (by decide +kernel)
set_option maxRecDepth 100000 in
/-- java/lang/String.length()I java/lang/String.indexOf(II)I@14java/lang/String.indexOf(I)I@3UnaskedLetters$RuleReader.readAtom(I)Z@84#2 -/
def qC104 : zk_C := ((1, [], [0], [(0, (2, 24, 0))], [], [], [], [], [], none), [(2, [], [1], [(0, (2, 24, 0)), (1, (0, 12, 12))], [], [], [], [], [], none)], [], 0, 0)
set_option maxRecDepth 100000 in
def qP104 : zk_P := ([(9, 13, 0, 4)], [], [], [], [], [(6, qC103)], [])
set_option maxRecDepth 100000 in
def qH104 : List zk_Hd := []
set_option maxRecDepth 100000 in
def qX104 : List zk_Hd := []
set_option maxRecDepth 100000 in
theorem qk104 : zk_chk qK qP104 prog_19_method_54_code 1 qC104 (some .int) qH104 qX104 67 0 = true := zk_chkD_ok (T := qdt_19_54) qdo_19_54 (by decide +kernel)
set_option maxRecDepth 100000 in
/-- java/lang/StringLatin1.canEncode(I)Z java/lang/StringLatin1.indexOf([BIII)I@1java/lang/String.indexOf(II)I@17java/lang/String.indexOf(I)I@3UnaskedLetters$RuleReader.readAtom(I)Z@84#2 -/
def qC105 : zk_C := ((1, [], [0], [(0, (0, 0, 255))], [], [], [], [], [], none), [(2, [], [1], [(0, (0, 0, 255)), (1, (0, 1, 1))], [], [], [], [], [], none)], [], 0, 0)
set_option maxRecDepth 100000 in
def qP105 : zk_P := ([], [], [], [], [], [], [])
set_option maxRecDepth 100000 in
def qH105 : List zk_Hd := []
set_option maxRecDepth 100000 in
def qX105 : List zk_Hd := []
set_option maxRecDepth 100000 in
theorem qk105 : zk_chk qK qP105 prog_20_method_4_code 1 qC105 (some .boolean) qH105 qX105 68 0 = true := zk_chkD_ok (T := qdt_20_4) qdo_20_4 (by decide +kernel)
set_option maxRecDepth 100000 in
/-- java/lang/Math.max(II)I java/lang/StringLatin1.indexOf([BIII)I@11java/lang/String.indexOf(II)I@17java/lang/String.indexOf(I)I@3UnaskedLetters$RuleReader.readAtom(I)Z@84#2 -/
def qC106 : zk_C := ((2, [], [0, 1], [(0, (0, 0, 0)), (1, (0, 0, 0))], [], [], [], [], [], none), [(2, [], [0], [(0, (0, 0, 0)), (1, (0, 0, 0))], [], [], [], [], [], none)], [], 0, 0)
set_option maxRecDepth 100000 in
def qP106 : zk_P := ([], [], [], [], [], [], [])
set_option maxRecDepth 100000 in
def qH106 : List zk_Hd := []
set_option maxRecDepth 100000 in
def qX106 : List zk_Hd := []
set_option maxRecDepth 100000 in
theorem qk106 : zk_chk qK qP106 prog_18_method_65_code 2 qC106 (some .int) qH106 qX106 66 0 = true := zk_chkD_ok (T := qdt_18_65) qdo_18_65 (by decide +kernel)
set_option maxRecDepth 100000 in
/-- java/lang/Math.min(II)I java/lang/StringLatin1.indexOf([BIII)I@18java/lang/String.indexOf(II)I@17java/lang/String.indexOf(I)I@3UnaskedLetters$RuleReader.readAtom(I)Z@84#2 -/
def qC107 : zk_C := ((2, [], [0, 1], [(0, (0, 12, 12)), (1, (0, 12, 12))], [], [], [], [], [], none), [(2, [], [0], [(0, (0, 12, 12)), (1, (0, 12, 12))], [], [], [], [], [], none)], [], 0, 0)
set_option maxRecDepth 100000 in
def qP107 : zk_P := ([], [], [], [], [], [], [])
set_option maxRecDepth 100000 in
def qH107 : List zk_Hd := []
set_option maxRecDepth 100000 in
def qX107 : List zk_Hd := []
set_option maxRecDepth 100000 in
theorem qk107 : zk_chk qK qP107 prog_18_method_69_code 2 qC107 (some .int) qH107 qX107 66 0 = true := zk_chkD_ok (T := qdt_18_69) qdo_18_69 (by decide +kernel)
set_option maxRecDepth 100000 in
/-- java/lang/StringLatin1.indexOfChar([BIII)I java/lang/StringLatin1.indexOf([BIII)I@33java/lang/String.indexOf(II)I@17java/lang/String.indexOf(I)I@3UnaskedLetters$RuleReader.readAtom(I)Z@84#2 -/
def qC108 : zk_C := ((4, [], [0, 1, 2, 3], [(0, (2, 23, 0)), (1, (0, 0, 255)), (2, (0, 0, 0)), (3, (0, 12, 12))], [], [], [], [], [], none), [(5, [], [4], [(0, (2, 23, 0)), (1, (0, 0, 255)), (2, (0, 0, 0)), (3, (0, 12, 12)), (4, (0, (-1), (-1)))], [], [], [], [], [], none), (5, [], [4], [(0, (2, 23, 0)), (1, (0, 0, 255)), (2, (0, 0, 0)), (3, (0, 12, 12)), (4, (0, 0, 11))], [], [], [], [], [], none)], [], 0, 0)
set_option maxRecDepth 100000 in
def qP108 : zk_P := ([], [], [], [], [], [], [])
set_option maxRecDepth 100000 in
def qH108 : List zk_Hd := [(7, (6, [(0, 0), (3, 3), (4, 4), (5, 5)], [], [(0, (2, 23, 0)), (1, (0, 0, 255)), (2, (0, 0, 0)), (3, (0, 12, 12)), (4, (0, (-128), 127)), (5, (0, 0, 12))], [], [], [], [], [], none), [(1, none, none), (13, none, some 5), (1, none, none)], 0, 0)]
set_option maxRecDepth 100000 in
def qX108 : List zk_Hd := []
set_option maxRecDepth 100000 in
theorem qk108 : zk_chk qK qP108 prog_20_method_23_code 6 qC108 (some .int) qH108 qX108 71 3 = true := zk_chkD_ok (T := qdt_20_23) qdo_20_23 (by decide +kernel)
set_option maxRecDepth 100000 in
/-- java/lang/StringLatin1.indexOf([BIII)I java/lang/String.indexOf(II)I@17java/lang/String.indexOf(I)I@3UnaskedLetters$RuleReader.readAtom(I)Z@84#2 -/
def qC109 : zk_C := ((4, [], [0, 1, 2, 3], [(0, (2, 23, 0)), (1, (0, 0, 255)), (2, (0, 0, 0)), (3, (0, 12, 12))], [], [], [], [], [], none), [(5, [], [4], [(0, (2, 23, 0)), (1, (0, 0, 255)), (2, (0, 0, 0)), (3, (0, 12, 12)), (4, (0, (-1), (-1)))], [], [], [], [], [], none), (5, [], [4], [(0, (2, 23, 0)), (1, (0, 0, 255)), (2, (0, 0, 0)), (3, (0, 12, 12)), (4, (0, 0, 11))], [], [], [], [], [], none)], [], 0, 0)
set_option maxRecDepth 100000 in
def qP109 : zk_P := ([], [], [], [], [], [(1, qC105), (11, qC106), (18, qC107), (33, qC108)], [])
set_option maxRecDepth 100000 in
def qH109 : List zk_Hd := []
set_option maxRecDepth 100000 in
def qX109 : List zk_Hd := []
set_option maxRecDepth 100000 in
theorem qk109 : zk_chk qK qP109 prog_20_method_22_code 4 qC109 (some .int) qH109 qX109 81 0 = true := zk_chkD_ok (T := qdt_20_22) qdo_20_22 (by decide +kernel)
set_option maxRecDepth 100000 in
/-- java/lang/String.indexOf(II)I java/lang/String.indexOf(I)I@3UnaskedLetters$RuleReader.readAtom(I)Z@84#2 -/
def qC110 : zk_C := ((3, [], [0, 1, 2], [(0, (2, 24, 0)), (1, (0, 0, 255)), (2, (0, 0, 0))], [], [], [], [], [], none), [(4, [], [3], [(0, (2, 24, 0)), (1, (0, 0, 255)), (2, (0, 0, 0)), (3, (0, (-1), (-1)))], [], [], [], [], [], none), (4, [], [3], [(0, (2, 24, 0)), (1, (0, 0, 255)), (2, (0, 0, 0)), (3, (0, 0, 11))], [], [], [], [], [], none)], [], 0, 0)
set_option maxRecDepth 100000 in
def qP110 : zk_P := ([(9, 13, 0, 4)], [], [], [], [], [(1, qC102), (14, qC104), (17, qC109)], [])
set_option maxRecDepth 100000 in
def qH110 : List zk_Hd := []
set_option maxRecDepth 100000 in
def qX110 : List zk_Hd := []
set_option maxRecDepth 100000 in
theorem qk110 : zk_chk qK qP110 prog_19_method_80_code 3 qC110 (some .int) qH110 qX110 72 0 = true := zk_chkD_ok (T := qdt_19_80) qdo_19_80 (by decide +kernel)
set_option maxRecDepth 100000 in
/-- java/lang/String.indexOf(I)I UnaskedLetters$RuleReader.readAtom(I)Z@84#2 -/
def qC111 : zk_C := ((2, [], [0, 1], [(0, (2, 24, 0)), (1, (0, 0, 255))], [], [], [], [], [], none), [(3, [], [2], [(0, (2, 24, 0)), (1, (0, 0, 255)), (2, (0, (-1), (-1)))], [], [], [], [], [], none), (3, [], [2], [(0, (2, 24, 0)), (1, (0, 0, 255)), (2, (0, 0, 11))], [], [], [], [], [], none)], [], 0, 0)
set_option maxRecDepth 100000 in
def qP111 : zk_P := ([], [], [], [], [], [(3, qC110)], [])
set_option maxRecDepth 100000 in
def qH111 : List zk_Hd := []
set_option maxRecDepth 100000 in
def qX111 : List zk_Hd := []
set_option maxRecDepth 100000 in
theorem qk111 : zk_chk qK qP111 prog_19_method_79_code 2 qC111 (some .int) qH111 qX111 65 0 = true := zk_chkD_ok (T := qdt_19_79) qdo_19_79 (by decide +kernel)
set_option maxRecDepth 100000 in
/-- UnaskedLetters$RuleReader.readAtom(I)Z #2 -/
def qC112 : zk_C := ((6, [], [0, 1], [(0, (2, 18, 0)), (1, (0, 2, 2)), (2, (2, 12, 0)), (3, (0, 0, 320)), (4, (0, 4, 160)), (5, (0, 4, 160))], [], [(0, 1, 2), (0, 2, 3), (0, 3, 4), (2, 1, 5)], [], [], [], none), [(8, [], [6], [(0, (2, 18, 0)), (1, (0, 2, 2)), (2, (2, 12, 0)), (3, (0, 0, 320)), (4, (0, 4, 160)), (5, (0, 4, 160)), (6, (0, 0, 0)), (7, (0, 4, 160))], [(4, 7, 0)], [(0, 1, 2), (0, 2, 3), (0, 3, 7), (2, 1, 5)], [], [], [], none), (9, [], [6], [(0, (2, 18, 0)), (1, (0, 2, 2)), (2, (2, 12, 0)), (3, (0, 320, 320)), (4, (0, 4, 159)), (5, (0, 5, 160)), (6, (0, 1, 1)), (7, (0, 5, 160)), (8, (0, 5, 160))], [(4, 5, (-1)), (4, 7, (-1)), (4, 8, (-1)), (5, 8, 0), (7, 5, 0), (7, 8, 0), (8, 5, 0)], [(0, 1, 2), (0, 2, 3), (0, 3, 7), (2, 1, 8)], [], [], [], none), (10, [], [6], [(0, (2, 18, 0)), (1, (0, 2, 2)), (2, (2, 12, 0)), (3, (0, 0, 319)), (4, (0, 4, 159)), (5, (0, 5, 160)), (6, (0, 1, 1)), (7, (0, 1, 320)), (8, (0, 5, 160)), (9, (0, 5, 160))], [(3, 7, (-1)), (4, 5, (-1)), (4, 8, (-1)), (4, 9, (-1)), (5, 9, 0), (7, 3, 1), (8, 5, 0), (8, 9, 0), (9, 5, 0)], [(0, 1, 2), (0, 2, 7), (0, 3, 8), (2, 1, 9)], [], [], [], none), (10, [], [6], [(0, (2, 18, 0)), (1, (0, 2, 2)), (2, (2, 12, 0)), (3, (0, 0, 320)), (4, (0, 4, 158)), (5, (0, 6, 160)), (6, (0, 0, 0)), (7, (0, 1, 320)), (8, (0, 5, 160)), (9, (0, 6, 160))], [(3, 7, 0), (4, 5, (-2)), (4, 8, (-1)), (4, 9, (-2)), (5, 9, 0), (9, 5, 0)], [(0, 1, 2), (0, 2, 7), (0, 3, 8), (2, 1, 9)], [], [], [], none), (10, [], [6], [(0, (2, 18, 0)), (1, (0, 2, 2)), (2, (2, 12, 0)), (3, (0, 0, 320)), (4, (0, 4, 158)), (5, (0, 6, 160)), (6, (0, 1, 1)), (7, (0, 1, 320)), (8, (0, 6, 160)), (9, (0, 6, 160))], [(3, 7, 0), (4, 5, (-2)), (4, 8, (-2)), (4, 9, (-2)), (5, 9, 0), (8, 5, 0), (8, 9, 0), (9, 5, 0)], [(0, 1, 2), (0, 2, 7), (0, 3, 8), (2, 1, 9)], [], [], [], none), (9, [], [6], [(0, (2, 18, 0)), (1, (0, 2, 2)), (2, (2, 12, 0)), (3, (0, 320, 320)), (4, (0, 4, 159)), (5, (0, 5, 160)), (6, (0, 1, 1)), (7, (0, 4, 159)), (8, (0, 5, 160))], [(4, 5, (-1)), (4, 7, 0), (4, 8, (-1)), (5, 8, 0), (7, 5, (-1)), (7, 8, (-1)), (8, 5, 0)], [(0, 1, 2), (0, 2, 3), (0, 3, 7), (2, 1, 8)], [], [], [], none), (10, [], [6], [(0, (2, 18, 0)), (1, (0, 2, 2)), (2, (2, 12, 0)), (3, (0, 0, 319)), (4, (0, 4, 159)), (5, (0, 5, 160)), (6, (0, 1, 1)), (7, (0, 1, 320)), (8, (0, 4, 159)), (9, (0, 5, 160))], [(3, 7, (-1)), (4, 5, (-1)), (4, 8, 0), (4, 9, (-1)), (5, 9, 0), (7, 3, 1), (8, 5, (-1)), (8, 9, (-1)), (9, 5, 0)], [(0, 1, 2), (0, 2, 7), (0, 3, 8), (2, 1, 9)], [], [], [], none)], [(18, 2), (18, 3), (20, 0)], 0, 0)
set_option maxRecDepth 100000 in
def qP112 : zk_P := ([(25, 6, 3, 0)], [], [], [], [(80, 2, (2, 24, 0))], [(1, qC36), (18, qC49), (50, qC101), (59, qC48), (84, qC111), (110, qC47)], [])
set_option maxRecDepth 100000 in
def qH112 : List zk_Hd := []
set_option maxRecDepth 100000 in
def qX112 : List zk_Hd := []
set_option maxRecDepth 100000 in
theorem qk112 : zk_chk qK qP112 prog_8_method_14_code 4 qC112 (some .boolean) qH112 qX112 95 0 = true := zk_chkD_ok (T := qdt_8_14) qdo_8_14 (by decide +kernel)
end
