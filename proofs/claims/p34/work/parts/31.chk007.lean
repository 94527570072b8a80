/-! CONTRACTS: found by wip/an (python). -/
set_option maxRecDepth 100000 in
/-- UnaskedLetters$RuleReader.readAtom(I)Z #5 -/
def qC75 : zk_C := ((6, [], [0, 1], [(0, (2, 18, 0)), (1, (0, 5, 5)), (2, (2, 12, 0)), (3, (0, 0, 320)), (4, (0, 7, 160)), (5, (0, 7, 160))], [], [(0, 1, 2), (0, 2, 3), (0, 3, 4), (2, 1, 5)], [], [], [], none), [(8, [], [6], [(0, (2, 18, 0)), (1, (0, 5, 5)), (2, (2, 12, 0)), (3, (0, 0, 320)), (4, (0, 7, 160)), (5, (0, 7, 160)), (6, (0, 0, 0)), (7, (0, 7, 160))], [(4, 7, 0)], [(0, 1, 2), (0, 2, 3), (0, 3, 7), (2, 1, 5)], [], [], [], none), (9, [], [6], [(0, (2, 18, 0)), (1, (0, 5, 5)), (2, (2, 12, 0)), (3, (0, 320, 320)), (4, (0, 7, 159)), (5, (0, 8, 160)), (6, (0, 1, 1)), (7, (0, 8, 160)), (8, (0, 8, 160))], [(4, 5, (-1)), (4, 7, (-1)), (4, 8, (-1)), (5, 8, 0), (7, 5, 0), (7, 8, 0), (8, 5, 0)], [(0, 1, 2), (0, 2, 3), (0, 3, 7), (2, 1, 8)], [], [], [], none), (10, [], [6], [(0, (2, 18, 0)), (1, (0, 5, 5)), (2, (2, 12, 0)), (3, (0, 0, 319)), (4, (0, 7, 159)), (5, (0, 8, 160)), (6, (0, 1, 1)), (7, (0, 1, 320)), (8, (0, 8, 160)), (9, (0, 8, 160))], [(3, 7, (-1)), (4, 5, (-1)), (4, 8, (-1)), (4, 9, (-1)), (5, 9, 0), (7, 3, 1), (8, 5, 0), (8, 9, 0), (9, 5, 0)], [(0, 1, 2), (0, 2, 7), (0, 3, 8), (2, 1, 9)], [], [], [], none), (10, [], [6], [(0, (2, 18, 0)), (1, (0, 5, 5)), (2, (2, 12, 0)), (3, (0, 0, 320)), (4, (0, 7, 158)), (5, (0, 9, 160)), (6, (0, 0, 0)), (7, (0, 1, 320)), (8, (0, 8, 160)), (9, (0, 9, 160))], [(3, 7, 0), (4, 5, (-2)), (4, 8, (-1)), (4, 9, (-2)), (5, 9, 0), (9, 5, 0)], [(0, 1, 2), (0, 2, 7), (0, 3, 8), (2, 1, 9)], [], [], [], none), (10, [], [6], [(0, (2, 18, 0)), (1, (0, 5, 5)), (2, (2, 12, 0)), (3, (0, 0, 320)), (4, (0, 7, 158)), (5, (0, 9, 160)), (6, (0, 1, 1)), (7, (0, 1, 320)), (8, (0, 9, 160)), (9, (0, 9, 160))], [(3, 7, 0), (4, 5, (-2)), (4, 8, (-2)), (4, 9, (-2)), (5, 9, 0), (8, 5, 0), (8, 9, 0), (9, 5, 0)], [(0, 1, 2), (0, 2, 7), (0, 3, 8), (2, 1, 9)], [], [], [], none), (9, [], [6], [(0, (2, 18, 0)), (1, (0, 5, 5)), (2, (2, 12, 0)), (3, (0, 320, 320)), (4, (0, 7, 159)), (5, (0, 8, 160)), (6, (0, 1, 1)), (7, (0, 7, 159)), (8, (0, 8, 160))], [(4, 5, (-1)), (4, 7, 0), (4, 8, (-1)), (5, 8, 0), (7, 5, (-1)), (7, 8, (-1)), (8, 5, 0)], [(0, 1, 2), (0, 2, 3), (0, 3, 7), (2, 1, 8)], [], [], [], none), (10, [], [6], [(0, (2, 18, 0)), (1, (0, 5, 5)), (2, (2, 12, 0)), (3, (0, 0, 319)), (4, (0, 7, 159)), (5, (0, 8, 160)), (6, (0, 1, 1)), (7, (0, 1, 320)), (8, (0, 7, 159)), (9, (0, 8, 160))], [(3, 7, (-1)), (4, 5, (-1)), (4, 8, 0), (4, 9, (-1)), (5, 9, 0), (7, 3, 1), (8, 5, (-1)), (8, 9, (-1)), (9, 5, 0)], [(0, 1, 2), (0, 2, 7), (0, 3, 8), (2, 1, 9)], [], [], [], none)], [(18, 2), (18, 3), (20, 0)], 0, 0)
set_option maxRecDepth 100000 in
def qP75 : zk_P := ([(25, 6, 3, 0)], [], [], [], [(80, 2, (2, 24, 0))], [(1, qC38), (18, qC51), (50, qC64), (59, qC50), (84, qC74), (110, qC49)], [])
set_option maxRecDepth 100000 in
def qH75 : List zk_Hd := []
set_option maxRecDepth 100000 in
def qX75 : List zk_Hd := []
set_option maxRecDepth 100000 in
theorem qk75 : zk_chk qK qP75 prog_8_method_14_code 4 qC75 (some .boolean) qH75 qX75 95 0 = true := zk_chkD_ok (T := qdt_8_14) qdo_8_14 (by decide +kernel)
set_option maxRecDepth 100000 in
/-- UnaskedLetters$RuleReader.readTerm(I)Z #5 -/
def qC76 : zk_C := ((6, [], [0, 1], [(0, (2, 18, 0)), (1, (0, 5, 5)), (2, (2, 12, 0)), (3, (0, 0, 320)), (4, (0, 7, 160)), (5, (0, 7, 160))], [], [(0, 1, 2), (0, 2, 3), (0, 3, 4), (2, 1, 5)], [], [], [], none), [(10, [], [6], [(0, (2, 18, 0)), (1, (0, 5, 5)), (2, (2, 12, 0)), (3, (0, 0, 320)), (4, (0, 7, 159)), (5, (0, 8, 160)), (6, (0, 1, 1)), (7, (0, 1, 320)), (8, (0, 7, 160)), (9, (0, 8, 160))], [(3, 7, 0), (4, 5, (-1)), (4, 8, 0), (4, 9, (-1)), (5, 9, 0), (9, 5, 0)], [(0, 1, 2), (0, 2, 7), (0, 3, 8), (2, 1, 9)], [], [], [], none), (10, [], [6], [(0, (2, 18, 0)), (1, (0, 5, 5)), (2, (2, 12, 0)), (3, (0, 0, 320)), (4, (0, 7, 159)), (5, (0, 8, 160)), (6, (0, 0, 0)), (7, (0, 1, 320)), (8, (0, 8, 160)), (9, (0, 8, 160))], [(3, 7, 0), (4, 5, (-1)), (4, 8, (-1)), (4, 9, (-1)), (5, 9, 0), (9, 5, 0)], [(0, 1, 2), (0, 2, 7), (0, 3, 8), (2, 1, 9)], [], [], [], none), (8, [], [6], [(0, (2, 18, 0)), (1, (0, 5, 5)), (2, (2, 12, 0)), (3, (0, 0, 320)), (4, (0, 7, 160)), (5, (0, 7, 160)), (6, (0, 0, 0)), (7, (0, 7, 160))], [(4, 7, 0)], [(0, 1, 2), (0, 2, 3), (0, 3, 7), (2, 1, 5)], [], [], [], none)], [(18, 2), (18, 3), (20, 0)], 0, 0)
set_option maxRecDepth 100000 in
def qP76 : zk_P := ([(25, 6, 3, 0)], [], [], [], [], [(2, qC75), (20, qC38), (50, qC75), (64, qC49)], [])
set_option maxRecDepth 100000 in
def qH76 : List zk_Hd := [(12, (10, [(0, 0), (1, 1), (2, 6)], [], [(0, (2, 18, 0)), (1, (0, 5, 5)), (2, (2, 12, 0)), (3, (0, 0, 320)), (4, (0, 7, 159)), (5, (0, 8, 160)), (6, (0, 0, 160)), (7, (0, 1, 320)), (8, (0, 7, 160)), (9, (0, 8, 160))], [(3, 7, 0), (4, 5, (-1)), (4, 8, 0), (4, 9, (-1)), (5, 9, 0), (8, 5, 0), (8, 9, 0), (9, 5, 0)], [(0, 1, 2), (0, 2, 7), (0, 3, 8), (2, 1, 9)], [], [], [], none), [(1, none, none), (161, none, some 8), (1, none, none)], 0, 0)]
set_option maxRecDepth 100000 in
def qX76 : List zk_Hd := []
set_option maxRecDepth 100000 in
theorem qk76 : zk_chk qK qP76 prog_8_method_13_code 4 qC76 (some .boolean) qH76 qX76 90 3 = true := zk_chkD_ok (T := qdt_8_13) qdo_8_13 (by decide +kernel)
set_option maxRecDepth 100000 in
/-- UnaskedLetters$RuleReader.readSum(I)Z #5 -/
def qC77 : zk_C := ((6, [], [0, 1], [(0, (2, 18, 0)), (1, (0, 5, 5)), (2, (2, 12, 0)), (3, (0, 0, 320)), (4, (0, 7, 160)), (5, (0, 7, 160))], [], [(0, 1, 2), (0, 2, 3), (0, 3, 4), (2, 1, 5)], [], [], [], none), [(10, [], [6], [(0, (2, 18, 0)), (1, (0, 5, 5)), (2, (2, 12, 0)), (3, (0, 0, 320)), (4, (0, 7, 159)), (5, (0, 8, 160)), (6, (0, 1, 1)), (7, (0, 1, 320)), (8, (0, 7, 160)), (9, (0, 8, 160))], [(3, 7, 0), (4, 5, (-1)), (4, 8, 0), (4, 9, (-1)), (5, 9, 0), (9, 5, 0)], [(0, 1, 2), (0, 2, 7), (0, 3, 8), (2, 1, 9)], [], [], [], none), (10, [], [6], [(0, (2, 18, 0)), (1, (0, 5, 5)), (2, (2, 12, 0)), (3, (0, 0, 320)), (4, (0, 7, 159)), (5, (0, 8, 160)), (6, (0, 0, 0)), (7, (0, 1, 320)), (8, (0, 8, 160)), (9, (0, 8, 160))], [(3, 7, 0), (4, 5, (-1)), (4, 8, (-1)), (4, 9, (-1)), (5, 9, 0), (9, 5, 0)], [(0, 1, 2), (0, 2, 7), (0, 3, 8), (2, 1, 9)], [], [], [], none), (8, [], [6], [(0, (2, 18, 0)), (1, (0, 5, 5)), (2, (2, 12, 0)), (3, (0, 0, 320)), (4, (0, 7, 160)), (5, (0, 7, 160)), (6, (0, 0, 0)), (7, (0, 7, 160))], [(4, 7, 0)], [(0, 1, 2), (0, 2, 3), (0, 3, 7), (2, 1, 5)], [], [], [], none)], [(18, 2), (18, 3), (20, 0)], 0, 0)
set_option maxRecDepth 100000 in
def qP77 : zk_P := ([(25, 6, 3, 0)], [], [], [], [], [(2, qC76), (20, qC38), (50, qC76), (64, qC49)], [])
set_option maxRecDepth 100000 in
def qH77 : List zk_Hd := [(12, (10, [(0, 0), (1, 1), (2, 6)], [], [(0, (2, 18, 0)), (1, (0, 5, 5)), (2, (2, 12, 0)), (3, (0, 0, 320)), (4, (0, 7, 159)), (5, (0, 8, 160)), (6, (0, 0, 160)), (7, (0, 1, 320)), (8, (0, 7, 160)), (9, (0, 8, 160))], [(3, 7, 0), (4, 5, (-1)), (4, 8, 0), (4, 9, (-1)), (5, 9, 0), (9, 5, 0)], [(0, 1, 2), (0, 2, 7), (0, 3, 8), (2, 1, 9)], [], [], [], none), [(1, none, none), (161, none, some 8), (1, none, none)], 0, 0)]
set_option maxRecDepth 100000 in
def qX77 : List zk_Hd := []
set_option maxRecDepth 100000 in
theorem qk77 : zk_chk qK qP77 prog_8_method_12_code 4 qC77 (some .boolean) qH77 qX77 90 3 = true := zk_chkD_ok (T := qdt_8_12) qdo_8_12 (by decide +kernel)
set_option maxRecDepth 100000 in
/-- java/lang/String.isLatin1()Z java/lang/String.indexOf(II)I@1java/lang/String.indexOf(I)I@3UnaskedLetters$RuleReader.readAtom(I)Z@84#4 -/
def qC78 : zk_C := ((1, [], [0], [(0, (2, 24, 0))], [], [], [], [], [], none), [(2, [], [1], [(0, (2, 24, 0)), (1, (0, 1, 1))], [], [], [], [], [], none)], [], 0, 0)
set_option maxRecDepth 100000 in
def qP78 : zk_P := ([(15, 13, 1, 4)], [], [], [], [(0, 3, (0, 1, 1))], [], [])
set_option maxRecDepth 100000 in
def qH78 : List zk_Hd := []
set_option maxRecDepth 100000 in
def qX78 : List zk_Hd := []
set_option maxRecDepth 100000 in
theorem qk78 : zk_chk qK qP78 prog_19_method_154_code 1 qC78 (some .boolean) qH78 qX78 68 0 = true := zk_chkD_ok (T := qdt_19_154) qdo_19_154 (by decide +kernel)
set_option maxRecDepth 100000 in
/-- java/lang/String.coder()B java/lang/String.length()I@6java/lang/String.indexOf(II)I@14java/lang/String.indexOf(I)I@3UnaskedLetters$RuleReader.readAtom(I)Z@84#4 -/
def qC79 : zk_C := ((1, [], [0], [(0, (2, 24, 0))], [], [], [], [], [], none), [(2, [], [1], [(0, (2, 24, 0)), (1, (0, 0, 0))], [], [], [], [], [], none)], [], 0, 0)
set_option maxRecDepth 100000 in
def qP79 : zk_P := ([(15, 13, 1, 4)], [], [], [], [(0, 3, (0, 1, 1))], [], [])
set_option maxRecDepth 100000 in
def qH79 : List zk_Hd := []
set_option maxRecDepth 100000 in
def qX79 : List zk_Hd := []
set_option maxRecDepth 100000 in
theorem qk79 : zk_chk qK qP79 prog_19_method_152_code 1 qC79 (some .byte) qH79 qX79 66 0 = true := zk_chkD_ok (T := qdt_19_152) qdo_19_152 (by decide +kernel)
set_option maxRecDepth 100000 in
/-- java/lang/String.length()I java/lang/String.indexOf(II)I@14java/lang/String.indexOf(I)I@3UnaskedLetters$RuleReader.readAtom(I)Z@84#4 -/
def qC80 : zk_C := ((1, [], [0], [(0, (2, 24, 0))], [], [], [], [], [], none), [(2, [], [1], [(0, (2, 24, 0)), (1, (0, 12, 12))], [], [], [], [], [], none)], [], 0, 0)
set_option maxRecDepth 100000 in
def qP80 : zk_P := ([(9, 13, 0, 4)], [], [], [], [], [(6, qC79)], [])
set_option maxRecDepth 100000 in
def qH80 : List zk_Hd := []
set_option maxRecDepth 100000 in
def qX80 : List zk_Hd := []
set_option maxRecDepth 100000 in
theorem qk80 : zk_chk qK qP80 prog_19_method_54_code 1 qC80 (some .int) qH80 qX80 67 0 = true := zk_chkD_ok (T := qdt_19_54) qdo_19_54 (by decide +kernel)
set_option maxRecDepth 100000 in
/-- java/lang/StringLatin1.canEncode(I)Z java/lang/StringLatin1.indexOf([BIII)I@1java/lang/String.indexOf(II)I@17java/lang/String.indexOf(I)I@3UnaskedLetters$RuleReader.readAtom(I)Z@84#4 -/
def qC81 : zk_C := ((1, [], [0], [(0, (0, 0, 255))], [], [], [], [], [], none), [(2, [], [1], [(0, (0, 0, 255)), (1, (0, 1, 1))], [], [], [], [], [], none)], [], 0, 0)
set_option maxRecDepth 100000 in
def qP81 : zk_P := ([], [], [], [], [], [], [])
set_option maxRecDepth 100000 in
def qH81 : List zk_Hd := []
set_option maxRecDepth 100000 in
def qX81 : List zk_Hd := []
set_option maxRecDepth 100000 in
theorem qk81 : zk_chk qK qP81 prog_20_method_4_code 1 qC81 (some .boolean) qH81 qX81 68 0 = true := zk_chkD_ok (T := qdt_20_4) qdo_20_4 (by decide +kernel)
set_option maxRecDepth 100000 in
/-- java/lang/Math.max(II)I java/lang/StringLatin1.indexOf([BIII)I@11java/lang/String.indexOf(II)I@17java/lang/String.indexOf(I)I@3UnaskedLetters$RuleReader.readAtom(I)Z@84#4 -/
def qC82 : zk_C := ((2, [], [0, 1], [(0, (0, 0, 0)), (1, (0, 0, 0))], [], [], [], [], [], none), [(2, [], [0], [(0, (0, 0, 0)), (1, (0, 0, 0))], [], [], [], [], [], none)], [], 0, 0)
set_option maxRecDepth 100000 in
def qP82 : zk_P := ([], [], [], [], [], [], [])
set_option maxRecDepth 100000 in
def qH82 : List zk_Hd := []
set_option maxRecDepth 100000 in
def qX82 : List zk_Hd := []
set_option maxRecDepth 100000 in
theorem qk82 : zk_chk qK qP82 prog_18_method_65_code 2 qC82 (some .int) qH82 qX82 66 0 = true := zk_chkD_ok (T := qdt_18_65) qdo_18_65 (by decide +kernel)
set_option maxRecDepth 100000 in
/-- java/lang/Math.min(II)I java/lang/StringLatin1.indexOf([BIII)I@18java/lang/String.indexOf(II)I@17java/lang/String.indexOf(I)I@3UnaskedLetters$RuleReader.readAtom(I)Z@84#4 -/
def qC83 : zk_C := ((2, [], [0, 1], [(0, (0, 12, 12)), (1, (0, 12, 12))], [], [], [], [], [], none), [(2, [], [0], [(0, (0, 12, 12)), (1, (0, 12, 12))], [], [], [], [], [], none)], [], 0, 0)
set_option maxRecDepth 100000 in
def qP83 : zk_P := ([], [], [], [], [], [], [])
set_option maxRecDepth 100000 in
def qH83 : List zk_Hd := []
set_option maxRecDepth 100000 in
def qX83 : List zk_Hd := []
set_option maxRecDepth 100000 in
theorem qk83 : zk_chk qK qP83 prog_18_method_69_code 2 qC83 (some .int) qH83 qX83 66 0 = true := zk_chkD_ok (T := qdt_18_69) qdo_18_69 (by decide +kernel)
set_option maxRecDepth 100000 in
/-- java/lang/StringLatin1.indexOfChar([BIII)I java/lang/StringLatin1.indexOf([BIII)I@33java/lang/String.indexOf(II)I@17java/lang/String.indexOf(I)I@3UnaskedLetters$RuleReader.readAtom(I)Z@84#4 -/
def qC84 : zk_C := ((4, [], [0, 1, 2, 3], [(0, (2, 23, 0)), (1, (0, 0, 255)), (2, (0, 0, 0)), (3, (0, 12, 12))], [], [], [], [], [], none), [(5, [], [4], [(0, (2, 23, 0)), (1, (0, 0, 255)), (2, (0, 0, 0)), (3, (0, 12, 12)), (4, (0, (-1), (-1)))], [], [], [], [], [], none), (5, [], [4], [(0, (2, 23, 0)), (1, (0, 0, 255)), (2, (0, 0, 0)), (3, (0, 12, 12)), (4, (0, 0, 11))], [], [], [], [], [], none)], [], 0, 0)
set_option maxRecDepth 100000 in
def qP84 : zk_P := ([], [], [], [], [], [], [])
set_option maxRecDepth 100000 in
def qH84 : List zk_Hd := [(7, (6, [(0, 0), (3, 3), (4, 4), (5, 5)], [], [(0, (2, 23, 0)), (1, (0, 0, 255)), (2, (0, 0, 0)), (3, (0, 12, 12)), (4, (0, (-128), 127)), (5, (0, 0, 12))], [], [], [], [], [], none), [(1, none, none), (13, none, some 5), (1, none, none)], 0, 0)]
set_option maxRecDepth 100000 in
def qX84 : List zk_Hd := []
set_option maxRecDepth 100000 in
theorem qk84 : zk_chk qK qP84 prog_20_method_23_code 6 qC84 (some .int) qH84 qX84 71 3 = true := zk_chkD_ok (T := qdt_20_23) qdo_20_23 (by decide +kernel)
set_option maxRecDepth 100000 in
/-- java/lang/StringLatin1.indexOf([BIII)I java/lang/String.indexOf(II)I@17java/lang/String.indexOf(I)I@3UnaskedLetters$RuleReader.readAtom(I)Z@84#4 -/
def qC85 : zk_C := ((4, [], [0, 1, 2, 3], [(0, (2, 23, 0)), (1, (0, 0, 255)), (2, (0, 0, 0)), (3, (0, 12, 12))], [], [], [], [], [], none), [(5, [], [4], [(0, (2, 23, 0)), (1, (0, 0, 255)), (2, (0, 0, 0)), (3, (0, 12, 12)), (4, (0, (-1), (-1)))], [], [], [], [], [], none), (5, [], [4], [(0, (2, 23, 0)), (1, (0, 0, 255)), (2, (0, 0, 0)), (3, (0, 12, 12)), (4, (0, 0, 11))], [], [], [], [], [], none)], [], 0, 0)
set_option maxRecDepth 100000 in
def qP85 : zk_P := ([], [], [], [], [], [(1, qC81), (11, qC82), (18, qC83), (33, qC84)], [])
set_option maxRecDepth 100000 in
def qH85 : List zk_Hd := []
set_option maxRecDepth 100000 in
def qX85 : List zk_Hd := []
set_option maxRecDepth 100000 in
theorem qk85 : zk_chk qK qP85 prog_20_method_22_code 4 qC85 (some .int) qH85 qX85 81 0 = true := zk_chkD_ok (T := qdt_20_22) qdo_20_22 (by decide +kernel)
set_option maxRecDepth 100000 in
/-- java/lang/String.indexOf(II)I java/lang/String.indexOf(I)I@3UnaskedLetters$RuleReader.readAtom(I)Z@84#4 -/
def qC86 : zk_C := ((3, [], [0, 1, 2], [(0, (2, 24, 0)), (1, (0, 0, 255)), (2, (0, 0, 0))], [], [], [], [], [], none), [(4, [], [3], [(0, (2, 24, 0)), (1, (0, 0, 255)), (2, (0, 0, 0)), (3, (0, (-1), (-1)))], [], [], [], [], [], none), (4, [], [3], [(0, (2, 24, 0)), (1, (0, 0, 255)), (2, (0, 0, 0)), (3, (0, 0, 11))], [], [], [], [], [], none)], [], 0, 0)
set_option maxRecDepth 100000 in
def qP86 : zk_P := ([(9, 13, 0, 4)], [], [], [], [], [(1, qC78), (14, qC80), (17, qC85)], [])
set_option maxRecDepth 100000 in
def qH86 : List zk_Hd := []
set_option maxRecDepth 100000 in
def qX86 : List zk_Hd := []
set_option maxRecDepth 100000 in
theorem qk86 : zk_chk qK qP86 prog_19_method_80_code 3 qC86 (some .int) qH86 qX86 72 0 = true := zk_chkD_ok (T := qdt_19_80) qdo_19_80 (by decide +kernel)
set_option maxRecDepth 100000 in
/-- java/lang/String.indexOf(I)I UnaskedLetters$RuleReader.readAtom(I)Z@84#4 -/
def qC87 : zk_C := ((2, [], [0, 1], [(0, (2, 24, 0)), (1, (0, 0, 255))], [], [], [], [], [], none), [(3, [], [2], [(0, (2, 24, 0)), (1, (0, 0, 255)), (2, (0, (-1), (-1)))], [], [], [], [], [], none), (3, [], [2], [(0, (2, 24, 0)), (1, (0, 0, 255)), (2, (0, 0, 11))], [], [], [], [], [], none)], [], 0, 0)
set_option maxRecDepth 100000 in
def qP87 : zk_P := ([], [], [], [], [], [(3, qC86)], [])
set_option maxRecDepth 100000 in
def qH87 : List zk_Hd := []
set_option maxRecDepth 100000 in
def qX87 : List zk_Hd := []
set_option maxRecDepth 100000 in
theorem qk87 : zk_chk qK qP87 prog_19_method_79_code 2 qC87 (some .int) qH87 qX87 65 0 = true := zk_chkD_ok (T := qdt_19_79) qdo_19_79 (by decide +kernel)
