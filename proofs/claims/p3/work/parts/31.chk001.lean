/-! CONTRACTS: found by wip/an (python). -/
noncomputable section
set_option maxRecDepth 100000 in
/-- UnaskedLetters$LetterReader.faultOf(LUnaskedLetters$Tape;)I  -/
def qC35 : zk_C := ((2, [], [0, 1], [(0, (2, 15, 0)), (1, (2, 12, 0))], [], [], [], [], [], none), [(3, [], [2], [(0, (2, 15, 0)), (1, (2, 12, 0)), (2, (0, 0, 160))], [], [], [], [], [], none), (3, [], [2], [(0, (2, 15, 0)), (1, (2, 12, 0)), (2, (0, (-1), (-1)))], [], [], [], [], [], none)], [], 0, 0)
set_option maxRecDepth 100000 in
def qP35 : zk_P := ([(17, 8, 1, 0)], [], [], [], [], [(28, qC32), (39, qC33), (73, qC32), (212, qC34)], [])
set_option maxRecDepth 100000 in
def qH35 : List zk_Hd := [(16, (8, [(1, 1), (2, 2), (3, 3), (4, 4), (5, 5), (6, 6), (7, 7)], [], [(0, (2, 15, 0)), (1, (2, 12, 0)), (2, (0, 0, 6)), (3, (0, 0, 2)), (4, (0, 0, 1)), (5, (0, 0, 1)), (6, (0, 0, 1)), (7, (0, 0, 160))], [(2, 7, 0), (3, 5, 1), (3, 6, 1), (3, 7, 1), (5, 7, 0), (6, 7, 0)], [], [], [], [], none), [(1, none, none), (161, none, some 7), (1, none, none)], 0, 0)]
set_option maxRecDepth 100000 in
def qX35 : List zk_Hd := []
set_option maxRecDepth 100000 in
theorem qk35 : zk_chk qK qP35 prog_4_method_2_code 9 qC35 (some .int) qH35 qX35 105 3 = true := zk_chkD_ok (T := qdt_4_2) qdo_4_2 (by decide +kernel)
set_option maxRecDepth 100000 in
/-- UnaskedLetters$RuleReader.ahead()I  -/
def qC36 : zk_C := ((3, [], [0], [(0, (2, 18, 0)), (1, (2, 12, 0)), (2, (0, 0, 160))], [], [(0, 1, 1), (0, 3, 2)], [], [], [], none), [(5, [], [3], [(0, (2, 18, 0)), (1, (2, 12, 0)), (2, (0, 0, 160)), (3, (0, (-1), (-1))), (4, (0, 0, 160))], [(2, 4, 0)], [(0, 1, 1), (0, 3, 4)], [], [], [], none), (6, [], [3], [(0, (2, 18, 0)), (1, (2, 12, 0)), (2, (0, 0, 159)), (3, (0, 0, 255)), (4, (0, 0, 159)), (5, (0, 1, 160))], [(2, 4, 0), (2, 5, (-1)), (4, 5, (-1))], [(0, 1, 1), (0, 3, 4), (1, 1, 5)], [], [], [], none)], [(18, 3)], 0, 0)
set_option maxRecDepth 100000 in
def qP36 : zk_P := ([(25, 6, 3, 0), (17, 6, 1, 3), (49, 8, 1, 0)], [], [], [], [], [(22, qC32), (51, qC32)], [])
set_option maxRecDepth 100000 in
def qH36 : List zk_Hd := [(0, (4, [(0, 0)], [], [(0, (2, 18, 0)), (1, (2, 12, 0)), (2, (0, 0, 160)), (3, (0, 0, 160))], [(2, 3, 0)], [(0, 1, 1), (0, 3, 3)], [], [], [], none), [(1, none, none), (161, none, some 3), (1, none, none)], 0, 0)]
set_option maxRecDepth 100000 in
def qX36 : List zk_Hd := []
set_option maxRecDepth 100000 in
theorem qk36 : zk_chk qK qP36 prog_8_method_4_code 1 qC36 (some .int) qH36 qX36 81 3 = true := zk_chkD_ok (T := qdt_8_4) qdo_8_4 (by decide +kernel)
set_option maxRecDepth 100000 in
/-- java/lang/String.isLatin1()Z java/lang/String.indexOf(II)I@1java/lang/String.indexOf(I)I@3UnaskedLetters$RuleReader.readClause()Z@14 -/
def qC37 : zk_C := ((1, [], [0], [(0, (2, 121, 0))], [], [], [], [], [], none), [(2, [], [1], [(0, (2, 121, 0)), (1, (0, 1, 1))], [], [], [], [], [], none)], [], 0, 0)
set_option maxRecDepth 100000 in
def qP37 : zk_P := ([(15, 13, 1, 4)], [], [], [], [(0, 3, (0, 1, 1))], [], [])
set_option maxRecDepth 100000 in
def qH37 : List zk_Hd := []
set_option maxRecDepth 100000 in
def qX37 : List zk_Hd := []
set_option maxRecDepth 100000 in
theorem qk37 : zk_chk qK qP37 prog_19_method_154_code 1 qC37 (some .boolean) qH37 qX37 68 0 = true := zk_chkD_ok (T := qdt_19_154) qdo_19_154 (by decide +kernel)
set_option maxRecDepth 100000 in
/-- java/lang/String.coder()B java/lang/String.length()I@6java/lang/String.indexOf(II)I@14java/lang/String.indexOf(I)I@3UnaskedLetters$RuleReader.readClause()Z@14 -/
def qC38 : zk_C := ((1, [], [0], [(0, (2, 121, 0))], [], [], [], [], [], none), [(2, [], [1], [(0, (2, 121, 0)), (1, (0, 0, 0))], [], [], [], [], [], none)], [], 0, 0)
set_option maxRecDepth 100000 in
def qP38 : zk_P := ([(15, 13, 1, 4)], [], [], [], [(0, 3, (0, 1, 1))], [], [])
set_option maxRecDepth 100000 in
def qH38 : List zk_Hd := []
set_option maxRecDepth 100000 in
def qX38 : List zk_Hd := []
set_option maxRecDepth 100000 in
theorem qk38 : zk_chk qK qP38 prog_19_method_152_code 1 qC38 (some .byte) qH38 qX38 66 0 = true := zk_chkD_ok (T := qdt_19_152) qdo_19_152 (by decide +kernel)
set_option maxRecDepth 100000 in
/-- java/lang/String.length()I java/lang/String.indexOf(II)I@14java/lang/String.indexOf(I)I@3UnaskedLetters$RuleReader.readClause()Z@14 -/
def qC39 : zk_C := ((1, [], [0], [(0, (2, 121, 0))], [], [], [], [], [], none), [(2, [], [1], [(0, (2, 121, 0)), (1, (0, 4, 4))], [], [], [], [], [], none)], [], 0, 0)
set_option maxRecDepth 100000 in
def qP39 : zk_P := ([(9, 13, 0, 4)], [], [], [], [], [(6, qC38)], [])
set_option maxRecDepth 100000 in
def qH39 : List zk_Hd := []
set_option maxRecDepth 100000 in
def qX39 : List zk_Hd := []
set_option maxRecDepth 100000 in
theorem qk39 : zk_chk qK qP39 prog_19_method_54_code 1 qC39 (some .int) qH39 qX39 67 0 = true := zk_chkD_ok (T := qdt_19_54) qdo_19_54 (by decide +kernel)
set_option maxRecDepth 100000 in
/-- java/lang/StringLatin1.canEncode(I)Z java/lang/StringLatin1.indexOf([BIII)I@1java/lang/String.indexOf(II)I@17java/lang/String.indexOf(I)I@3UnaskedLetters$RuleReader.readClause()Z@14 -/
def qC40 : zk_C := ((1, [], [0], [(0, (0, 0, 255))], [], [], [], [], [], none), [(2, [], [1], [(0, (0, 0, 255)), (1, (0, 1, 1))], [], [], [], [], [], none)], [], 0, 0)
set_option maxRecDepth 100000 in
def qP40 : zk_P := ([], [], [], [], [], [], [])
set_option maxRecDepth 100000 in
def qH40 : List zk_Hd := []
set_option maxRecDepth 100000 in
def qX40 : List zk_Hd := []
set_option maxRecDepth 100000 in
theorem qk40 : zk_chk qK qP40 prog_20_method_4_code 1 qC40 (some .boolean) qH40 qX40 68 0 = true := zk_chkD_ok (T := qdt_20_4) qdo_20_4 (by decide +kernel)
set_option maxRecDepth 100000 in
/-- java/lang/Math.max(II)I java/lang/StringLatin1.indexOf([BIII)I@11java/lang/String.indexOf(II)I@17java/lang/String.indexOf(I)I@3UnaskedLetters$RuleReader.readClause()Z@14 -/
def qC41 : zk_C := ((2, [], [0, 1], [(0, (0, 0, 0)), (1, (0, 0, 0))], [], [], [], [], [], none), [(2, [], [0], [(0, (0, 0, 0)), (1, (0, 0, 0))], [], [], [], [], [], none)], [], 0, 0)
set_option maxRecDepth 100000 in
def qP41 : zk_P := ([], [], [], [], [], [], [])
set_option maxRecDepth 100000 in
def qH41 : List zk_Hd := []
set_option maxRecDepth 100000 in
def qX41 : List zk_Hd := []
set_option maxRecDepth 100000 in
theorem qk41 : zk_chk qK qP41 prog_18_method_65_code 2 qC41 (some .int) qH41 qX41 66 0 = true := zk_chkD_ok (T := qdt_18_65) qdo_18_65 (by decide +kernel)
set_option maxRecDepth 100000 in
/-- java/lang/Math.min(II)I java/lang/StringLatin1.indexOf([BIII)I@18java/lang/String.indexOf(II)I@17java/lang/String.indexOf(I)I@3UnaskedLetters$RuleReader.readClause()Z@14 -/
def qC42 : zk_C := ((2, [], [0, 1], [(0, (0, 4, 4)), (1, (0, 4, 4))], [], [], [], [], [], none), [(2, [], [0], [(0, (0, 4, 4)), (1, (0, 4, 4))], [], [], [], [], [], none)], [], 0, 0)
set_option maxRecDepth 100000 in
def qP42 : zk_P := ([], [], [], [], [], [], [])
set_option maxRecDepth 100000 in
def qH42 : List zk_Hd := []
set_option maxRecDepth 100000 in
def qX42 : List zk_Hd := []
set_option maxRecDepth 100000 in
theorem qk42 : zk_chk qK qP42 prog_18_method_69_code 2 qC42 (some .int) qH42 qX42 66 0 = true := zk_chkD_ok (T := qdt_18_69) qdo_18_69 (by decide +kernel)
set_option maxRecDepth 100000 in
/-- java/lang/StringLatin1.indexOfChar([BIII)I java/lang/StringLatin1.indexOf([BIII)I@33java/lang/String.indexOf(II)I@17java/lang/String.indexOf(I)I@3UnaskedLetters$RuleReader.readClause()Z@14 -/
def qC43 : zk_C := ((4, [], [0, 1, 2, 3], [(0, (2, 120, 0)), (1, (0, 0, 255)), (2, (0, 0, 0)), (3, (0, 4, 4))], [], [], [], [], [], none), [(5, [], [4], [(0, (2, 120, 0)), (1, (0, 0, 255)), (2, (0, 0, 0)), (3, (0, 4, 4)), (4, (0, (-1), (-1)))], [], [], [], [], [], none), (5, [], [4], [(0, (2, 120, 0)), (1, (0, 0, 255)), (2, (0, 0, 0)), (3, (0, 4, 4)), (4, (0, 0, 3))], [], [], [], [], [], none)], [], 0, 0)
set_option maxRecDepth 100000 in
def qP43 : zk_P := ([], [], [], [], [], [], [])
set_option maxRecDepth 100000 in
def qH43 : List zk_Hd := [(7, (6, [(0, 0), (3, 3), (4, 4), (5, 5)], [], [(0, (2, 120, 0)), (1, (0, 0, 255)), (2, (0, 0, 0)), (3, (0, 4, 4)), (4, (0, (-128), 127)), (5, (0, 0, 4))], [], [], [], [], [], none), [(1, none, none), (5, none, some 5), (1, none, none)], 0, 0)]
set_option maxRecDepth 100000 in
def qX43 : List zk_Hd := []
set_option maxRecDepth 100000 in
theorem qk43 : zk_chk qK qP43 prog_20_method_23_code 6 qC43 (some .int) qH43 qX43 71 3 = true := zk_chkD_ok (T := qdt_20_23) qdo_20_23 (by decide +kernel)
set_option maxRecDepth 100000 in
/-- java/lang/StringLatin1.indexOf([BIII)I java/lang/String.indexOf(II)I@17java/lang/String.indexOf(I)I@3UnaskedLetters$RuleReader.readClause()Z@14 -/
def qC44 : zk_C := ((4, [], [0, 1, 2, 3], [(0, (2, 120, 0)), (1, (0, 0, 255)), (2, (0, 0, 0)), (3, (0, 4, 4))], [], [], [], [], [], none), [(5, [], [4], [(0, (2, 120, 0)), (1, (0, 0, 255)), (2, (0, 0, 0)), (3, (0, 4, 4)), (4, (0, (-1), (-1)))], [], [], [], [], [], none), (5, [], [4], [(0, (2, 120, 0)), (1, (0, 0, 255)), (2, (0, 0, 0)), (3, (0, 4, 4)), (4, (0, 0, 3))], [], [], [], [], [], none)], [], 0, 0)
set_option maxRecDepth 100000 in
def qP44 : zk_P := ([], [], [], [], [], [(1, qC40), (11, qC41), (18, qC42), (33, qC43)], [])
set_option maxRecDepth 100000 in
def qH44 : List zk_Hd := []
set_option maxRecDepth 100000 in
def qX44 : List zk_Hd := []
set_option maxRecDepth 100000 in
theorem qk44 : zk_chk qK qP44 prog_20_method_22_code 4 qC44 (some .int) qH44 qX44 81 0 = true := zk_chkD_ok (T := qdt_20_22) qdo_20_22 (by decide +kernel)
set_option maxRecDepth 100000 in
/-- java/lang/String.indexOf(II)I java/lang/String.indexOf(I)I@3UnaskedLetters$RuleReader.readClause()Z@14 -/
def qC45 : zk_C := ((3, [], [0, 1, 2], [(0, (2, 121, 0)), (1, (0, 0, 255)), (2, (0, 0, 0))], [], [], [], [], [], none), [(4, [], [3], [(0, (2, 121, 0)), (1, (0, 0, 255)), (2, (0, 0, 0)), (3, (0, (-1), (-1)))], [], [], [], [], [], none), (4, [], [3], [(0, (2, 121, 0)), (1, (0, 0, 255)), (2, (0, 0, 0)), (3, (0, 0, 3))], [], [], [], [], [], none)], [], 0, 0)
set_option maxRecDepth 100000 in
def qP45 : zk_P := ([(9, 13, 0, 4)], [], [], [], [], [(1, qC37), (14, qC39), (17, qC44)], [])
set_option maxRecDepth 100000 in
def qH45 : List zk_Hd := []
set_option maxRecDepth 100000 in
def qX45 : List zk_Hd := []
set_option maxRecDepth 100000 in
theorem qk45 : zk_chk qK qP45 prog_19_method_80_code 3 qC45 (some .int) qH45 qX45 72 0 = true := zk_chkD_ok (T := qdt_19_80) qdo_19_80 (by decide +kernel)
set_option maxRecDepth 100000 in
/-- java/lang/String.indexOf(I)I UnaskedLetters$RuleReader.readClause()Z@14 -/
def qC46 : zk_C := ((2, [], [0, 1], [(0, (2, 121, 0)), (1, (0, 0, 255))], [], [], [], [], [], none), [(3, [], [2], [(0, (2, 121, 0)), (1, (0, 0, 255)), (2, (0, (-1), (-1)))], [], [], [], [], [], none), (3, [], [2], [(0, (2, 121, 0)), (1, (0, 0, 255)), (2, (0, 0, 3))], [], [], [], [], [], none)], [], 0, 0)
set_option maxRecDepth 100000 in
def qP46 : zk_P := ([], [], [], [], [], [(3, qC45)], [])
set_option maxRecDepth 100000 in
def qH46 : List zk_Hd := []
set_option maxRecDepth 100000 in
def qX46 : List zk_Hd := []
set_option maxRecDepth 100000 in
theorem qk46 : zk_chk qK qP46 prog_19_method_79_code 2 qC46 (some .int) qH46 qX46 65 0 = true := zk_chkD_ok (T := qdt_19_79) qdo_19_79 (by decide +kernel)
set_option maxRecDepth 100000 in
/-- UnaskedLetters$RuleReader.add(I)V  -/
def qC47 : zk_C := ((3, [], [0, 1], [(0, (2, 18, 0)), (1, (0, (-2147483648), 2147483647)), (2, (0, 0, 320))], [], [(0, 2, 2)], [], [], [], none), [(3, [], [], [(0, (2, 18, 0)), (1, (0, (-2147483648), 2147483647)), (2, (0, 320, 320))], [], [(0, 2, 2)], [], [], [], none), (4, [], [], [(0, (2, 18, 0)), (1, (0, (-2147483648), 2147483647)), (2, (0, 0, 319)), (3, (0, 1, 320))], [(2, 3, (-1)), (3, 2, 1)], [(0, 2, 3)], [], [], [], none)], [(18, 2), (20, 0)], 0, 0)
set_option maxRecDepth 100000 in
def qP47 : zk_P := ([(21, 6, 2, 0), (11, 6, 0, 4)], [], [], [], [], [], [])
set_option maxRecDepth 100000 in
def qH47 : List zk_Hd := []
set_option maxRecDepth 100000 in
def qX47 : List zk_Hd := []
set_option maxRecDepth 100000 in
theorem qk47 : zk_chk qK qP47 prog_8_method_6_code 2 qC47 none qH47 qX47 79 0 = true := zk_chkD_ok (T := qdt_8_6) qdo_8_6 (by decide +kernel)
set_option maxRecDepth 100000 in
/-- UnaskedLetters$RuleReader.pass(I)Z  -/
def qC48 : zk_C := ((5, [], [0, 1], [(0, (2, 18, 0)), (1, (0, 38, 124)), (2, (2, 12, 0)), (3, (0, 1, 160)), (4, (0, 1, 160))], [], [(0, 1, 2), (0, 3, 3), (2, 1, 4)], [], [], [], none), [(7, [], [5], [(0, (2, 18, 0)), (1, (0, 38, 124)), (2, (2, 12, 0)), (3, (0, 1, 160)), (4, (0, 1, 160)), (5, (0, 0, 0)), (6, (0, 1, 160))], [(3, 6, 0)], [(0, 1, 2), (0, 3, 6), (2, 1, 4)], [], [], [], none), (8, [], [5], [(0, (2, 18, 0)), (1, (0, 38, 124)), (2, (2, 12, 0)), (3, (0, 1, 159)), (4, (0, 2, 160)), (5, (0, 1, 1)), (6, (0, 2, 160)), (7, (0, 2, 160))], [(3, 4, (-1)), (3, 6, (-1)), (3, 7, (-1)), (4, 7, 0), (6, 4, 0), (6, 7, 0), (7, 4, 0)], [(0, 1, 2), (0, 3, 6), (2, 1, 7)], [], [], [], none)], [(18, 3)], 0, 0)
set_option maxRecDepth 100000 in
def qP48 : zk_P := ([(25, 6, 3, 0)], [], [], [], [], [(1, qC36)], [])
set_option maxRecDepth 100000 in
def qH48 : List zk_Hd := []
set_option maxRecDepth 100000 in
def qX48 : List zk_Hd := []
set_option maxRecDepth 100000 in
theorem qk48 : zk_chk qK qP48 prog_8_method_5_code 2 qC48 (some .boolean) qH48 qX48 72 0 = true := zk_chkD_ok (T := qdt_8_5) qdo_8_5 (by decide +kernel)
set_option maxRecDepth 100000 in
/-- UnaskedLetters$RuleReader.readNumber()Z  -/
def qC49 : zk_C := ((5, [], [0], [(0, (2, 18, 0)), (1, (2, 12, 0)), (2, (0, 0, 320)), (3, (0, 0, 159)), (4, (0, 1, 160))], [(3, 4, (-1))], [(0, 1, 1), (0, 2, 2), (0, 3, 3), (1, 1, 4)], [], [], [], none), [(8, [], [5], [(0, (2, 18, 0)), (1, (2, 12, 0)), (2, (0, 320, 320)), (3, (0, 0, 159)), (4, (0, 1, 160)), (5, (0, 1, 1)), (6, (0, 1, 160)), (7, (0, 1, 160))], [(3, 4, (-1)), (3, 6, (-1)), (3, 7, (-1)), (4, 6, 0), (4, 7, 0), (6, 4, 0), (6, 7, 0), (7, 4, 0), (7, 6, 0)], [(0, 1, 1), (0, 2, 2), (0, 3, 6), (1, 1, 7)], [], [], [], none), (9, [], [5], [(0, (2, 18, 0)), (1, (2, 12, 0)), (2, (0, 0, 319)), (3, (0, 0, 159)), (4, (0, 1, 160)), (5, (0, 1, 1)), (6, (0, 1, 320)), (7, (0, 1, 160)), (8, (0, 1, 160))], [(2, 6, (-1)), (3, 4, (-1)), (3, 7, (-1)), (3, 8, (-1)), (4, 7, 0), (4, 8, 0), (6, 2, 1), (7, 4, 0), (7, 8, 0), (8, 4, 0), (8, 7, 0)], [(0, 1, 1), (0, 2, 6), (0, 3, 7), (1, 1, 8)], [], [], [], none), (8, [], [5], [(0, (2, 18, 0)), (1, (2, 12, 0)), (2, (0, 320, 320)), (3, (0, 0, 159)), (4, (0, 1, 160)), (5, (0, 1, 1)), (6, (0, 0, 159)), (7, (0, 1, 160))], [(3, 4, (-1)), (3, 6, 0), (3, 7, (-1)), (4, 7, 0), (6, 4, (-1)), (6, 7, (-1)), (7, 4, 0)], [(0, 1, 1), (0, 2, 2), (0, 3, 6), (1, 1, 7)], [], [], [], none), (9, [], [5], [(0, (2, 18, 0)), (1, (2, 12, 0)), (2, (0, 0, 319)), (3, (0, 0, 159)), (4, (0, 1, 160)), (5, (0, 1, 1)), (6, (0, 1, 320)), (7, (0, 0, 159)), (8, (0, 1, 160))], [(2, 6, (-1)), (3, 4, (-1)), (3, 7, 0), (3, 8, (-1)), (4, 8, 0), (6, 2, 1), (7, 4, (-1)), (7, 8, (-1)), (8, 4, 0)], [(0, 1, 1), (0, 2, 6), (0, 3, 7), (1, 1, 8)], [], [], [], none), (8, [], [5], [(0, (2, 18, 0)), (1, (2, 12, 0)), (2, (0, 0, 320)), (3, (0, 0, 159)), (4, (0, 5, 160)), (5, (0, 0, 0)), (6, (0, 4, 159)), (7, (0, 5, 160))], [(3, 4, (-1)), (3, 6, 0), (3, 7, (-1)), (4, 7, 0), (6, 4, (-1)), (6, 7, (-1)), (7, 4, 0)], [(0, 1, 1), (0, 2, 2), (0, 3, 6), (1, 1, 7)], [], [], [], none)], [(18, 2), (18, 3), (20, 0)], 0, 0)
set_option maxRecDepth 100000 in
def qP49 : zk_P := ([(25, 6, 3, 0), (17, 6, 1, 3), (49, 8, 1, 0)], [], [], [], [], [(26, qC32), (42, qC32), (69, qC32), (95, qC47)], [])
set_option maxRecDepth 100000 in
def qH49 : List zk_Hd := [(4, (9, [(0, 0), (1, 5), (2, 6)], [], [(0, (2, 18, 0)), (1, (2, 12, 0)), (2, (0, 0, 320)), (3, (0, 0, 159)), (4, (0, 1, 160)), (5, (0, (-2147483648), 2147483647)), (6, (0, 0, 4)), (7, (0, 0, 160)), (8, (0, 1, 160))], [(3, 4, (-1)), (3, 7, 0), (3, 8, (-1)), (4, 8, 0), (6, 4, 0), (6, 7, 0), (6, 8, 0), (7, 4, 0), (7, 6, 159), (7, 8, 0), (8, 4, 0)], [(0, 1, 1), (0, 2, 2), (0, 3, 7), (1, 1, 8)], [], [], [], none), [(1, none, none), (161, none, some 7), (1, none, none)], 0, 0)]
set_option maxRecDepth 100000 in
def qX49 : List zk_Hd := []
set_option maxRecDepth 100000 in
theorem qk49 : zk_chk qK qP49 prog_8_method_15_code 3 qC49 (some .boolean) qH49 qX49 104 3 = true := zk_chkD_ok (T := qdt_8_15) qdo_8_15 (by decide +kernel)
set_option maxRecDepth 100000 in
/-- java/lang/String.isLatin1()Z java/lang/String.indexOf(II)I@1java/lang/String.indexOf(I)I@3UnaskedLetters$RuleReader.readAtom(I)Z@84#6 -/
def qC50 : zk_C := ((1, [], [0], [(0, (2, 24, 0))], [], [], [], [], [], none), [(2, [], [1], [(0, (2, 24, 0)), (1, (0, 1, 1))], [], [], [], [], [], none)], [], 0, 0)
set_option maxRecDepth 100000 in
def qP50 : zk_P := ([(15, 13, 1, 4)], [], [], [], [(0, 3, (0, 1, 1))], [], [])
set_option maxRecDepth 100000 in
def qH50 : List zk_Hd := []
set_option maxRecDepth 100000 in
def qX50 : List zk_Hd := []
set_option maxRecDepth 100000 in
theorem qk50 : zk_chk qK qP50 prog_19_method_154_code 1 qC50 (some .boolean) qH50 qX50 68 0 = true := zk_chkD_ok (T := qdt_19_154) qdo_19_154 (by decide +kernel)
set_option maxRecDepth 100000 in
/-- java/lang/String.coder()B java/lang/String.length()I@6java/lang/String.indexOf(II)I@14java/lang/String.indexOf(I)I@3UnaskedLetters$RuleReader.readAtom(I)Z@84#6 -/
def qC51 : zk_C := ((1, [], [0], [(0, (2, 24, 0))], [], [], [], [], [], none), [(2, [], [1], [(0, (2, 24, 0)), (1, (0, 0, 0))], [], [], [], [], [], none)], [], 0, 0)
set_option maxRecDepth 100000 in
def qP51 : zk_P := ([(15, 13, 1, 4)], [], [], [], [(0, 3, (0, 1, 1))], [], [])
set_option maxRecDepth 100000 in
def qH51 : List zk_Hd := []
set_option maxRecDepth 100000 in
def qX51 : List zk_Hd := []
set_option maxRecDepth 100000 in
theorem qk51 : zk_chk qK qP51 prog_19_method_152_code 1 qC51 (some .byte) qH51 qX51 66 0 = true := zk_chkD_ok (T := qdt_19_152) qdo_19_152 (by decide +kernel)
set_option maxRecDepth 100000 in
/-- java/lang/String.length()I java/lang/String.indexOf(II)I@14java/lang/String.indexOf(I)I@3UnaskedLetters$RuleReader.readAtom(I)Z@84#6 -/
def qC52 : zk_C := ((1, [], [0], [(0, (2, 24, 0))], [], [], [], [], [], none), [(2, [], [1], [(0, (2, 24, 0)), (1, (0, 12, 12))], [], [], [], [], [], none)], [], 0, 0)
set_option maxRecDepth 100000 in
def qP52 : zk_P := ([(9, 13, 0, 4)], [], [], [], [], [(6, qC51)], [])
set_option maxRecDepth 100000 in
def qH52 : List zk_Hd := []
set_option maxRecDepth 100000 in
def qX52 : List zk_Hd := []
set_option maxRecDepth 100000 in
theorem qk52 : zk_chk qK qP52 prog_19_method_54_code 1 qC52 (some .int) qH52 qX52 67 0 = true := zk_chkD_ok (T := qdt_19_54) qdo_19_54 (by decide +kernel)
set_option maxRecDepth 100000 in
/-- java/lang/StringLatin1.canEncode(I)Z java/lang/StringLatin1.indexOf([BIII)I@1java/lang/String.indexOf(II)I@17java/lang/String.indexOf(I)I@3UnaskedLetters$RuleReader.readAtom(I)Z@84#6 -/
def qC53 : zk_C := ((1, [], [0], [(0, (0, 0, 255))], [], [], [], [], [], none), [(2, [], [1], [(0, (0, 0, 255)), (1, (0, 1, 1))], [], [], [], [], [], none)], [], 0, 0)
set_option maxRecDepth 100000 in
def qP53 : zk_P := ([], [], [], [], [], [], [])
set_option maxRecDepth 100000 in
def qH53 : List zk_Hd := []
set_option maxRecDepth 100000 in
def qX53 : List zk_Hd := []
set_option maxRecDepth 100000 in
theorem qk53 : zk_chk qK qP53 prog_20_method_4_code 1 qC53 (some .boolean) qH53 qX53 68 0 = true := zk_chkD_ok (T := qdt_20_4) qdo_20_4 (by decide +kernel)
set_option maxRecDepth 100000 in
/-- java/lang/Math.max(II)I java/lang/StringLatin1.indexOf([BIII)I@11java/lang/String.indexOf(II)I@17java/lang/String.indexOf(I)I@3UnaskedLetters$RuleReader.readAtom(I)Z@84#6 -/
def qC54 : zk_C := ((2, [], [0, 1], [(0, (0, 0, 0)), (1, (0, 0, 0))], [], [], [], [], [], none), [(2, [], [0], [(0, (0, 0, 0)), (1, (0, 0, 0))], [], [], [], [], [], none)], [], 0, 0)
set_option maxRecDepth 100000 in
def qP54 : zk_P := ([], [], [], [], [], [], [])
set_option maxRecDepth 100000 in
def qH54 : List zk_Hd := []
set_option maxRecDepth 100000 in
def qX54 : List zk_Hd := []
set_option maxRecDepth 100000 in
theorem qk54 : zk_chk qK qP54 prog_18_method_65_code 2 qC54 (some .int) qH54 qX54 66 0 = true := zk_chkD_ok (T := qdt_18_65) qdo_18_65 (by decide +kernel)
set_option maxRecDepth 100000 in
/-- java/lang/Math.min(II)I java/lang/StringLatin1.indexOf([BIII)I@18java/lang/String.indexOf(II)I@17java/lang/String.indexOf(I)I@3UnaskedLetters$RuleReader.readAtom(I)Z@84#6 -/
def qC55 : zk_C := ((2, [], [0, 1], [(0, (0, 12, 12)), (1, (0, 12, 12))], [], [], [], [], [], none), [(2, [], [0], [(0, (0, 12, 12)), (1, (0, 12, 12))], [], [], [], [], [], none)], [], 0, 0)
set_option maxRecDepth 100000 in
def qP55 : zk_P := ([], [], [], [], [], [], [])
set_option maxRecDepth 100000 in
def qH55 : List zk_Hd := []
set_option maxRecDepth 100000 in
def qX55 : List zk_Hd := []
set_option maxRecDepth 100000 in
theorem qk55 : zk_chk qK qP55 prog_18_method_69_code 2 qC55 (some .int) qH55 qX55 66 0 = true := zk_chkD_ok (T := qdt_18_69) qdo_18_69 (by decide +kernel)
set_option maxRecDepth 100000 in
/-- java/lang/StringLatin1.indexOfChar([BIII)I java/lang/StringLatin1.indexOf([BIII)I@33java/lang/String.indexOf(II)I@17java/lang/String.indexOf(I)I@3UnaskedLetters$RuleReader.readAtom(I)Z@84#6 -/
def qC56 : zk_C := ((4, [], [0, 1, 2, 3], [(0, (2, 23, 0)), (1, (0, 0, 255)), (2, (0, 0, 0)), (3, (0, 12, 12))], [], [], [], [], [], none), [(5, [], [4], [(0, (2, 23, 0)), (1, (0, 0, 255)), (2, (0, 0, 0)), (3, (0, 12, 12)), (4, (0, (-1), (-1)))], [], [], [], [], [], none), (5, [], [4], [(0, (2, 23, 0)), (1, (0, 0, 255)), (2, (0, 0, 0)), (3, (0, 12, 12)), (4, (0, 0, 11))], [], [], [], [], [], none)], [], 0, 0)
set_option maxRecDepth 100000 in
def qP56 : zk_P := ([], [], [], [], [], [], [])
set_option maxRecDepth 100000 in
def qH56 : List zk_Hd := [(7, (6, [(0, 0), (3, 3), (4, 4), (5, 5)], [], [(0, (2, 23, 0)), (1, (0, 0, 255)), (2, (0, 0, 0)), (3, (0, 12, 12)), (4, (0, (-128), 127)), (5, (0, 0, 12))], [], [], [], [], [], none), [(1, none, none), (13, none, some 5), (1, none, none)], 0, 0)]
set_option maxRecDepth 100000 in
def qX56 : List zk_Hd := []
set_option maxRecDepth 100000 in
theorem qk56 : zk_chk qK qP56 prog_20_method_23_code 6 qC56 (some .int) qH56 qX56 71 3 = true := zk_chkD_ok (T := qdt_20_23) qdo_20_23 (by decide +kernel)
set_option maxRecDepth 100000 in
/-- java/lang/StringLatin1.indexOf([BIII)I java/lang/String.indexOf(II)I@17java/lang/String.indexOf(I)I@3UnaskedLetters$RuleReader.readAtom(I)Z@84#6 -/
def qC57 : zk_C := ((4, [], [0, 1, 2, 3], [(0, (2, 23, 0)), (1, (0, 0, 255)), (2, (0, 0, 0)), (3, (0, 12, 12))], [], [], [], [], [], none), [(5, [], [4], [(0, (2, 23, 0)), (1, (0, 0, 255)), (2, (0, 0, 0)), (3, (0, 12, 12)), (4, (0, (-1), (-1)))], [], [], [], [], [], none), (5, [], [4], [(0, (2, 23, 0)), (1, (0, 0, 255)), (2, (0, 0, 0)), (3, (0, 12, 12)), (4, (0, 0, 11))], [], [], [], [], [], none)], [], 0, 0)
set_option maxRecDepth 100000 in
def qP57 : zk_P := ([], [], [], [], [], [(1, qC53), (11, qC54), (18, qC55), (33, qC56)], [])
set_option maxRecDepth 100000 in
def qH57 : List zk_Hd := []
set_option maxRecDepth 100000 in
def qX57 : List zk_Hd := []
set_option maxRecDepth 100000 in
theorem qk57 : zk_chk qK qP57 prog_20_method_22_code 4 qC57 (some .int) qH57 qX57 81 0 = true := zk_chkD_ok (T := qdt_20_22) qdo_20_22 (by decide +kernel)
set_option maxRecDepth 100000 in
/-- java/lang/String.indexOf(II)I java/lang/String.indexOf(I)I@3UnaskedLetters$RuleReader.readAtom(I)Z@84#6 -/
def qC58 : zk_C := ((3, [], [0, 1, 2], [(0, (2, 24, 0)), (1, (0, 0, 255)), (2, (0, 0, 0))], [], [], [], [], [], none), [(4, [], [3], [(0, (2, 24, 0)), (1, (0, 0, 255)), (2, (0, 0, 0)), (3, (0, (-1), (-1)))], [], [], [], [], [], none), (4, [], [3], [(0, (2, 24, 0)), (1, (0, 0, 255)), (2, (0, 0, 0)), (3, (0, 0, 11))], [], [], [], [], [], none)], [], 0, 0)
set_option maxRecDepth 100000 in
def qP58 : zk_P := ([(9, 13, 0, 4)], [], [], [], [], [(1, qC50), (14, qC52), (17, qC57)], [])
set_option maxRecDepth 100000 in
def qH58 : List zk_Hd := []
set_option maxRecDepth 100000 in
def qX58 : List zk_Hd := []
set_option maxRecDepth 100000 in
theorem qk58 : zk_chk qK qP58 prog_19_method_80_code 3 qC58 (some .int) qH58 qX58 72 0 = true := zk_chkD_ok (T := qdt_19_80) qdo_19_80 (by decide +kernel)
set_option maxRecDepth 100000 in
/-- java/lang/String.indexOf(I)I UnaskedLetters$RuleReader.readAtom(I)Z@84#6 -/
def qC59 : zk_C := ((2, [], [0, 1], [(0, (2, 24, 0)), (1, (0, 0, 255))], [], [], [], [], [], none), [(3, [], [2], [(0, (2, 24, 0)), (1, (0, 0, 255)), (2, (0, (-1), (-1)))], [], [], [], [], [], none), (3, [], [2], [(0, (2, 24, 0)), (1, (0, 0, 255)), (2, (0, 0, 11))], [], [], [], [], [], none)], [], 0, 0)
set_option maxRecDepth 100000 in
def qP59 : zk_P := ([], [], [], [], [], [(3, qC58)], [])
set_option maxRecDepth 100000 in
def qH59 : List zk_Hd := []
set_option maxRecDepth 100000 in
def qX59 : List zk_Hd := []
set_option maxRecDepth 100000 in
theorem qk59 : zk_chk qK qP59 prog_19_method_79_code 2 qC59 (some .int) qH59 qX59 65 0 = true := zk_chkD_ok (T := qdt_19_79) qdo_19_79 (by decide +kernel)
set_option maxRecDepth 100000 in
/-- UnaskedLetters$RuleReader.readAtom(I)Z #6 -/
def qC60 : zk_C := ((6, [], [0, 1], [(0, (2, 18, 0)), (1, (0, 6, 6)), (2, (2, 12, 0)), (3, (0, 0, 320)), (4, (0, 8, 160)), (5, (0, 8, 160))], [], [(0, 1, 2), (0, 2, 3), (0, 3, 4), (2, 1, 5)], [], [], [], none), [(8, [], [6], [(0, (2, 18, 0)), (1, (0, 6, 6)), (2, (2, 12, 0)), (3, (0, 0, 320)), (4, (0, 8, 160)), (5, (0, 8, 160)), (6, (0, 0, 0)), (7, (0, 8, 160))], [(4, 7, 0)], [(0, 1, 2), (0, 2, 3), (0, 3, 7), (2, 1, 5)], [], [], [], none), (9, [], [6], [(0, (2, 18, 0)), (1, (0, 6, 6)), (2, (2, 12, 0)), (3, (0, 320, 320)), (4, (0, 8, 159)), (5, (0, 9, 160)), (6, (0, 1, 1)), (7, (0, 9, 160)), (8, (0, 9, 160))], [(4, 5, (-1)), (4, 7, (-1)), (4, 8, (-1)), (5, 8, 0), (7, 5, 0), (7, 8, 0), (8, 5, 0)], [(0, 1, 2), (0, 2, 3), (0, 3, 7), (2, 1, 8)], [], [], [], none), (10, [], [6], [(0, (2, 18, 0)), (1, (0, 6, 6)), (2, (2, 12, 0)), (3, (0, 0, 319)), (4, (0, 8, 159)), (5, (0, 9, 160)), (6, (0, 1, 1)), (7, (0, 1, 320)), (8, (0, 9, 160)), (9, (0, 9, 160))], [(3, 7, (-1)), (4, 5, (-1)), (4, 8, (-1)), (4, 9, (-1)), (5, 9, 0), (7, 3, 1), (8, 5, 0), (8, 9, 0), (9, 5, 0)], [(0, 1, 2), (0, 2, 7), (0, 3, 8), (2, 1, 9)], [], [], [], none), (9, [], [6], [(0, (2, 18, 0)), (1, (0, 6, 6)), (2, (2, 12, 0)), (3, (0, 320, 320)), (4, (0, 8, 159)), (5, (0, 9, 160)), (6, (0, 1, 1)), (7, (0, 8, 159)), (8, (0, 9, 160))], [(4, 5, (-1)), (4, 7, 0), (4, 8, (-1)), (5, 8, 0), (7, 5, (-1)), (7, 8, (-1)), (8, 5, 0)], [(0, 1, 2), (0, 2, 3), (0, 3, 7), (2, 1, 8)], [], [], [], none), (10, [], [6], [(0, (2, 18, 0)), (1, (0, 6, 6)), (2, (2, 12, 0)), (3, (0, 0, 319)), (4, (0, 8, 159)), (5, (0, 9, 160)), (6, (0, 1, 1)), (7, (0, 1, 320)), (8, (0, 8, 159)), (9, (0, 9, 160))], [(3, 7, (-1)), (4, 5, (-1)), (4, 8, 0), (4, 9, (-1)), (5, 9, 0), (7, 3, 1), (8, 5, (-1)), (8, 9, (-1)), (9, 5, 0)], [(0, 1, 2), (0, 2, 7), (0, 3, 8), (2, 1, 9)], [], [], [], none)], [(18, 2), (18, 3), (20, 0)], 0, 0)
set_option maxRecDepth 100000 in
def qP60 : zk_P := ([(25, 6, 3, 0)], [], [], [], [(80, 2, (2, 24, 0))], [(1, qC36), (18, qC49), (84, qC59), (110, qC47)], [])
set_option maxRecDepth 100000 in
def qH60 : List zk_Hd := []
set_option maxRecDepth 100000 in
def qX60 : List zk_Hd := []
set_option maxRecDepth 100000 in
theorem qk60 : zk_chk qK qP60 prog_8_method_14_code 4 qC60 (some .boolean) qH60 qX60 95 0 = true := zk_chkD_ok (T := qdt_8_14) qdo_8_14 (by decide +kernel)
set_option maxRecDepth 100000 in
/-- UnaskedLetters$RuleReader.readTerm(I)Z #6 -/
def qC61 : zk_C := ((6, [], [0, 1], [(0, (2, 18, 0)), (1, (0, 6, 6)), (2, (2, 12, 0)), (3, (0, 0, 320)), (4, (0, 8, 160)), (5, (0, 8, 160))], [], [(0, 1, 2), (0, 2, 3), (0, 3, 4), (2, 1, 5)], [], [], [], none), [(10, [], [6], [(0, (2, 18, 0)), (1, (0, 6, 6)), (2, (2, 12, 0)), (3, (0, 0, 320)), (4, (0, 8, 159)), (5, (0, 9, 160)), (6, (0, 1, 1)), (7, (0, 1, 320)), (8, (0, 8, 160)), (9, (0, 9, 160))], [(3, 7, 0), (4, 5, (-1)), (4, 8, 0), (4, 9, (-1)), (5, 9, 0), (9, 5, 0)], [(0, 1, 2), (0, 2, 7), (0, 3, 8), (2, 1, 9)], [], [], [], none), (10, [], [6], [(0, (2, 18, 0)), (1, (0, 6, 6)), (2, (2, 12, 0)), (3, (0, 0, 320)), (4, (0, 8, 159)), (5, (0, 9, 160)), (6, (0, 0, 0)), (7, (0, 1, 320)), (8, (0, 9, 160)), (9, (0, 9, 160))], [(3, 7, 0), (4, 5, (-1)), (4, 8, (-1)), (4, 9, (-1)), (5, 9, 0), (9, 5, 0)], [(0, 1, 2), (0, 2, 7), (0, 3, 8), (2, 1, 9)], [], [], [], none), (8, [], [6], [(0, (2, 18, 0)), (1, (0, 6, 6)), (2, (2, 12, 0)), (3, (0, 0, 320)), (4, (0, 8, 160)), (5, (0, 8, 160)), (6, (0, 0, 0)), (7, (0, 8, 160))], [(4, 7, 0)], [(0, 1, 2), (0, 2, 3), (0, 3, 7), (2, 1, 5)], [], [], [], none)], [(18, 2), (18, 3), (20, 0)], 0, 0)
set_option maxRecDepth 100000 in
def qP61 : zk_P := ([(25, 6, 3, 0)], [], [], [], [], [(2, qC60), (20, qC36), (50, qC60), (64, qC47)], [])
set_option maxRecDepth 100000 in
def qH61 : List zk_Hd := [(12, (10, [(0, 0), (1, 1), (2, 6)], [], [(0, (2, 18, 0)), (1, (0, 6, 6)), (2, (2, 12, 0)), (3, (0, 0, 320)), (4, (0, 8, 159)), (5, (0, 9, 160)), (6, (0, 0, 160)), (7, (0, 1, 320)), (8, (0, 8, 160)), (9, (0, 9, 160))], [(3, 7, 0), (4, 5, (-1)), (4, 8, 0), (4, 9, (-1)), (5, 9, 0), (8, 5, 0), (8, 9, 0), (9, 5, 0)], [(0, 1, 2), (0, 2, 7), (0, 3, 8), (2, 1, 9)], [], [], [], none), [(1, none, none), (161, none, some 8), (1, none, none)], 0, 0)]
set_option maxRecDepth 100000 in
def qX61 : List zk_Hd := []
set_option maxRecDepth 100000 in
theorem qk61 : zk_chk qK qP61 prog_8_method_13_code 4 qC61 (some .boolean) qH61 qX61 90 3 = true := zk_chkD_ok (T := qdt_8_13) qdo_8_13 (by decide +kernel)
set_option maxRecDepth 100000 in
/-- UnaskedLetters$RuleReader.readSum(I)Z #6 -/
def qC62 : zk_C := ((6, [], [0, 1], [(0, (2, 18, 0)), (1, (0, 6, 6)), (2, (2, 12, 0)), (3, (0, 0, 320)), (4, (0, 8, 160)), (5, (0, 8, 160))], [], [(0, 1, 2), (0, 2, 3), (0, 3, 4), (2, 1, 5)], [], [], [], none), [(10, [], [6], [(0, (2, 18, 0)), (1, (0, 6, 6)), (2, (2, 12, 0)), (3, (0, 0, 320)), (4, (0, 8, 159)), (5, (0, 9, 160)), (6, (0, 1, 1)), (7, (0, 1, 320)), (8, (0, 8, 160)), (9, (0, 9, 160))], [(3, 7, 0), (4, 5, (-1)), (4, 8, 0), (4, 9, (-1)), (5, 9, 0), (9, 5, 0)], [(0, 1, 2), (0, 2, 7), (0, 3, 8), (2, 1, 9)], [], [], [], none), (10, [], [6], [(0, (2, 18, 0)), (1, (0, 6, 6)), (2, (2, 12, 0)), (3, (0, 0, 320)), (4, (0, 8, 159)), (5, (0, 9, 160)), (6, (0, 0, 0)), (7, (0, 1, 320)), (8, (0, 9, 160)), (9, (0, 9, 160))], [(3, 7, 0), (4, 5, (-1)), (4, 8, (-1)), (4, 9, (-1)), (5, 9, 0), (9, 5, 0)], [(0, 1, 2), (0, 2, 7), (0, 3, 8), (2, 1, 9)], [], [], [], none), (8, [], [6], [(0, (2, 18, 0)), (1, (0, 6, 6)), (2, (2, 12, 0)), (3, (0, 0, 320)), (4, (0, 8, 160)), (5, (0, 8, 160)), (6, (0, 0, 0)), (7, (0, 8, 160))], [(4, 7, 0)], [(0, 1, 2), (0, 2, 3), (0, 3, 7), (2, 1, 5)], [], [], [], none)], [(18, 2), (18, 3), (20, 0)], 0, 0)
set_option maxRecDepth 100000 in
def qP62 : zk_P := ([(25, 6, 3, 0)], [], [], [], [], [(2, qC61), (20, qC36), (50, qC61), (64, qC47)], [])
set_option maxRecDepth 100000 in
def qH62 : List zk_Hd := [(12, (10, [(0, 0), (1, 1), (2, 6)], [], [(0, (2, 18, 0)), (1, (0, 6, 6)), (2, (2, 12, 0)), (3, (0, 0, 320)), (4, (0, 8, 159)), (5, (0, 9, 160)), (6, (0, 0, 160)), (7, (0, 1, 320)), (8, (0, 8, 160)), (9, (0, 9, 160))], [(3, 7, 0), (4, 5, (-1)), (4, 8, 0), (4, 9, (-1)), (5, 9, 0), (9, 5, 0)], [(0, 1, 2), (0, 2, 7), (0, 3, 8), (2, 1, 9)], [], [], [], none), [(1, none, none), (161, none, some 8), (1, none, none)], 0, 0)]
set_option maxRecDepth 100000 in
def qX62 : List zk_Hd := []
set_option maxRecDepth 100000 in
theorem qk62 : zk_chk qK qP62 prog_8_method_12_code 4 qC62 (some .boolean) qH62 qX62 90 3 = true := zk_chkD_ok (T := qdt_8_12) qdo_8_12 (by decide +kernel)
set_option maxRecDepth 100000 in
/-- java/lang/String.isLatin1()Z java/lang/String.indexOf(II)I@1java/lang/String.indexOf(I)I@3UnaskedLetters$RuleReader.readAtom(I)Z@84#5 -/
def qC63 : zk_C := ((1, [], [0], [(0, (2, 24, 0))], [], [], [], [], [], none), [(2, [], [1], [(0, (2, 24, 0)), (1, (0, 1, 1))], [], [], [], [], [], none)], [], 0, 0)
set_option maxRecDepth 100000 in
def qP63 : zk_P := ([(15, 13, 1, 4)], [], [], [], [(0, 3, (0, 1, 1))], [], [])
set_option maxRecDepth 100000 in
def qH63 : List zk_Hd := []
set_option maxRecDepth 100000 in
def qX63 : List zk_Hd := []
set_option maxRecDepth 100000 in
theorem qk63 : zk_chk qK qP63 prog_19_method_154_code 1 qC63 (some .boolean) qH63 qX63 68 0 = true := zk_chkD_ok (T := qdt_19_154) qdo_19_154 (by decide +kernel)
set_option maxRecDepth 100000 in
/-- java/lang/String.coder()B java/lang/String.length()I@6java/lang/String.indexOf(II)I@14java/lang/String.indexOf(I)I@3UnaskedLetters$RuleReader.readAtom(I)Z@84#5 -/
def qC64 : zk_C := ((1, [], [0], [(0, (2, 24, 0))], [], [], [], [], [], none), [(2, [], [1], [(0, (2, 24, 0)), (1, (0, 0, 0))], [], [], [], [], [], none)], [], 0, 0)
set_option maxRecDepth 100000 in
def qP64 : zk_P := ([(15, 13, 1, 4)], [], [], [], [(0, 3, (0, 1, 1))], [], [])
set_option maxRecDepth 100000 in
def qH64 : List zk_Hd := []
set_option maxRecDepth 100000 in
def qX64 : List zk_Hd := []
set_option maxRecDepth 100000 in
theorem qk64 : zk_chk qK qP64 prog_19_method_152_code 1 qC64 (some .byte) qH64 qX64 66 0 = true := zk_chkD_ok (T := qdt_19_152) qdo_19_152 (by decide +kernel)
set_option maxRecDepth 100000 in
/-- java/lang/String.length()I java/lang/String.indexOf(II)I@14java/lang/String.indexOf(I)I@3UnaskedLetters$RuleReader.readAtom(I)Z@84#5 -/
def qC65 : zk_C := ((1, [], [0], [(0, (2, 24, 0))], [], [], [], [], [], none), [(2, [], [1], [(0, (2, 24, 0)), (1, (0, 12, 12))], [], [], [], [], [], none)], [], 0, 0)
set_option maxRecDepth 100000 in
def qP65 : zk_P := ([(9, 13, 0, 4)], [], [], [], [], [(6, qC64)], [])
set_option maxRecDepth 100000 in
def qH65 : List zk_Hd := []
set_option maxRecDepth 100000 in
def qX65 : List zk_Hd := []
set_option maxRecDepth 100000 in
theorem qk65 : zk_chk qK qP65 prog_19_method_54_code 1 qC65 (some .int) qH65 qX65 67 0 = true := zk_chkD_ok (T := qdt_19_54) qdo_19_54 (by decide +kernel)
set_option maxRecDepth 100000 in
/-- java/lang/StringLatin1.canEncode(I)Z java/lang/StringLatin1.indexOf([BIII)I@1java/lang/String.indexOf(II)I@17java/lang/String.indexOf(I)I@3UnaskedLetters$RuleReader.readAtom(I)Z@84#5 -/
def qC66 : zk_C := ((1, [], [0], [(0, (0, 0, 255))], [], [], [], [], [], none), [(2, [], [1], [(0, (0, 0, 255)), (1, (0, 1, 1))], [], [], [], [], [], none)], [], 0, 0)
set_option maxRecDepth 100000 in
def qP66 : zk_P := ([], [], [], [], [], [], [])
set_option maxRecDepth 100000 in
def qH66 : List zk_Hd := []
set_option maxRecDepth 100000 in
def qX66 : List zk_Hd := []
set_option maxRecDepth 100000 in
theorem qk66 : zk_chk qK qP66 prog_20_method_4_code 1 qC66 (some .boolean) qH66 qX66 68 0 = true := zk_chkD_ok (T := qdt_20_4) qdo_20_4 (by decide +kernel)
set_option maxRecDepth 100000 in
/-- java/lang/Math.max(II)I java/lang/StringLatin1.indexOf([BIII)I@11java/lang/String.indexOf(II)I@17java/lang/String.indexOf(I)I@3UnaskedLetters$RuleReader.readAtom(I)Z@84#5 -/
def qC67 : zk_C := ((2, [], [0, 1], [(0, (0, 0, 0)), (1, (0, 0, 0))], [], [], [], [], [], none), [(2, [], [0], [(0, (0, 0, 0)), (1, (0, 0, 0))], [], [], [], [], [], none)], [], 0, 0)
set_option maxRecDepth 100000 in
def qP67 : zk_P := ([], [], [], [], [], [], [])
set_option maxRecDepth 100000 in
def qH67 : List zk_Hd := []
set_option maxRecDepth 100000 in
def qX67 : List zk_Hd := []
set_option maxRecDepth 100000 in
theorem qk67 : zk_chk qK qP67 prog_18_method_65_code 2 qC67 (some .int) qH67 qX67 66 0 = true := zk_chkD_ok (T := qdt_18_65) qdo_18_65 (by decide +kernel)
set_option maxRecDepth 100000 in
/-- java/lang/Math.min(II)I java/lang/StringLatin1.indexOf([BIII)I@18java/lang/String.indexOf(II)I@17java/lang/String.indexOf(I)I@3UnaskedLetters$RuleReader.readAtom(I)Z@84#5 -/
def qC68 : zk_C := ((2, [], [0, 1], [(0, (0, 12, 12)), (1, (0, 12, 12))], [], [], [], [], [], none), [(2, [], [0], [(0, (0, 12, 12)), (1, (0, 12, 12))], [], [], [], [], [], none)], [], 0, 0)
set_option maxRecDepth 100000 in
def qP68 : zk_P := ([], [], [], [], [], [], [])
set_option maxRecDepth 100000 in
def qH68 : List zk_Hd := []
set_option maxRecDepth 100000 in
def qX68 : List zk_Hd := []
set_option maxRecDepth 100000 in
theorem qk68 : zk_chk qK qP68 prog_18_method_69_code 2 qC68 (some .int) qH68 qX68 66 0 = true := zk_chkD_ok (T := qdt_18_69) qdo_18_69 (by decide +kernel)
set_option maxRecDepth 100000 in
/-- java/lang/StringLatin1.indexOfChar([BIII)I java/lang/StringLatin1.indexOf([BIII)I@33java/lang/String.indexOf(II)I@17java/lang/String.indexOf(I)I@3UnaskedLetters$RuleReader.readAtom(I)Z@84#5 -/
def qC69 : zk_C := ((4, [], [0, 1, 2, 3], [(0, (2, 23, 0)), (1, (0, 0, 255)), (2, (0, 0, 0)), (3, (0, 12, 12))], [], [], [], [], [], none), [(5, [], [4], [(0, (2, 23, 0)), (1, (0, 0, 255)), (2, (0, 0, 0)), (3, (0, 12, 12)), (4, (0, (-1), (-1)))], [], [], [], [], [], none), (5, [], [4], [(0, (2, 23, 0)), (1, (0, 0, 255)), (2, (0, 0, 0)), (3, (0, 12, 12)), (4, (0, 0, 11))], [], [], [], [], [], none)], [], 0, 0)
set_option maxRecDepth 100000 in
def qP69 : zk_P := ([], [], [], [], [], [], [])
set_option maxRecDepth 100000 in
def qH69 : List zk_Hd := [(7, (6, [(0, 0), (3, 3), (4, 4), (5, 5)], [], [(0, (2, 23, 0)), (1, (0, 0, 255)), (2, (0, 0, 0)), (3, (0, 12, 12)), (4, (0, (-128), 127)), (5, (0, 0, 12))], [], [], [], [], [], none), [(1, none, none), (13, none, some 5), (1, none, none)], 0, 0)]
set_option maxRecDepth 100000 in
def qX69 : List zk_Hd := []
set_option maxRecDepth 100000 in
theorem qk69 : zk_chk qK qP69 prog_20_method_23_code 6 qC69 (some .int) qH69 qX69 71 3 = true := zk_chkD_ok (T := qdt_20_23) qdo_20_23 (by decide +kernel)
set_option maxRecDepth 100000 in
/-- java/lang/StringLatin1.indexOf([BIII)I java/lang/String.indexOf(II)I@17java/lang/String.indexOf(I)I@3UnaskedLetters$RuleReader.readAtom(I)Z@84#5 -/
def qC70 : zk_C := ((4, [], [0, 1, 2, 3], [(0, (2, 23, 0)), (1, (0, 0, 255)), (2, (0, 0, 0)), (3, (0, 12, 12))], [], [], [], [], [], none), [(5, [], [4], [(0, (2, 23, 0)), (1, (0, 0, 255)), (2, (0, 0, 0)), (3, (0, 12, 12)), (4, (0, (-1), (-1)))], [], [], [], [], [], none), (5, [], [4], [(0, (2, 23, 0)), (1, (0, 0, 255)), (2, (0, 0, 0)), (3, (0, 12, 12)), (4, (0, 0, 11))], [], [], [], [], [], none)], [], 0, 0)
set_option maxRecDepth 100000 in
def qP70 : zk_P := ([], [], [], [], [], [(1, qC66), (11, qC67), (18, qC68), (33, qC69)], [])
set_option maxRecDepth 100000 in
def qH70 : List zk_Hd := []
set_option maxRecDepth 100000 in
def qX70 : List zk_Hd := []
set_option maxRecDepth 100000 in
theorem qk70 : zk_chk qK qP70 prog_20_method_22_code 4 qC70 (some .int) qH70 qX70 81 0 = true := zk_chkD_ok (T := qdt_20_22) qdo_20_22 (by decide +kernel)
set_option maxRecDepth 100000 in
/-- java/lang/String.indexOf(II)I java/lang/String.indexOf(I)I@3UnaskedLetters$RuleReader.readAtom(I)Z@84#5 -/
def qC71 : zk_C := ((3, [], [0, 1, 2], [(0, (2, 24, 0)), (1, (0, 0, 255)), (2, (0, 0, 0))], [], [], [], [], [], none), [(4, [], [3], [(0, (2, 24, 0)), (1, (0, 0, 255)), (2, (0, 0, 0)), (3, (0, (-1), (-1)))], [], [], [], [], [], none), (4, [], [3], [(0, (2, 24, 0)), (1, (0, 0, 255)), (2, (0, 0, 0)), (3, (0, 0, 11))], [], [], [], [], [], none)], [], 0, 0)
set_option maxRecDepth 100000 in
def qP71 : zk_P := ([(9, 13, 0, 4)], [], [], [], [], [(1, qC63), (14, qC65), (17, qC70)], [])
set_option maxRecDepth 100000 in
def qH71 : List zk_Hd := []
set_option maxRecDepth 100000 in
def qX71 : List zk_Hd := []
set_option maxRecDepth 100000 in
theorem qk71 : zk_chk qK qP71 prog_19_method_80_code 3 qC71 (some .int) qH71 qX71 72 0 = true := zk_chkD_ok (T := qdt_19_80) qdo_19_80 (by decide +kernel)
set_option maxRecDepth 100000 in
/-- java/lang/String.indexOf(I)I UnaskedLetters$RuleReader.readAtom(I)Z@84#5 -/
def qC72 : zk_C := ((2, [], [0, 1], [(0, (2, 24, 0)), (1, (0, 0, 255))], [], [], [], [], [], none), [(3, [], [2], [(0, (2, 24, 0)), (1, (0, 0, 255)), (2, (0, (-1), (-1)))], [], [], [], [], [], none), (3, [], [2], [(0, (2, 24, 0)), (1, (0, 0, 255)), (2, (0, 0, 11))], [], [], [], [], [], none)], [], 0, 0)
set_option maxRecDepth 100000 in
def qP72 : zk_P := ([], [], [], [], [], [(3, qC71)], [])
set_option maxRecDepth 100000 in
def qH72 : List zk_Hd := []
set_option maxRecDepth 100000 in
def qX72 : List zk_Hd := []
set_option maxRecDepth 100000 in
theorem qk72 : zk_chk qK qP72 prog_19_method_79_code 2 qC72 (some .int) qH72 qX72 65 0 = true := zk_chkD_ok (T := qdt_19_79) qdo_19_79 (by decide +kernel)
set_option maxRecDepth 100000 in
/-- UnaskedLetters$RuleReader.readAtom(I)Z #5 -/
def qC73 : zk_C := ((6, [], [0, 1], [(0, (2, 18, 0)), (1, (0, 5, 5)), (2, (2, 12, 0)), (3, (0, 0, 320)), (4, (0, 7, 160)), (5, (0, 7, 160))], [], [(0, 1, 2), (0, 2, 3), (0, 3, 4), (2, 1, 5)], [], [], [], none), [(8, [], [6], [(0, (2, 18, 0)), (1, (0, 5, 5)), (2, (2, 12, 0)), (3, (0, 0, 320)), (4, (0, 7, 160)), (5, (0, 7, 160)), (6, (0, 0, 0)), (7, (0, 7, 160))], [(4, 7, 0)], [(0, 1, 2), (0, 2, 3), (0, 3, 7), (2, 1, 5)], [], [], [], none), (9, [], [6], [(0, (2, 18, 0)), (1, (0, 5, 5)), (2, (2, 12, 0)), (3, (0, 320, 320)), (4, (0, 7, 159)), (5, (0, 8, 160)), (6, (0, 1, 1)), (7, (0, 8, 160)), (8, (0, 8, 160))], [(4, 5, (-1)), (4, 7, (-1)), (4, 8, (-1)), (5, 8, 0), (7, 5, 0), (7, 8, 0), (8, 5, 0)], [(0, 1, 2), (0, 2, 3), (0, 3, 7), (2, 1, 8)], [], [], [], none), (10, [], [6], [(0, (2, 18, 0)), (1, (0, 5, 5)), (2, (2, 12, 0)), (3, (0, 0, 319)), (4, (0, 7, 159)), (5, (0, 8, 160)), (6, (0, 1, 1)), (7, (0, 1, 320)), (8, (0, 8, 160)), (9, (0, 8, 160))], [(3, 7, (-1)), (4, 5, (-1)), (4, 8, (-1)), (4, 9, (-1)), (5, 9, 0), (7, 3, 1), (8, 5, 0), (8, 9, 0), (9, 5, 0)], [(0, 1, 2), (0, 2, 7), (0, 3, 8), (2, 1, 9)], [], [], [], none), (10, [], [6], [(0, (2, 18, 0)), (1, (0, 5, 5)), (2, (2, 12, 0)), (3, (0, 0, 320)), (4, (0, 7, 158)), (5, (0, 9, 160)), (6, (0, 0, 0)), (7, (0, 1, 320)), (8, (0, 8, 160)), (9, (0, 9, 160))], [(3, 7, 0), (4, 5, (-2)), (4, 8, (-1)), (4, 9, (-2)), (5, 9, 0), (9, 5, 0)], [(0, 1, 2), (0, 2, 7), (0, 3, 8), (2, 1, 9)], [], [], [], none), (10, [], [6], [(0, (2, 18, 0)), (1, (0, 5, 5)), (2, (2, 12, 0)), (3, (0, 0, 320)), (4, (0, 7, 158)), (5, (0, 9, 160)), (6, (0, 1, 1)), (7, (0, 1, 320)), (8, (0, 9, 160)), (9, (0, 9, 160))], [(3, 7, 0), (4, 5, (-2)), (4, 8, (-2)), (4, 9, (-2)), (5, 9, 0), (8, 5, 0), (8, 9, 0), (9, 5, 0)], [(0, 1, 2), (0, 2, 7), (0, 3, 8), (2, 1, 9)], [], [], [], none), (9, [], [6], [(0, (2, 18, 0)), (1, (0, 5, 5)), (2, (2, 12, 0)), (3, (0, 320, 320)), (4, (0, 7, 159)), (5, (0, 8, 160)), (6, (0, 1, 1)), (7, (0, 7, 159)), (8, (0, 8, 160))], [(4, 5, (-1)), (4, 7, 0), (4, 8, (-1)), (5, 8, 0), (7, 5, (-1)), (7, 8, (-1)), (8, 5, 0)], [(0, 1, 2), (0, 2, 3), (0, 3, 7), (2, 1, 8)], [], [], [], none), (10, [], [6], [(0, (2, 18, 0)), (1, (0, 5, 5)), (2, (2, 12, 0)), (3, (0, 0, 319)), (4, (0, 7, 159)), (5, (0, 8, 160)), (6, (0, 1, 1)), (7, (0, 1, 320)), (8, (0, 7, 159)), (9, (0, 8, 160))], [(3, 7, (-1)), (4, 5, (-1)), (4, 8, 0), (4, 9, (-1)), (5, 9, 0), (7, 3, 1), (8, 5, (-1)), (8, 9, (-1)), (9, 5, 0)], [(0, 1, 2), (0, 2, 7), (0, 3, 8), (2, 1, 9)], [], [], [], none)], [(18, 2), (18, 3), (20, 0)], 0, 0)
set_option maxRecDepth 100000 in
def qP73 : zk_P := ([(25, 6, 3, 0)], [], [], [], [(80, 2, (2, 24, 0))], [(1, qC36), (18, qC49), (50, qC62), (59, qC48), (84, qC72), (110, qC47)], [])
set_option maxRecDepth 100000 in
def qH73 : List zk_Hd := []
set_option maxRecDepth 100000 in
def qX73 : List zk_Hd := []
set_option maxRecDepth 100000 in
theorem qk73 : zk_chk qK qP73 prog_8_method_14_code 4 qC73 (some .boolean) qH73 qX73 95 0 = true := zk_chkD_ok (T := qdt_8_14) qdo_8_14 (by decide +kernel)
end
