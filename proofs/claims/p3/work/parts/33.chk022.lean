/-! CONTRACTS: found by wip/an (python). -/
noncomputable section
set_option maxRecDepth 100000 in
/-- UnaskedLetters$LetterReader.take(I)V  -/
def qC438 : zk_C := ((5, [], [0, 1], [(0, (2, 15, 0)), (1, (0, (-2147483648), 2147483647)), (2, (0, 0, 160)), (3, (1, (-9223372036854775808), 9223372036854775807)), (4, (0, 0, 12))], [], [(0, 1, 2), (0, 2, 3), (0, 3, 4)], [], [], [], none), [(8, [], [], [(0, (2, 15, 0)), (1, (0, (-2147483648), 2147483647)), (2, (0, 0, 160)), (3, (1, (-9223372036854775808), 9223372036854775807)), (4, (0, 0, 12)), (5, (0, 0, 160)), (6, (1, (-9223372036854775808), 9223372036854775807)), (7, (0, 0, 12))], [(2, 5, 0), (5, 2, 1), (7, 4, 1)], [(0, 1, 5), (0, 2, 6), (0, 3, 7)], [], [], [], none)], [(15, 1), (15, 2), (15, 3), (17, 0)], 0, 0)
set_option maxRecDepth 100000 in
def qP438 : zk_P := ([(41, 2, 3, 0), (34, 2, 1, 0), (11, 2, 0, 4), (37, 2, 2, 1)], [], [], [], [], [(1, qC34), (77, qC437)], [])
set_option maxRecDepth 100000 in
def qH438 : List zk_Hd := []
set_option maxRecDepth 100000 in
def qX438 : List zk_Hd := []
set_option maxRecDepth 100000 in
theorem qk438 : zk_chk qK qP438 prog_4_method_5_code 2 qC438 none qH438 qX438 93 0 = true := zk_chkD_ok (T := qdt_4_5) qdo_4_5 (by decide +kernel)
set_option maxRecDepth 100000 in
/-- java/lang/String.isLatin1()Z java/lang/String.indexOf(II)I@1java/lang/String.indexOf(I)I@3UnaskedLetters$LetterReader.folded(I)I@4 -/
def qC439 : zk_C := ((1, [], [0], [(0, (2, 117, 0))], [], [], [], [], [], none), [(2, [], [1], [(0, (2, 117, 0)), (1, (0, 1, 1))], [], [], [], [], [], none)], [], 0, 0)
set_option maxRecDepth 100000 in
def qP439 : zk_P := ([(15, 13, 1, 4)], [], [], [], [(0, 3, (0, 1, 1))], [], [])
set_option maxRecDepth 100000 in
def qH439 : List zk_Hd := []
set_option maxRecDepth 100000 in
def qX439 : List zk_Hd := []
set_option maxRecDepth 100000 in
theorem qk439 : zk_chk qK qP439 prog_19_method_154_code 1 qC439 (some .boolean) qH439 qX439 68 0 = true := zk_chkD_ok (T := qdt_19_154) qdo_19_154 (by decide +kernel)
set_option maxRecDepth 100000 in
/-- java/lang/String.coder()B java/lang/String.length()I@6java/lang/String.indexOf(II)I@14java/lang/String.indexOf(I)I@3UnaskedLetters$LetterReader.folded(I)I@4 -/
def qC440 : zk_C := ((1, [], [0], [(0, (2, 117, 0))], [], [], [], [], [], none), [(2, [], [1], [(0, (2, 117, 0)), (1, (0, 0, 0))], [], [], [], [], [], none)], [], 0, 0)
set_option maxRecDepth 100000 in
def qP440 : zk_P := ([(15, 13, 1, 4)], [], [], [], [(0, 3, (0, 1, 1))], [], [])
set_option maxRecDepth 100000 in
def qH440 : List zk_Hd := []
set_option maxRecDepth 100000 in
def qX440 : List zk_Hd := []
set_option maxRecDepth 100000 in
theorem qk440 : zk_chk qK qP440 prog_19_method_152_code 1 qC440 (some .byte) qH440 qX440 66 0 = true := zk_chkD_ok (T := qdt_19_152) qdo_19_152 (by decide +kernel)
set_option maxRecDepth 100000 in
/-- java/lang/String.length()I java/lang/String.indexOf(II)I@14java/lang/String.indexOf(I)I@3UnaskedLetters$LetterReader.folded(I)I@4 -/
def qC441 : zk_C := ((1, [], [0], [(0, (2, 117, 0))], [], [], [], [], [], none), [(2, [], [1], [(0, (2, 117, 0)), (1, (0, 4, 4))], [], [], [], [], [], none)], [], 0, 0)
set_option maxRecDepth 100000 in
def qP441 : zk_P := ([(9, 13, 0, 4)], [], [], [], [], [(6, qC440)], [])
set_option maxRecDepth 100000 in
def qH441 : List zk_Hd := []
set_option maxRecDepth 100000 in
def qX441 : List zk_Hd := []
set_option maxRecDepth 100000 in
theorem qk441 : zk_chk qK qP441 prog_19_method_54_code 1 qC441 (some .int) qH441 qX441 67 0 = true := zk_chkD_ok (T := qdt_19_54) qdo_19_54 (by decide +kernel)
set_option maxRecDepth 100000 in
/-- java/lang/StringLatin1.canEncode(I)Z java/lang/StringLatin1.indexOf([BIII)I@1java/lang/String.indexOf(II)I@17java/lang/String.indexOf(I)I@3UnaskedLetters$LetterReader.folded(I)I@4 -/
def qC442 : zk_C := ((1, [], [0], [(0, (0, 0, 65535))], [], [], [], [], [], none), [(2, [], [1], [(0, (0, 256, 65535)), (1, (0, 0, 0))], [], [], [], [], [], none), (2, [], [1], [(0, (0, 0, 255)), (1, (0, 1, 1))], [], [], [], [], [], none)], [], 0, 0)
set_option maxRecDepth 100000 in
def qP442 : zk_P := ([], [], [], [], [], [], [])
set_option maxRecDepth 100000 in
def qH442 : List zk_Hd := []
set_option maxRecDepth 100000 in
def qX442 : List zk_Hd := []
set_option maxRecDepth 100000 in
theorem qk442 : zk_chk qK qP442 prog_20_method_4_code 1 qC442 (some .boolean) qH442 qX442 68 0 = true := zk_chkD_ok (T := qdt_20_4) qdo_20_4 (by decide +kernel)
set_option maxRecDepth 100000 in
/-- java/lang/Math.max(II)I java/lang/StringLatin1.indexOf([BIII)I@11java/lang/String.indexOf(II)I@17java/lang/String.indexOf(I)I@3UnaskedLetters$LetterReader.folded(I)I@4 -/
def qC443 : zk_C := ((2, [], [0, 1], [(0, (0, 0, 0)), (1, (0, 0, 0))], [], [], [], [], [], none), [(2, [], [0], [(0, (0, 0, 0)), (1, (0, 0, 0))], [], [], [], [], [], none)], [], 0, 0)
set_option maxRecDepth 100000 in
def qP443 : zk_P := ([], [], [], [], [], [], [])
set_option maxRecDepth 100000 in
def qH443 : List zk_Hd := []
set_option maxRecDepth 100000 in
def qX443 : List zk_Hd := []
set_option maxRecDepth 100000 in
theorem qk443 : zk_chk qK qP443 prog_18_method_65_code 2 qC443 (some .int) qH443 qX443 66 0 = true := zk_chkD_ok (T := qdt_18_65) qdo_18_65 (by decide +kernel)
set_option maxRecDepth 100000 in
/-- java/lang/Math.min(II)I java/lang/StringLatin1.indexOf([BIII)I@18java/lang/String.indexOf(II)I@17java/lang/String.indexOf(I)I@3UnaskedLetters$LetterReader.folded(I)I@4 -/
def qC444 : zk_C := ((2, [], [0, 1], [(0, (0, 4, 4)), (1, (0, 4, 4))], [], [], [], [], [], none), [(2, [], [0], [(0, (0, 4, 4)), (1, (0, 4, 4))], [], [], [], [], [], none)], [], 0, 0)
set_option maxRecDepth 100000 in
def qP444 : zk_P := ([], [], [], [], [], [], [])
set_option maxRecDepth 100000 in
def qH444 : List zk_Hd := []
set_option maxRecDepth 100000 in
def qX444 : List zk_Hd := []
set_option maxRecDepth 100000 in
theorem qk444 : zk_chk qK qP444 prog_18_method_69_code 2 qC444 (some .int) qH444 qX444 66 0 = true := zk_chkD_ok (T := qdt_18_69) qdo_18_69 (by decide +kernel)
set_option maxRecDepth 100000 in
/-- java/lang/StringLatin1.indexOfChar([BIII)I java/lang/StringLatin1.indexOf([BIII)I@33java/lang/String.indexOf(II)I@17java/lang/String.indexOf(I)I@3UnaskedLetters$LetterReader.folded(I)I@4 -/
def qC445 : zk_C := ((4, [], [0, 1, 2, 3], [(0, (2, 116, 0)), (1, (0, 0, 255)), (2, (0, 0, 0)), (3, (0, 4, 4))], [], [], [], [], [], none), [(5, [], [4], [(0, (2, 116, 0)), (1, (0, 0, 255)), (2, (0, 0, 0)), (3, (0, 4, 4)), (4, (0, (-1), (-1)))], [], [], [], [], [], none), (5, [], [4], [(0, (2, 116, 0)), (1, (0, 0, 255)), (2, (0, 0, 0)), (3, (0, 4, 4)), (4, (0, 0, 3))], [], [], [], [], [], none)], [], 0, 0)
set_option maxRecDepth 100000 in
def qP445 : zk_P := ([], [], [], [], [], [], [])
set_option maxRecDepth 100000 in
def qH445 : List zk_Hd := [(7, (6, [(0, 0), (3, 3), (4, 4), (5, 5)], [], [(0, (2, 116, 0)), (1, (0, 0, 255)), (2, (0, 0, 0)), (3, (0, 4, 4)), (4, (0, (-128), 127)), (5, (0, 0, 4))], [], [], [], [], [], none), [(1, none, none), (5, none, some 5), (1, none, none)], 0, 0)]
set_option maxRecDepth 100000 in
def qX445 : List zk_Hd := []
set_option maxRecDepth 100000 in
theorem qk445 : zk_chk qK qP445 prog_20_method_23_code 6 qC445 (some .int) qH445 qX445 71 3 = true := zk_chkD_ok (T := qdt_20_23) qdo_20_23 (by decide +kernel)
set_option maxRecDepth 100000 in
/-- java/lang/StringLatin1.indexOf([BIII)I java/lang/String.indexOf(II)I@17java/lang/String.indexOf(I)I@3UnaskedLetters$LetterReader.folded(I)I@4 -/
def qC446 : zk_C := ((4, [], [0, 1, 2, 3], [(0, (2, 116, 0)), (1, (0, 0, 65535)), (2, (0, 0, 0)), (3, (0, 4, 4))], [], [], [], [], [], none), [(5, [], [4], [(0, (2, 116, 0)), (1, (0, 256, 65535)), (2, (0, 0, 0)), (3, (0, 4, 4)), (4, (0, (-1), (-1)))], [], [], [], [], [], none), (5, [], [4], [(0, (2, 116, 0)), (1, (0, 0, 255)), (2, (0, 0, 0)), (3, (0, 4, 4)), (4, (0, (-1), (-1)))], [], [], [], [], [], none), (5, [], [4], [(0, (2, 116, 0)), (1, (0, 0, 255)), (2, (0, 0, 0)), (3, (0, 4, 4)), (4, (0, 0, 3))], [], [], [], [], [], none)], [], 0, 0)
set_option maxRecDepth 100000 in
def qP446 : zk_P := ([], [], [], [], [], [(1, qC442), (11, qC443), (18, qC444), (33, qC445)], [])
set_option maxRecDepth 100000 in
def qH446 : List zk_Hd := []
set_option maxRecDepth 100000 in
def qX446 : List zk_Hd := []
set_option maxRecDepth 100000 in
theorem qk446 : zk_chk qK qP446 prog_20_method_22_code 4 qC446 (some .int) qH446 qX446 81 0 = true := zk_chkD_ok (T := qdt_20_22) qdo_20_22 (by decide +kernel)
set_option maxRecDepth 100000 in
/-- java/lang/String.indexOf(II)I java/lang/String.indexOf(I)I@3UnaskedLetters$LetterReader.folded(I)I@4 -/
def qC447 : zk_C := ((3, [], [0, 1, 2], [(0, (2, 117, 0)), (1, (0, 0, 65535)), (2, (0, 0, 0))], [], [], [], [], [], none), [(4, [], [3], [(0, (2, 117, 0)), (1, (0, 256, 65535)), (2, (0, 0, 0)), (3, (0, (-1), (-1)))], [], [], [], [], [], none), (4, [], [3], [(0, (2, 117, 0)), (1, (0, 0, 255)), (2, (0, 0, 0)), (3, (0, (-1), (-1)))], [], [], [], [], [], none), (4, [], [3], [(0, (2, 117, 0)), (1, (0, 0, 255)), (2, (0, 0, 0)), (3, (0, 0, 3))], [], [], [], [], [], none)], [], 0, 0)
set_option maxRecDepth 100000 in
def qP447 : zk_P := ([(9, 13, 0, 4)], [], [], [], [], [(1, qC439), (14, qC441), (17, qC446)], [])
set_option maxRecDepth 100000 in
def qH447 : List zk_Hd := []
set_option maxRecDepth 100000 in
def qX447 : List zk_Hd := []
set_option maxRecDepth 100000 in
theorem qk447 : zk_chk qK qP447 prog_19_method_80_code 3 qC447 (some .int) qH447 qX447 72 0 = true := zk_chkD_ok (T := qdt_19_80) qdo_19_80 (by decide +kernel)
set_option maxRecDepth 100000 in
/-- java/lang/String.indexOf(I)I UnaskedLetters$LetterReader.folded(I)I@4 -/
def qC448 : zk_C := ((2, [], [0, 1], [(0, (2, 117, 0)), (1, (0, 0, 65535))], [], [], [], [], [], none), [(3, [], [2], [(0, (2, 117, 0)), (1, (0, 256, 65535)), (2, (0, (-1), (-1)))], [], [], [], [], [], none), (3, [], [2], [(0, (2, 117, 0)), (1, (0, 0, 255)), (2, (0, (-1), (-1)))], [], [], [], [], [], none), (3, [], [2], [(0, (2, 117, 0)), (1, (0, 0, 255)), (2, (0, 0, 3))], [], [], [], [], [], none)], [], 0, 0)
set_option maxRecDepth 100000 in
def qP448 : zk_P := ([], [], [], [], [], [(3, qC447)], [])
set_option maxRecDepth 100000 in
def qH448 : List zk_Hd := []
set_option maxRecDepth 100000 in
def qX448 : List zk_Hd := []
set_option maxRecDepth 100000 in
theorem qk448 : zk_chk qK qP448 prog_19_method_79_code 2 qC448 (some .int) qH448 qX448 65 0 = true := zk_chkD_ok (T := qdt_19_79) qdo_19_79 (by decide +kernel)
set_option maxRecDepth 100000 in
/-- java/lang/String.coder()B java/lang/String.length()I@6UnaskedLetters$LetterReader.folded(I)I@15 -/
def qC449 : zk_C := ((1, [], [0], [(0, (2, 119, 0))], [], [], [], [], [], none), [(2, [], [1], [(0, (2, 119, 0)), (1, (0, 0, 0))], [], [], [], [], [], none)], [], 0, 0)
set_option maxRecDepth 100000 in
def qP449 : zk_P := ([(15, 13, 1, 4)], [], [], [], [(0, 3, (0, 1, 1))], [], [])
set_option maxRecDepth 100000 in
def qH449 : List zk_Hd := []
set_option maxRecDepth 100000 in
def qX449 : List zk_Hd := []
set_option maxRecDepth 100000 in
theorem qk449 : zk_chk qK qP449 prog_19_method_152_code 1 qC449 (some .byte) qH449 qX449 66 0 = true := zk_chkD_ok (T := qdt_19_152) qdo_19_152 (by decide +kernel)
set_option maxRecDepth 100000 in
/-- java/lang/String.length()I UnaskedLetters$LetterReader.folded(I)I@15 -/
def qC450 : zk_C := ((1, [], [0], [(0, (2, 119, 0))], [], [], [], [], [], none), [(2, [], [1], [(0, (2, 119, 0)), (1, (0, 4, 4))], [], [], [], [], [], none)], [], 0, 0)
set_option maxRecDepth 100000 in
def qP450 : zk_P := ([(9, 13, 0, 4)], [], [], [], [], [(6, qC449)], [])
set_option maxRecDepth 100000 in
def qH450 : List zk_Hd := []
set_option maxRecDepth 100000 in
def qX450 : List zk_Hd := []
set_option maxRecDepth 100000 in
theorem qk450 : zk_chk qK qP450 prog_19_method_54_code 1 qC450 (some .int) qH450 qX450 67 0 = true := zk_chkD_ok (T := qdt_19_54) qdo_19_54 (by decide +kernel)
set_option maxRecDepth 100000 in
/-- java/lang/String.isLatin1()Z java/lang/String.charAt(I)C@1UnaskedLetters$LetterReader.folded(I)I@24 -/
def qC451 : zk_C := ((1, [], [0], [(0, (2, 119, 0))], [], [], [], [], [], none), [(2, [], [1], [(0, (2, 119, 0)), (1, (0, 1, 1))], [], [], [], [], [], none)], [], 0, 0)
set_option maxRecDepth 100000 in
def qP451 : zk_P := ([(15, 13, 1, 4)], [], [], [], [(0, 3, (0, 1, 1))], [], [])
set_option maxRecDepth 100000 in
def qH451 : List zk_Hd := []
set_option maxRecDepth 100000 in
def qX451 : List zk_Hd := []
set_option maxRecDepth 100000 in
theorem qk451 : zk_chk qK qP451 prog_19_method_154_code 1 qC451 (some .boolean) qH451 qX451 68 0 = true := zk_chkD_ok (T := qdt_19_154) qdo_19_154 (by decide +kernel)
set_option maxRecDepth 100000 in
/-- java/lang/String.checkIndex(II)V  -/
def qC452 : zk_C := ((2, [], [0, 1], [(0, (0, 0, 2147483647)), (1, (0, (-2147483648), 2147483647))], [(0, 1, (-1))], [], [], [], [], none), [(2, [], [], [], [], [], [], [], [], none)], [], 0, 0)
set_option maxRecDepth 100000 in
/-- java/lang/StringLatin1.charAt([BI)C java/lang/String.charAt(I)C@12UnaskedLetters$LetterReader.folded(I)I@24 -/
def qC453 : zk_C := ((2, [], [0, 1], [(0, (2, 118, 0)), (1, (0, 0, 3))], [], [], [], [], [], none), [(3, [], [2], [(0, (2, 118, 0)), (1, (0, 0, 3)), (2, (0, 0, 115))], [], [], [], [], [], none)], [], 0, 0)
set_option maxRecDepth 100000 in
def qP453 : zk_P := ([], [], [], [], [], [(3, qC452)], [])
set_option maxRecDepth 100000 in
def qH453 : List zk_Hd := []
set_option maxRecDepth 100000 in
def qX453 : List zk_Hd := []
set_option maxRecDepth 100000 in
theorem qk453 : zk_chk qK qP453 prog_20_method_2_code 2 qC453 (some .char) qH453 qX453 71 0 = true := zk_chkD_ok (T := qdt_20_2) qdo_20_2 (by decide +kernel)
set_option maxRecDepth 100000 in
/-- java/lang/String.charAt(I)C UnaskedLetters$LetterReader.folded(I)I@24 -/
def qC454 : zk_C := ((2, [], [0, 1], [(0, (2, 119, 0)), (1, (0, 0, 3))], [], [], [], [], [], none), [(3, [], [2], [(0, (2, 119, 0)), (1, (0, 0, 3)), (2, (0, 0, 115))], [], [], [], [], [], none)], [], 0, 0)
set_option maxRecDepth 100000 in
def qP454 : zk_P := ([(9, 13, 0, 4)], [], [], [], [], [(1, qC451), (12, qC453)], [])
set_option maxRecDepth 100000 in
def qH454 : List zk_Hd := []
set_option maxRecDepth 100000 in
def qX454 : List zk_Hd := []
set_option maxRecDepth 100000 in
theorem qk454 : zk_chk qK qP454 prog_19_method_56_code 2 qC454 (some .char) qH454 qX454 68 0 = true := zk_chkD_ok (T := qdt_19_56) qdo_19_56 (by decide +kernel)
set_option maxRecDepth 100000 in
/-- UnaskedLetters$LetterReader.folded(I)I  -/
def qC455 : zk_C := ((1, [], [0], [(0, (0, (-2147483648), 2147483647))], [], [], [], [], [], none), [(1, [], [0], [(0, (0, (-2147483648), 2147483647))], [], [], [], [], [], none), (2, [], [1], [(0, (0, (-2147483648), 2147483647)), (1, (0, 0, 115))], [], [], [], [], [], none)], [], 0, 0)
set_option maxRecDepth 100000 in
def qP455 : zk_P := ([], [], [], [], [(0, 2, (2, 117, 0)), (13, 2, (2, 119, 0)), (21, 2, (2, 119, 0))], [(4, qC448), (15, qC450), (24, qC454)], [])
set_option maxRecDepth 100000 in
def qH455 : List zk_Hd := []
set_option maxRecDepth 100000 in
def qX455 : List zk_Hd := []
set_option maxRecDepth 100000 in
theorem qk455 : zk_chk qK qP455 prog_4_method_6_code 2 qC455 (some .int) qH455 qX455 76 0 = true := zk_chkD_ok (T := qdt_4_6) qdo_4_6 (by decide +kernel)
set_option maxRecDepth 100000 in
/-- UnaskedLetters$LetterReader.see(LUnaskedLetters$Tape;Z)V  -/
def qC456 : zk_C := ((3, [], [0, 1, 2], [(0, (2, 15, 0)), (1, (2, 12, 0)), (2, (0, 0, 1))], [], [], [], [], [], none), [(6, [], [], [(0, (2, 15, 0)), (1, (2, 12, 0)), (2, (0, 0, 1)), (3, (0, 0, 160)), (4, (1, (-9223372036854775808), 9223372036854775807)), (5, (0, 0, 12))], [], [(0, 1, 3), (0, 2, 4), (0, 3, 5)], [], [], [], none)], [(15, 1), (15, 2), (15, 3), (17, 0)], 0, 0)
set_option maxRecDepth 100000 in
def qP456 : zk_P := ([(34, 2, 1, 0), (37, 2, 2, 1), (41, 2, 3, 0), (17, 8, 1, 0)], [], [], [], [], [(35, qC32), (93, qC438), (123, qC32), (126, qC33), (135, qC32), (138, qC33), (142, qC455), (145, qC438), (161, qC455), (169, qC438), (181, qC438)], [])
set_option maxRecDepth 100000 in
def qH456 : List zk_Hd := [(23, (9, [(0, 0), (1, 1), (2, 2), (3, 3), (4, 4), (5, 5)], [], [(0, (2, 15, 0)), (1, (2, 12, 0)), (2, (0, 0, 1)), (3, (0, 0, 1)), (4, (0, 0, 1)), (5, (0, 0, 162)), (6, (0, 0, 160)), (7, (1, (-9223372036854775808), 9223372036854775807)), (8, (0, 0, 12))], [(4, 5, 0), (6, 5, 0), (8, 5, 0)], [(0, 1, 6), (0, 2, 7), (0, 3, 8)], [], [], [], none), [(1, none, none), (163, none, some 5), (1, none, none)], 0, 0)]
set_option maxRecDepth 100000 in
def qX456 : List zk_Hd := []
set_option maxRecDepth 100000 in
theorem qk456 : zk_chk qK qP456 prog_4_method_4_code 7 qC456 none qH456 qX456 103 3 = true := zk_chkD_ok (T := qdt_4_4) qdo_4_4 (by decide +kernel)
set_option maxRecDepth 100000 in
/-- java/util/Arrays.copyOf([JI)[J J -/
def qC457 : zk_C := ((2, [], [0, 1], [(0, (2, 17, 0)), (1, (0, 0, 160))], [], [], [], [], [], none), [(3, [], [2], [(2, (2, 111, 0))], [], [], [(2, 1)], [], [], none)], [], 1, 160)
set_option maxRecDepth 100000 in
/-- UnaskedLetters$WordBook.lookAnew()V  -/
def qC458 : zk_C := ((1, [], [0], [(0, (2, 37, 0))], [], [], [], [], [], none), [(2, [], [], [(0, (2, 37, 0)), (1, (0, (-2147483648), 2147483647))], [], [(0, 5, 1)], [], [], [], none)], [(37, 5)], 0, 0)
set_option maxRecDepth 100000 in
def qP458 : zk_P := ([(47, 10, 5, 0)], [], [], [], [], [], [])
set_option maxRecDepth 100000 in
def qH458 : List zk_Hd := []
set_option maxRecDepth 100000 in
def qX458 : List zk_Hd := []
set_option maxRecDepth 100000 in
theorem qk458 : zk_chk qK qP458 prog_12_method_3_code 1 qC458 none qH458 qX458 67 0 = true := zk_chkD_ok (T := qdt_12_3) qdo_12_3 (by decide +kernel)
set_option maxRecDepth 100000 in
/-- java/lang/Math.floorMod(JJ)J  -/
def qC459 : zk_C := ((2, [], [0, 1], [(0, (1, (-9223372036854775808), 9223372036854775807)), (1, (1, 251, 251))], [], [], [], [], [], none), [(3, [], [2], [(2, (1, 0, 250))], [], [], [], [], [], none)], [], 0, 0)
set_option maxRecDepth 100000 in
/-- UnaskedLetters$Word.<init>(JLUnaskedLetters$Word;)V  -/
def qC460 : zk_C := ((9, [], [0, 1, 2], [(0, (2, 123, 0)), (1, (1, (-9223372036854775808), 9223372036854775807)), (2, (2, 122, 1)), (3, (1, 0, 0)), (4, (2, 122, 1)), (5, (0, 0, 0)), (6, (0, 0, 0)), (7, (0, 0, 0)), (8, (0, 0, 0))], [(2, 0, (-1))], [(0, 0, 3), (0, 1, 4), (0, 2, 5), (0, 3, 6), (0, 4, 7), (0, 5, 8)], [], [], [], none), [(9, [], [], [(0, (2, 122, 0)), (1, (1, (-9223372036854775808), 9223372036854775807)), (2, (2, 122, 1)), (3, (1, 0, 0)), (4, (2, 122, 1)), (5, (0, 0, 0)), (6, (0, 0, 0)), (7, (0, 0, 0)), (8, (0, 0, 0))], [], [(0, 0, 1), (0, 1, 2), (0, 2, 5), (0, 3, 6), (0, 4, 7), (0, 5, 8)], [], [], [], none)], [(123, 0), (123, 1), (123, 1000)], 0, 0)
set_option maxRecDepth 100000 in
def qP460 : zk_P := ([(9, 9, 0, 1), (15, 9, 1, 3)], [], [], [], [], [(1, (zk_oC 123))], [(14, [(0, none)])])
set_option maxRecDepth 100000 in
def qH460 : List zk_Hd := []
set_option maxRecDepth 100000 in
def qX460 : List zk_Hd := []
set_option maxRecDepth 100000 in
theorem qk460 : zk_chk qK qP460 prog_11_method_1_code 4 qC460 none qH460 qX460 69 0 = true := zk_chkD_ok (T := qdt_11_1) qdo_11_1 (by decide +kernel)
set_option maxRecDepth 100000 in
/-- UnaskedLetters$WordBook.find(J)LUnaskedLetters$Word;  -/
def qC461 : zk_C := ((2, [], [0, 1], [(0, (2, 37, 0)), (1, (1, (-9223372036854775808), 9223372036854775807))], [], [], [], [], [], none), [(4, [], [2], [(0, (2, 37, 0)), (1, (1, (-9223372036854775808), 9223372036854775807)), (2, (2, 122, 0)), (3, (1, (-9223372036854775808), 9223372036854775807))], [(1, 3, 0), (3, 1, 0)], [(2, 0, 3)], [], [], [], none)], [(39, 0), (123, 0), (123, 1), (123, 1000)], 1, 6)
set_option maxRecDepth 100000 in
def qP461 : zk_P := ([(13, 10, 0, 4), (36, 9, 0, 4), (40, 9, 1, 4)], [(11, 122)], [(11, 123, [1, 2, 0, 0, 0, 0])], [], [(1, 3, (1, 251, 251))], [(4, qC459), (61, qC460)], [])
set_option maxRecDepth 100000 in
def qH461 : List zk_Hd := [(17, (4, [(0, 0), (1, 1), (3, 2), (4, 3)], [], [(0, (2, 37, 0)), (1, (1, (-9223372036854775808), 9223372036854775807)), (2, (0, 0, 250)), (3, (2, 122, 1))], [], [], [], [], [], none), [(1, none, none), (1, some 3, none), (1, none, none)], 0, 0)]
set_option maxRecDepth 100000 in
def qX461 : List zk_Hd := []
set_option maxRecDepth 100000 in
theorem qk461 : zk_chk qK qP461 prog_12_method_2_code 5 qC461 (some (.object "UnaskedLetters$Word")) qH461 qX461 79 3 = true := zk_chkD_ok (T := qdt_12_2) qdo_12_2 (by decide +kernel)
set_option maxRecDepth 100000 in
/-- UnaskedLetters$WordBook.isNew(LUnaskedLetters$Word;)Z  -/
def qC462 : zk_C := ((3, [], [0, 1], [(0, (2, 37, 0)), (1, (2, 122, 0)), (2, (0, (-2147483648), 2147483647))], [], [(0, 5, 2)], [], [], [], none), [(4, [], [3], [(0, (2, 37, 0)), (1, (2, 122, 0)), (2, (0, (-2147483648), 2147483647)), (3, (0, 1, 1))], [], [(0, 5, 2), (1, 3, 2)], [], [], [], none), (5, [], [3], [(0, (2, 37, 0)), (1, (2, 122, 0)), (2, (0, (-2147483648), 2147483647)), (3, (0, 0, 0)), (4, (0, (-2147483648), 2147483647))], [(2, 4, 0), (4, 2, 0)], [(0, 5, 2), (1, 3, 4)], [], [], [], none)], [(122, 3)], 0, 0)
set_option maxRecDepth 100000 in
def qP462 : zk_P := ([(51, 9, 3, 0), (47, 10, 5, 0)], [], [], [], [], [], [])
set_option maxRecDepth 100000 in
def qH462 : List zk_Hd := []
set_option maxRecDepth 100000 in
def qX462 : List zk_Hd := []
set_option maxRecDepth 100000 in
theorem qk462 : zk_chk qK qP462 prog_12_method_4_code 2 qC462 (some .boolean) qH462 qX462 71 0 = true := zk_chkD_ok (T := qdt_12_4) qdo_12_4 (by decide +kernel)
set_option maxRecDepth 100000 in
/-- UnaskedLetters.takeWords(LUnaskedLetters$Letter;)V  -/
def qC463 : zk_C := ((22, [], [0, 1], [(0, (2, 2, 0)), (1, (2, 108, 0)), (2, (2, 15, 0)), (3, (0, 0, 39)), (4, (0, 0, 39)), (5, (2, 113, 1)), (6, (2, 114, 1)), (7, (2, 115, 1)), (8, (0, 0, 0)), (9, (2, 109, 0)), (10, (2, 110, 0)), (11, (0, 0, 0)), (12, (0, 0, 1)), (13, (0, 0, 20)), (14, (0, (-2147483648), 2147483647)), (15, (0, 0, 0)), (16, (0, 0, 0)), (17, (0, (-2147483648), 2147483647)), (18, (0, (-1), (-1))), (19, (2, 111, 0)), (20, (0, 0, 160)), (21, (0, 0, 160))], [], [(0, 2, 2), (1, 0, 3), (1, 1, 4), (1, 10, 5), (1, 11, 6), (1, 12, 7), (1, 13, 8), (1, 14, 9), (1, 15, 10), (1, 16, 11), (1, 2, 12), (1, 3, 13), (1, 4, 14), (1, 5, 15), (1, 6, 16), (1, 7, 17), (1, 8, 18), (1, 9, 19), (2, 1, 20)], [(19, 21)], [], [], none), [(26, [], [], [(0, (2, 2, 0)), (1, (2, 107, 0)), (2, (2, 15, 0)), (3, (0, 0, 39)), (4, (0, 0, 39)), (5, (2, 113, 1)), (6, (2, 114, 1)), (7, (2, 115, 1)), (8, (0, 0, 0)), (9, (2, 109, 0)), (10, (2, 110, 0)), (11, (0, 0, 0)), (12, (0, 0, 1)), (13, (0, 0, 20)), (14, (0, (-2147483648), 2147483647)), (15, (0, 0, 0)), (16, (0, 0, 0)), (17, (0, (-2147483648), 2147483647)), (18, (0, (-1), (-1))), (19, (2, 111, 0)), (20, (0, 0, 160)), (21, (0, 0, 160)), (22, (2, 37, 0)), (23, (2, 113, 0)), (24, (2, 115, 0)), (25, (0, (-2147483648), 2147483647))], [], [(0, 2, 2), (0, 6, 22), (1, 10, 23), (1, 12, 24), (2, 1, 20), (22, 5, 25)], [(19, 21), (23, 20), (24, 20)], [(23, 8, 0), (23, 11, 0), (23, 15, 0), (23, 16, 0)], [], none)], [(37, 5), (39, 0), (108, 10), (108, 11), (108, 12), (108, 13), (108, 1000), (112, 0), (112, 1000), (114, 0), (115, 0), (122, 3), (123, 0), (123, 1), (123, 1000)], 164, 1446)
set_option maxRecDepth 100000 in
def qP463 : zk_P := ([(26, 11, 2, 4), (195, 2, 1, 0), (215, 1, 10, 3), (270, 1, 11, 3), (283, 1, 12, 3), (54, 11, 6, 4), (191, 2, 0, 4), (273, 1, 13, 0)], [(11, 122)], [], [(10, 3, 112, 2), (18, 3, 114, 2), (26, 2, 115, 0)], [], [(35, qC458), (58, qC461), (77, qC462)], [(120, [(1, some 10), (1, none)])])
set_option maxRecDepth 100000 in
def qX463 : zk_Hd := (40, (29, [(0, 0), (1, 1), (2, 20), (3, 22)], [], [(0, (2, 2, 0)), (1, (2, 108, 0)), (2, (2, 15, 0)), (3, (0, 0, 39)), (4, (0, 0, 39)), (5, (2, 113, 1)), (6, (2, 114, 1)), (7, (2, 115, 1)), (8, (0, 0, 0)), (9, (2, 109, 0)), (10, (2, 110, 0)), (11, (0, 0, 0)), (12, (0, 0, 1)), (13, (0, 0, 20)), (14, (0, (-2147483648), 2147483647)), (15, (0, 0, 0)), (16, (0, 0, 0)), (17, (0, (-2147483648), 2147483647)), (18, (0, (-1), (-1))), (19, (2, 111, 0)), (20, (0, 0, 160)), (21, (0, 0, 160)), (22, (0, 0, 160)), (23, (2, 37, 0)), (24, (2, 112, 0)), (25, (2, 114, 0)), (26, (2, 115, 0)), (27, (0, 0, 160)), (28, (0, (-2147483648), 2147483647))], [(22, 20, 0), (27, 20, 0), (27, 22, 0)], [(0, 2, 2), (0, 6, 23), (1, 0, 3), (1, 1, 4), (1, 10, 24), (1, 11, 25), (1, 12, 26), (1, 13, 27), (1, 14, 9), (1, 15, 10), (1, 16, 11), (1, 2, 12), (1, 3, 13), (1, 4, 14), (1, 5, 15), (1, 6, 16), (1, 7, 17), (1, 8, 18), (1, 9, 19), (2, 1, 20), (23, 5, 28)], [(19, 21), (24, 20), (25, 20), (26, 20)], [(24, 22, 0), (24, 8, 0), (24, 27, 0), (24, 11, 0), (24, 15, 0), (24, 16, 0), (25, 8, 0), (25, 27, 0), (25, 11, 0), (25, 15, 0), (25, 16, 0)], [], none), [(160, none, some 22)], 3, 480)
set_option maxRecDepth 100000 in
theorem qk463 : zk_chk qK qP463 prog_1_method_46_code 5 qC463 none [] [qX463] 103 1 = true := zk_chkD_ok (T := qdt_1_46) qdo_1_46 (by decide +kernel)
set_option maxRecDepth 100000 in
def qT463 : zk_Hd := (40, (29, [(0, 0), (1, 1), (2, 20), (3, 22)], [], [(0, (2, 2, 0)), (1, (2, 108, 0)), (2, (2, 15, 0)), (3, (0, 0, 39)), (4, (0, 0, 39)), (5, (2, 113, 1)), (6, (2, 114, 1)), (7, (2, 115, 1)), (8, (0, 0, 0)), (9, (2, 109, 0)), (10, (2, 110, 0)), (11, (0, 0, 0)), (12, (0, 0, 1)), (13, (0, 0, 20)), (14, (0, (-2147483648), 2147483647)), (15, (0, 0, 0)), (16, (0, 0, 0)), (17, (0, (-2147483648), 2147483647)), (18, (0, (-1), (-1))), (19, (2, 111, 0)), (20, (0, 0, 160)), (21, (0, 0, 160)), (22, (0, 0, 160)), (23, (2, 37, 0)), (24, (2, 112, 0)), (25, (2, 114, 0)), (26, (2, 115, 0)), (27, (0, 0, 160)), (28, (0, (-2147483648), 2147483647))], [(22, 20, 0), (27, 20, 0), (27, 22, 0)], [(0, 2, 2), (0, 6, 23), (1, 0, 3), (1, 1, 4), (1, 10, 24), (1, 11, 25), (1, 12, 26), (1, 13, 27), (1, 14, 9), (1, 15, 10), (1, 16, 11), (1, 2, 12), (1, 3, 13), (1, 4, 14), (1, 5, 15), (1, 6, 16), (1, 7, 17), (1, 8, 18), (1, 9, 19), (2, 1, 20), (23, 5, 28)], [(19, 21), (24, 20), (25, 20), (26, 20)], [(24, 22, 0), (24, 8, 0), (24, 27, 0), (24, 11, 0), (24, 15, 0), (24, 16, 0), (25, 8, 0), (25, 27, 0), (25, 11, 0), (25, 15, 0), (25, 16, 0)], [], none), [(160, none, some 22)], 1, 6)
set_option maxRecDepth 100000 in
theorem qt463 : zk_run qK qP463 prog_1_method_46_code 5 (zk_cmx qC463 1 6) none [qT463] (some qT463.2.2.1) 103 true 0 0 40 qT463.2.1 = true := zk_runD_ok (T := qdt_1_46) qdo_1_46 (by decide +kernel)
set_option maxRecDepth 100000 in
/-- UnaskedLetters.write(IIZI)I  -/
def qC464 : zk_C := ((8, [], [0, 1, 2, 3, 4], [(0, (2, 2, 0)), (1, (0, (-2147483648), 2147483647)), (2, (0, (-2147483648), 2147483647)), (3, (0, 0, 1)), (4, (0, (-2147483648), 2147483647)), (5, (2, 4, 0)), (6, (0, (-2147483648), 2147483647)), (7, (0, 0, 40))], [], [(0, 0, 5), (0, 13, 6), (5, 7, 7)], [], [], [], none), [(9, [], [8], [(0, (2, 2, 0)), (1, (0, (-2147483648), 2147483647)), (2, (0, (-2147483648), 2147483647)), (3, (0, 0, 1)), (4, (0, (-2147483648), 2147483647)), (5, (2, 4, 0)), (6, (0, (-2147483648), 2147483647)), (7, (0, 0, 40)), (8, (0, (-1), 119))], [(8, 7, 118)], [(0, 0, 5), (0, 13, 6), (5, 7, 7)], [], [], [], none)], [(2, 15), (12, 1), (15, 1), (15, 2), (15, 3), (17, 0), (37, 5), (39, 0), (43, 0), (108, 0), (108, 1), (108, 2), (108, 3), (108, 4), (108, 5), (108, 7), (108, 8), (108, 9), (108, 10), (108, 11), (108, 12), (108, 13), (108, 14), (108, 15), (108, 1000), (112, 0), (112, 1000), (114, 0), (115, 0), (122, 3), (123, 0), (123, 1), (123, 1000)], 168, 1635)
set_option maxRecDepth 100000 in
def qP464 : zk_P := ([(10, 11, 0, 4), (181, 11, 15, 0), (26, 11, 2, 4), (19, 11, 1, 4), (88, 11, 13, 0), (191, 2, 0, 4), (195, 2, 1, 0), (204, 1, 9, 3), (120, 8, 1, 0), (60, 11, 7, 4)], [(12, 107)], [(58, 108, [0, 0, 0, 0, 0, 0, 0, 0, 0, 2, 2, 2, 2, 0, 2, 2, 0])], [], [], [(5, qC435), (16, qC435), (60, qC35), (82, qC436), (96, qC456), (115, qC457), (130, qC456), (136, qC463)], [])
set_option maxRecDepth 100000 in
def qH464 : List zk_Hd := []
set_option maxRecDepth 100000 in
def qX464 : List zk_Hd := []
set_option maxRecDepth 100000 in
theorem qk464 : zk_chk qK qP464 prog_1_method_15_code 6 qC464 (some .int) qH464 qX464 141 0 = true := zk_chkD_ok (T := qdt_1_15) qdo_1_15 (by decide +kernel)
set_option maxRecDepth 100000 in
/-- UnaskedLettersModel.in(III)Z UnaskedLettersModel.isName(I)Z@8 -/
def qC465 : zk_C := ((3, [], [0, 1, 2], [(0, (0, (-2147483648), 2147483647)), (1, (0, 0, 0)), (2, (0, (-1), 39))], [], [], [], [], [], none), [(4, [], [3], [(0, (0, (-2147483648), (-1))), (1, (0, 0, 0)), (2, (0, (-1), 39)), (3, (0, 0, 0))], [], [], [], [], [], none), (4, [], [3], [(0, (0, 0, 2147483647)), (1, (0, 0, 0)), (2, (0, (-1), 39)), (3, (0, 0, 0))], [(2, 0, (-1))], [], [], [], [], none), (4, [], [3], [(0, (0, 0, 39)), (1, (0, 0, 0)), (2, (0, 0, 39)), (3, (0, 1, 1))], [(0, 2, 0)], [], [], [], [], none)], [], 0, 0)
set_option maxRecDepth 100000 in
def qP465 : zk_P := ([], [], [], [], [], [], [])
set_option maxRecDepth 100000 in
def qH465 : List zk_Hd := []
set_option maxRecDepth 100000 in
def qX465 : List zk_Hd := []
set_option maxRecDepth 100000 in
theorem qk465 : zk_chk qK qP465 prog_14_method_1_code 3 qC465 (some .boolean) qH465 qX465 69 0 = true := zk_chkD_ok (T := qdt_14_1) qdo_14_1 (by decide +kernel)
set_option maxRecDepth 100000 in
/-- UnaskedLettersModel.isName(I)Z  -/
def qC466 : zk_C := ((3, [], [0, 1], [(0, (2, 57, 0)), (1, (0, (-2147483648), 2147483647)), (2, (0, 0, 40))], [], [(0, 7, 2)], [], [], [], none), [(4, [], [3], [(0, (2, 57, 0)), (1, (0, (-2147483648), (-1))), (2, (0, 0, 40)), (3, (0, 0, 0))], [], [(0, 7, 2)], [], [], [], none), (4, [], [3], [(0, (2, 57, 0)), (1, (0, 0, 2147483647)), (2, (0, 0, 40)), (3, (0, 0, 0))], [(2, 1, 0)], [(0, 7, 2)], [], [], [], none), (4, [], [3], [(0, (2, 57, 0)), (1, (0, 0, 39)), (2, (0, 1, 40)), (3, (0, 1, 1))], [(1, 2, (-1))], [(0, 7, 2)], [], [], [], none)], [], 0, 0)
set_option maxRecDepth 100000 in
def qP466 : zk_P := ([(167, 12, 7, 0)], [], [], [], [], [(8, qC465)], [])
set_option maxRecDepth 100000 in
def qH466 : List zk_Hd := []
set_option maxRecDepth 100000 in
def qX466 : List zk_Hd := []
set_option maxRecDepth 100000 in
theorem qk466 : zk_chk qK qP466 prog_14_method_5_code 2 qC466 (some .boolean) qH466 qX466 68 0 = true := zk_chkD_ok (T := qdt_14_5) qdo_14_5 (by decide +kernel)
set_option maxRecDepth 100000 in
/-- UnaskedLettersModel.in(III)Z UnaskedLettersModel.write(IIZI)I@26 -/
def qC467 : zk_C := ((3, [], [0, 1, 2], [(0, (0, (-2147483648), 2147483647)), (1, (0, 0, 0)), (2, (0, 20, 20))], [], [], [], [], [], none), [(4, [], [3], [(0, (0, (-2147483648), (-1))), (1, (0, 0, 0)), (2, (0, 20, 20)), (3, (0, 0, 0))], [], [], [], [], [], none), (4, [], [3], [(0, (0, 21, 2147483647)), (1, (0, 0, 0)), (2, (0, 20, 20)), (3, (0, 0, 0))], [], [], [], [], [], none), (4, [], [3], [(0, (0, 0, 20)), (1, (0, 0, 0)), (2, (0, 20, 20)), (3, (0, 1, 1))], [], [], [], [], [], none)], [], 0, 0)
set_option maxRecDepth 100000 in
def qP467 : zk_P := ([], [], [], [], [], [], [])
set_option maxRecDepth 100000 in
def qH467 : List zk_Hd := []
set_option maxRecDepth 100000 in
def qX467 : List zk_Hd := []
set_option maxRecDepth 100000 in
theorem qk467 : zk_chk qK qP467 prog_14_method_1_code 3 qC467 (some .boolean) qH467 qX467 69 0 = true := zk_chkD_ok (T := qdt_14_1) qdo_14_1 (by decide +kernel)
set_option maxRecDepth 100000 in
/-- UnaskedLettersModel.codeOf(I)I  -/
def qC468 : zk_C := ((1, [], [0], [(0, (0, 0, 255))], [], [], [], [], [], none), [(2, [], [1], [(0, (0, 0, 47)), (1, (0, (-96), (-49)))], [(0, 1, 96), (1, 0, (-96))], [], [], [], [], none), (2, [], [1], [(0, (0, 58, 255)), (1, (0, (-38), 159))], [(0, 1, 96), (1, 0, (-96))], [], [], [], [], none), (2, [], [1], [(0, (0, 48, 57)), (1, (0, 27, 36))], [(0, 1, 21), (1, 0, (-21))], [], [], [], [], none)], [], 0, 0)
set_option maxRecDepth 100000 in
def qP468 : zk_P := ([], [], [], [], [], [(1, qC169)], [])
set_option maxRecDepth 100000 in
def qH468 : List zk_Hd := []
set_option maxRecDepth 100000 in
def qX468 : List zk_Hd := []
set_option maxRecDepth 100000 in
theorem qk468 : zk_chk qK qP468 prog_14_method_53_code 1 qC468 (some .int) qH468 qX468 70 0 = true := zk_chkD_ok (T := qdt_14_53) qdo_14_53 (by decide +kernel)
set_option maxRecDepth 100000 in
/-- UnaskedLettersModel.cutUp([II[JI)I %65 -/
def qC469 : zk_C := ((4, [], [0, 1, 2, 3], [(0, (2, 65, 0)), (1, (0, 0, 160)), (2, (2, 76, 0)), (3, (0, 0, 9758))], [], [], [], [], [], none), [(5, [], [4], [(0, (2, 65, 0)), (1, (0, 1, 160)), (2, (2, 76, 0)), (3, (0, 0, 9758)), (4, (0, 0, 80))], [(4, 1, (-1))], [], [], [], [], none), (5, [], [4], [(0, (2, 65, 0)), (1, (0, 1, 160)), (2, (2, 76, 0)), (3, (0, 0, 9758)), (4, (0, 1, 80))], [(4, 1, 0)], [], [], [], [], none), (5, [], [4], [(0, (2, 65, 0)), (1, (0, 0, 0)), (2, (2, 76, 0)), (3, (0, 0, 9758)), (4, (0, 0, 0))], [], [], [], [], [], none)], [(76, 0)], 0, 0)
set_option maxRecDepth 100000 in
def qP469 : zk_P := ([], [], [], [], [(60, 3, (1, 37, 37))], [(19, qC170), (76, qC468)], [])
set_option maxRecDepth 100000 in
def qH469 : List zk_Hd := [(93, (7, [(0, 0), (1, 1), (2, 2), (3, 3), (4, 4), (5, 5), (6, 6)], [], [(0, (2, 65, 0)), (1, (0, 1, 160)), (2, (2, 76, 0)), (3, (0, 0, 9758)), (4, (0, 1, 81)), (5, (0, 0, 159)), (6, (0, 0, 159))], [(4, 1, 0), (4, 6, 1), (5, 1, (-1)), (5, 6, 0), (6, 1, (-1))], [], [], [], [(5, 4, 6, 1002)], none), [(1, none, none), (160, none, some 6), (2, none, none)], 0, 0), (28, (7, [(0, 0), (1, 1), (2, 2), (3, 3), (4, 4), (5, 5), (6, 6)], [], [(0, (2, 65, 0)), (1, (0, 1, 160)), (2, (2, 76, 0)), (3, (0, 0, 9758)), (4, (0, 0, 80)), (5, (0, 0, 0)), (6, (0, 0, 159))], [(4, 1, (-1)), (4, 6, 0), (6, 1, (-1))], [], [], [], [(5, 4, 6, 1001)], none), [(1, none, none), (160, none, some 6), (1, none, none)], 0, 0)]
set_option maxRecDepth 100000 in
def qX469 : List zk_Hd := []
set_option maxRecDepth 100000 in
theorem qk469 : zk_chk qK qP469 prog_14_method_54_code 7 qC469 (some .int) qH469 qX469 110 3 = true := zk_chkD_ok (T := qdt_14_54) qdo_14_54 (by decide +kernel)
end
