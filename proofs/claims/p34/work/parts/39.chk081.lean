/-! CONTRACTS: found by wip/an (python). -/
set_option maxRecDepth 100000 in
/-- UnaskedLetters$Word.longer(JI)J  -/
def qC439 : zk_C := ((2, [], [0, 1], [(0, (1, (-9223372036854775808), 9223372036854775807)), (1, (0, (-1), 255))], [], [], [], [], [], none), [(3, [], [2], [(0, (1, (-9223372036854775808), 9223372036854775807)), (1, (0, (-1), 96)), (2, (1, (-9223372036854775808), 9223372036854775807))], [], [], [], [], [], none), (3, [], [2], [(0, (1, (-9223372036854775808), 9223372036854775807)), (1, (0, 97, 255)), (2, (1, (-9223372036854775808), 9223372036854775807))], [], [], [], [], [], none)], [], 0, 0)
set_option maxRecDepth 100000 in
def qP439 : zk_P := ([], [], [], [], [(1, 3, (1, 37, 37))], [], [])
set_option maxRecDepth 100000 in
def qH439 : List zk_Hd := []
set_option maxRecDepth 100000 in
def qX439 : List zk_Hd := []
set_option maxRecDepth 100000 in
theorem qk439 : zk_chk qK qP439 prog_11_method_4_code 3 qC439 (some .long) qH439 qX439 75 0 = true := zk_chkD_ok (T := qdt_11_4) qdo_11_4 (by decide +kernel)
set_option maxRecDepth 100000 in
/-- UnaskedLetters$LetterReader.take(I)V  -/
def qC440 : zk_C := ((5, [], [0, 1], [(0, (2, 15, 0)), (1, (0, (-2147483648), 2147483647)), (2, (0, 0, 160)), (3, (1, (-9223372036854775808), 9223372036854775807)), (4, (0, 0, 12))], [], [(0, 1, 2), (0, 2, 3), (0, 3, 4)], [], [], [], none), [(8, [], [], [(0, (2, 15, 0)), (1, (0, (-2147483648), 2147483647)), (2, (0, 0, 160)), (3, (1, (-9223372036854775808), 9223372036854775807)), (4, (0, 0, 12)), (5, (0, 0, 160)), (6, (1, (-9223372036854775808), 9223372036854775807)), (7, (0, 0, 12))], [(2, 5, 0), (5, 2, 1), (7, 4, 1)], [(0, 1, 5), (0, 2, 6), (0, 3, 7)], [], [], [], none)], [(15, 1), (15, 2), (15, 3), (17, 0)], 0, 0)
set_option maxRecDepth 100000 in
def qP440 : zk_P := ([(41, 2, 3, 0), (34, 2, 1, 0), (11, 2, 0, 4), (37, 2, 2, 1)], [], [], [], [], [(1, qC36), (77, qC439)], [])
set_option maxRecDepth 100000 in
def qH440 : List zk_Hd := []
set_option maxRecDepth 100000 in
def qX440 : List zk_Hd := []
set_option maxRecDepth 100000 in
theorem qk440 : zk_chk qK qP440 prog_4_method_5_code 2 qC440 none qH440 qX440 93 0 = true := zk_chkD_ok (T := qdt_4_5) qdo_4_5 (by decide +kernel)
set_option maxRecDepth 100000 in
/-- java/lang/String.isLatin1()Z java/lang/String.indexOf(II)I@1java/lang/String.indexOf(I)I@3UnaskedLetters$LetterReader.folded(I)I@4 -/
def qC441 : zk_C := ((1, [], [0], [(0, (2, 117, 0))], [], [], [], [], [], none), [(2, [], [1], [(0, (2, 117, 0)), (1, (0, 1, 1))], [], [], [], [], [], none)], [], 0, 0)
set_option maxRecDepth 100000 in
def qP441 : zk_P := ([(15, 13, 1, 4)], [], [], [], [(0, 3, (0, 1, 1))], [], [])
set_option maxRecDepth 100000 in
def qH441 : List zk_Hd := []
set_option maxRecDepth 100000 in
def qX441 : List zk_Hd := []
set_option maxRecDepth 100000 in
theorem qk441 : zk_chk qK qP441 prog_19_method_154_code 1 qC441 (some .boolean) qH441 qX441 68 0 = true := zk_chkD_ok (T := qdt_19_154) qdo_19_154 (by decide +kernel)
set_option maxRecDepth 100000 in
/-- java/lang/String.coder()B java/lang/String.length()I@6java/lang/String.indexOf(II)I@14java/lang/String.indexOf(I)I@3UnaskedLetters$LetterReader.folded(I)I@4 -/
def qC442 : zk_C := ((1, [], [0], [(0, (2, 117, 0))], [], [], [], [], [], none), [(2, [], [1], [(0, (2, 117, 0)), (1, (0, 0, 0))], [], [], [], [], [], none)], [], 0, 0)
set_option maxRecDepth 100000 in
def qP442 : zk_P := ([(15, 13, 1, 4)], [], [], [], [(0, 3, (0, 1, 1))], [], [])
set_option maxRecDepth 100000 in
def qH442 : List zk_Hd := []
set_option maxRecDepth 100000 in
def qX442 : List zk_Hd := []
set_option maxRecDepth 100000 in
theorem qk442 : zk_chk qK qP442 prog_19_method_152_code 1 qC442 (some .byte) qH442 qX442 66 0 = true := zk_chkD_ok (T := qdt_19_152) qdo_19_152 (by decide +kernel)
set_option maxRecDepth 100000 in
/-- java/lang/String.length()I java/lang/String.indexOf(II)I@14java/lang/String.indexOf(I)I@3UnaskedLetters$LetterReader.folded(I)I@4 -/
def qC443 : zk_C := ((1, [], [0], [(0, (2, 117, 0))], [], [], [], [], [], none), [(2, [], [1], [(0, (2, 117, 0)), (1, (0, 4, 4))], [], [], [], [], [], none)], [], 0, 0)
set_option maxRecDepth 100000 in
def qP443 : zk_P := ([(9, 13, 0, 4)], [], [], [], [], [(6, qC442)], [])
set_option maxRecDepth 100000 in
def qH443 : List zk_Hd := []
set_option maxRecDepth 100000 in
def qX443 : List zk_Hd := []
set_option maxRecDepth 100000 in
theorem qk443 : zk_chk qK qP443 prog_19_method_54_code 1 qC443 (some .int) qH443 qX443 67 0 = true := zk_chkD_ok (T := qdt_19_54) qdo_19_54 (by decide +kernel)
set_option maxRecDepth 100000 in
/-- java/lang/StringLatin1.canEncode(I)Z java/lang/StringLatin1.indexOf([BIII)I@1java/lang/String.indexOf(II)I@17java/lang/String.indexOf(I)I@3UnaskedLetters$LetterReader.folded(I)I@4 -/
def qC444 : zk_C := ((1, [], [0], [(0, (0, 0, 65535))], [], [], [], [], [], none), [(2, [], [1], [(0, (0, 256, 65535)), (1, (0, 0, 0))], [], [], [], [], [], none), (2, [], [1], [(0, (0, 0, 255)), (1, (0, 1, 1))], [], [], [], [], [], none)], [], 0, 0)
set_option maxRecDepth 100000 in
def qP444 : zk_P := ([], [], [], [], [], [], [])
set_option maxRecDepth 100000 in
def qH444 : List zk_Hd := []
set_option maxRecDepth 100000 in
def qX444 : List zk_Hd := []
set_option maxRecDepth 100000 in
theorem qk444 : zk_chk qK qP444 prog_20_method_4_code 1 qC444 (some .boolean) qH444 qX444 68 0 = true := zk_chkD_ok (T := qdt_20_4) qdo_20_4 (by decide +kernel)
set_option maxRecDepth 100000 in
/-- java/lang/Math.max(II)I java/lang/StringLatin1.indexOf([BIII)I@11java/lang/String.indexOf(II)I@17java/lang/String.indexOf(I)I@3UnaskedLetters$LetterReader.folded(I)I@4 -/
def qC445 : zk_C := ((2, [], [0, 1], [(0, (0, 0, 0)), (1, (0, 0, 0))], [], [], [], [], [], none), [(2, [], [0], [(0, (0, 0, 0)), (1, (0, 0, 0))], [], [], [], [], [], none)], [], 0, 0)
set_option maxRecDepth 100000 in
def qP445 : zk_P := ([], [], [], [], [], [], [])
set_option maxRecDepth 100000 in
def qH445 : List zk_Hd := []
set_option maxRecDepth 100000 in
def qX445 : List zk_Hd := []
set_option maxRecDepth 100000 in
theorem qk445 : zk_chk qK qP445 prog_18_method_65_code 2 qC445 (some .int) qH445 qX445 66 0 = true := zk_chkD_ok (T := qdt_18_65) qdo_18_65 (by decide +kernel)
set_option maxRecDepth 100000 in
/-- java/lang/Math.min(II)I java/lang/StringLatin1.indexOf([BIII)I@18java/lang/String.indexOf(II)I@17java/lang/String.indexOf(I)I@3UnaskedLetters$LetterReader.folded(I)I@4 -/
def qC446 : zk_C := ((2, [], [0, 1], [(0, (0, 4, 4)), (1, (0, 4, 4))], [], [], [], [], [], none), [(2, [], [0], [(0, (0, 4, 4)), (1, (0, 4, 4))], [], [], [], [], [], none)], [], 0, 0)
set_option maxRecDepth 100000 in
def qP446 : zk_P := ([], [], [], [], [], [], [])
set_option maxRecDepth 100000 in
def qH446 : List zk_Hd := []
set_option maxRecDepth 100000 in
def qX446 : List zk_Hd := []
set_option maxRecDepth 100000 in
theorem qk446 : zk_chk qK qP446 prog_18_method_69_code 2 qC446 (some .int) qH446 qX446 66 0 = true := zk_chkD_ok (T := qdt_18_69) qdo_18_69 (by decide +kernel)
set_option maxRecDepth 100000 in
/-- java/lang/StringLatin1.indexOfChar([BIII)I java/lang/StringLatin1.indexOf([BIII)I@33java/lang/String.indexOf(II)I@17java/lang/String.indexOf(I)I@3UnaskedLetters$LetterReader.folded(I)I@4 -/
def qC447 : zk_C := ((4, [], [0, 1, 2, 3], [(0, (2, 116, 0)), (1, (0, 0, 255)), (2, (0, 0, 0)), (3, (0, 4, 4))], [], [], [], [], [], none), [(5, [], [4], [(0, (2, 116, 0)), (1, (0, 0, 255)), (2, (0, 0, 0)), (3, (0, 4, 4)), (4, (0, (-1), (-1)))], [], [], [], [], [], none), (5, [], [4], [(0, (2, 116, 0)), (1, (0, 0, 255)), (2, (0, 0, 0)), (3, (0, 4, 4)), (4, (0, 0, 3))], [], [], [], [], [], none)], [], 0, 0)
set_option maxRecDepth 100000 in
def qP447 : zk_P := ([], [], [], [], [], [], [])
set_option maxRecDepth 100000 in
def qH447 : List zk_Hd := [(7, (6, [(0, 0), (3, 3), (4, 4), (5, 5)], [], [(0, (2, 116, 0)), (1, (0, 0, 255)), (2, (0, 0, 0)), (3, (0, 4, 4)), (4, (0, (-128), 127)), (5, (0, 0, 4))], [], [], [], [], [], none), [(1, none, none), (5, none, some 5), (1, none, none)], 0, 0)]
set_option maxRecDepth 100000 in
def qX447 : List zk_Hd := []
set_option maxRecDepth 100000 in
theorem qk447 : zk_chk qK qP447 prog_20_method_23_code 6 qC447 (some .int) qH447 qX447 71 3 = true := zk_chkD_ok (T := qdt_20_23) qdo_20_23 (by decide +kernel)
set_option maxRecDepth 100000 in
/-- java/lang/StringLatin1.indexOf([BIII)I java/lang/String.indexOf(II)I@17java/lang/String.indexOf(I)I@3UnaskedLetters$LetterReader.folded(I)I@4 -/
def qC448 : zk_C := ((4, [], [0, 1, 2, 3], [(0, (2, 116, 0)), (1, (0, 0, 65535)), (2, (0, 0, 0)), (3, (0, 4, 4))], [], [], [], [], [], none), [(5, [], [4], [(0, (2, 116, 0)), (1, (0, 256, 65535)), (2, (0, 0, 0)), (3, (0, 4, 4)), (4, (0, (-1), (-1)))], [], [], [], [], [], none), (5, [], [4], [(0, (2, 116, 0)), (1, (0, 0, 255)), (2, (0, 0, 0)), (3, (0, 4, 4)), (4, (0, (-1), (-1)))], [], [], [], [], [], none), (5, [], [4], [(0, (2, 116, 0)), (1, (0, 0, 255)), (2, (0, 0, 0)), (3, (0, 4, 4)), (4, (0, 0, 3))], [], [], [], [], [], none)], [], 0, 0)
set_option maxRecDepth 100000 in
def qP448 : zk_P := ([], [], [], [], [], [(1, qC444), (11, qC445), (18, qC446), (33, qC447)], [])
set_option maxRecDepth 100000 in
def qH448 : List zk_Hd := []
set_option maxRecDepth 100000 in
def qX448 : List zk_Hd := []
set_option maxRecDepth 100000 in
theorem qk448 : zk_chk qK qP448 prog_20_method_22_code 4 qC448 (some .int) qH448 qX448 81 0 = true := zk_chkD_ok (T := qdt_20_22) qdo_20_22 (by decide +kernel)
set_option maxRecDepth 100000 in
/-- java/lang/String.indexOf(II)I java/lang/String.indexOf(I)I@3UnaskedLetters$LetterReader.folded(I)I@4 -/
def qC449 : zk_C := ((3, [], [0, 1, 2], [(0, (2, 117, 0)), (1, (0, 0, 65535)), (2, (0, 0, 0))], [], [], [], [], [], none), [(4, [], [3], [(0, (2, 117, 0)), (1, (0, 256, 65535)), (2, (0, 0, 0)), (3, (0, (-1), (-1)))], [], [], [], [], [], none), (4, [], [3], [(0, (2, 117, 0)), (1, (0, 0, 255)), (2, (0, 0, 0)), (3, (0, (-1), (-1)))], [], [], [], [], [], none), (4, [], [3], [(0, (2, 117, 0)), (1, (0, 0, 255)), (2, (0, 0, 0)), (3, (0, 0, 3))], [], [], [], [], [], none)], [], 0, 0)
set_option maxRecDepth 100000 in
def qP449 : zk_P := ([(9, 13, 0, 4)], [], [], [], [], [(1, qC441), (14, qC443), (17, qC448)], [])
set_option maxRecDepth 100000 in
def qH449 : List zk_Hd := []
set_option maxRecDepth 100000 in
def qX449 : List zk_Hd := []
set_option maxRecDepth 100000 in
theorem qk449 : zk_chk qK qP449 prog_19_method_80_code 3 qC449 (some .int) qH449 qX449 72 0 = true := zk_chkD_ok (T := qdt_19_80) qdo_19_80 (by decide +kernel)
set_option maxRecDepth 100000 in
/-- java/lang/String.indexOf(I)I UnaskedLetters$LetterReader.folded(I)I@4 -/
def qC450 : zk_C := ((2, [], [0, 1], [(0, (2, 117, 0)), (1, (0, 0, 65535))], [], [], [], [], [], none), [(3, [], [2], [(0, (2, 117, 0)), (1, (0, 256, 65535)), (2, (0, (-1), (-1)))], [], [], [], [], [], none), (3, [], [2], [(0, (2, 117, 0)), (1, (0, 0, 255)), (2, (0, (-1), (-1)))], [], [], [], [], [], none), (3, [], [2], [(0, (2, 117, 0)), (1, (0, 0, 255)), (2, (0, 0, 3))], [], [], [], [], [], none)], [], 0, 0)
set_option maxRecDepth 100000 in
def qP450 : zk_P := ([], [], [], [], [], [(3, qC449)], [])
set_option maxRecDepth 100000 in
def qH450 : List zk_Hd := []
set_option maxRecDepth 100000 in
def qX450 : List zk_Hd := []
set_option maxRecDepth 100000 in
theorem qk450 : zk_chk qK qP450 prog_19_method_79_code 2 qC450 (some .int) qH450 qX450 65 0 = true := zk_chkD_ok (T := qdt_19_79) qdo_19_79 (by decide +kernel)
set_option maxRecDepth 100000 in
/-- java/lang/String.coder()B java/lang/String.length()I@6UnaskedLetters$LetterReader.folded(I)I@15 -/
def qC451 : zk_C := ((1, [], [0], [(0, (2, 119, 0))], [], [], [], [], [], none), [(2, [], [1], [(0, (2, 119, 0)), (1, (0, 0, 0))], [], [], [], [], [], none)], [], 0, 0)
set_option maxRecDepth 100000 in
def qP451 : zk_P := ([(15, 13, 1, 4)], [], [], [], [(0, 3, (0, 1, 1))], [], [])
set_option maxRecDepth 100000 in
def qH451 : List zk_Hd := []
set_option maxRecDepth 100000 in
def qX451 : List zk_Hd := []
set_option maxRecDepth 100000 in
theorem qk451 : zk_chk qK qP451 prog_19_method_152_code 1 qC451 (some .byte) qH451 qX451 66 0 = true := zk_chkD_ok (T := qdt_19_152) qdo_19_152 (by decide +kernel)
set_option maxRecDepth 100000 in
/-- java/lang/String.length()I UnaskedLetters$LetterReader.folded(I)I@15 -/
def qC452 : zk_C := ((1, [], [0], [(0, (2, 119, 0))], [], [], [], [], [], none), [(2, [], [1], [(0, (2, 119, 0)), (1, (0, 4, 4))], [], [], [], [], [], none)], [], 0, 0)
set_option maxRecDepth 100000 in
def qP452 : zk_P := ([(9, 13, 0, 4)], [], [], [], [], [(6, qC451)], [])
set_option maxRecDepth 100000 in
def qH452 : List zk_Hd := []
set_option maxRecDepth 100000 in
def qX452 : List zk_Hd := []
set_option maxRecDepth 100000 in
theorem qk452 : zk_chk qK qP452 prog_19_method_54_code 1 qC452 (some .int) qH452 qX452 67 0 = true := zk_chkD_ok (T := qdt_19_54) qdo_19_54 (by decide +kernel)
set_option maxRecDepth 100000 in
/-- java/lang/String.isLatin1()Z java/lang/String.charAt(I)C@1UnaskedLetters$LetterReader.folded(I)I@24 -/
def qC453 : zk_C := ((1, [], [0], [(0, (2, 119, 0))], [], [], [], [], [], none), [(2, [], [1], [(0, (2, 119, 0)), (1, (0, 1, 1))], [], [], [], [], [], none)], [], 0, 0)
set_option maxRecDepth 100000 in
def qP453 : zk_P := ([(15, 13, 1, 4)], [], [], [], [(0, 3, (0, 1, 1))], [], [])
set_option maxRecDepth 100000 in
def qH453 : List zk_Hd := []
set_option maxRecDepth 100000 in
def qX453 : List zk_Hd := []
set_option maxRecDepth 100000 in
theorem qk453 : zk_chk qK qP453 prog_19_method_154_code 1 qC453 (some .boolean) qH453 qX453 68 0 = true := zk_chkD_ok (T := qdt_19_154) qdo_19_154 (by decide +kernel)
set_option maxRecDepth 100000 in
/-- java/lang/String.checkIndex(II)V  -/
def qC454 : zk_C := ((2, [], [0, 1], [(0, (0, 0, 2147483647)), (1, (0, (-2147483648), 2147483647))], [(0, 1, (-1))], [], [], [], [], none), [(2, [], [], [], [], [], [], [], [], none)], [], 0, 0)
set_option maxRecDepth 100000 in
/-- java/lang/StringLatin1.charAt([BI)C java/lang/String.charAt(I)C@12UnaskedLetters$LetterReader.folded(I)I@24 -/
def qC455 : zk_C := ((2, [], [0, 1], [(0, (2, 118, 0)), (1, (0, 0, 3))], [], [], [], [], [], none), [(3, [], [2], [(0, (2, 118, 0)), (1, (0, 0, 3)), (2, (0, 0, 115))], [], [], [], [], [], none)], [], 0, 0)
set_option maxRecDepth 100000 in
def qP455 : zk_P := ([], [], [], [], [], [(3, qC454)], [])
set_option maxRecDepth 100000 in
def qH455 : List zk_Hd := []
set_option maxRecDepth 100000 in
def qX455 : List zk_Hd := []
set_option maxRecDepth 100000 in
theorem qk455 : zk_chk qK qP455 prog_20_method_2_code 2 qC455 (some .char) qH455 qX455 71 0 = true := zk_chkD_ok (T := qdt_20_2) qdo_20_2 (by decide +kernel)
set_option maxRecDepth 100000 in
/-- java/lang/String.charAt(I)C UnaskedLetters$LetterReader.folded(I)I@24 -/
def qC456 : zk_C := ((2, [], [0, 1], [(0, (2, 119, 0)), (1, (0, 0, 3))], [], [], [], [], [], none), [(3, [], [2], [(0, (2, 119, 0)), (1, (0, 0, 3)), (2, (0, 0, 115))], [], [], [], [], [], none)], [], 0, 0)
set_option maxRecDepth 100000 in
def qP456 : zk_P := ([(9, 13, 0, 4)], [], [], [], [], [(1, qC453), (12, qC455)], [])
set_option maxRecDepth 100000 in
def qH456 : List zk_Hd := []
set_option maxRecDepth 100000 in
def qX456 : List zk_Hd := []
set_option maxRecDepth 100000 in
theorem qk456 : zk_chk qK qP456 prog_19_method_56_code 2 qC456 (some .char) qH456 qX456 68 0 = true := zk_chkD_ok (T := qdt_19_56) qdo_19_56 (by decide +kernel)
set_option maxRecDepth 100000 in
/-- UnaskedLetters$LetterReader.folded(I)I  -/
def qC457 : zk_C := ((1, [], [0], [(0, (0, (-2147483648), 2147483647))], [], [], [], [], [], none), [(1, [], [0], [(0, (0, (-2147483648), 2147483647))], [], [], [], [], [], none), (2, [], [1], [(0, (0, (-2147483648), 2147483647)), (1, (0, 0, 115))], [], [], [], [], [], none)], [], 0, 0)
set_option maxRecDepth 100000 in
def qP457 : zk_P := ([], [], [], [], [(0, 2, (2, 117, 0)), (13, 2, (2, 119, 0)), (21, 2, (2, 119, 0))], [(4, qC450), (15, qC452), (24, qC456)], [])
set_option maxRecDepth 100000 in
def qH457 : List zk_Hd := []
set_option maxRecDepth 100000 in
def qX457 : List zk_Hd := []
set_option maxRecDepth 100000 in
theorem qk457 : zk_chk qK qP457 prog_4_method_6_code 2 qC457 (some .int) qH457 qX457 76 0 = true := zk_chkD_ok (T := qdt_4_6) qdo_4_6 (by decide +kernel)
