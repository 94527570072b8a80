/-! CONTRACTS: found by wip/an (python). -/
set_option maxRecDepth 100000
/-- UnaskedLetters$Word.longer(JI)J  -/
def qC389 : zk_C := ((2, [], [0, 1], [(0, (1, (-9223372036854775808), 9223372036854775807)), (1, (0, (-1), 255))], [], [], [], [], [], none), [(3, [], [2], [(0, (1, (-9223372036854775808), 9223372036854775807)), (1, (0, (-1), 96)), (2, (1, (-9223372036854775808), 9223372036854775807))], [], [], [], [], [], none), (3, [], [2], [(0, (1, (-9223372036854775808), 9223372036854775807)), (1, (0, 97, 255)), (2, (1, (-9223372036854775808), 9223372036854775807))], [], [], [], [], [], none)], [], 0, 0)
def qP389 : zk_P := ([], [], [], [], [(1, 3, (1, 37, 37))], [], [])
def qH389 : List zk_Hd := []
def qX389 : List zk_Hd := []
theorem qk389 : zk_chk qK qP389 prog_11_method_4_code 3 qC389 (some .long) qH389 qX389 75 0 = true := by decide +kernel
/-- UnaskedLetters$LetterReader.take(I)V  -/
def qC390 : zk_C := ((5, [], [0, 1], [(0, (2, 15, 0)), (1, (0, (-2147483648), 2147483647)), (2, (0, 0, 160)), (3, (1, (-9223372036854775808), 9223372036854775807)), (4, (0, 0, 12))], [], [(0, 1, 2), (0, 2, 3), (0, 3, 4)], [], [], [], none), [(8, [], [], [(0, (2, 15, 0)), (1, (0, (-2147483648), 2147483647)), (2, (0, 0, 160)), (3, (1, (-9223372036854775808), 9223372036854775807)), (4, (0, 0, 12)), (5, (0, 0, 160)), (6, (1, (-9223372036854775808), 9223372036854775807)), (7, (0, 0, 12))], [(2, 5, 0), (5, 2, 1), (7, 4, 1)], [(0, 1, 5), (0, 2, 6), (0, 3, 7)], [], [], [], none)], [(15, 1), (15, 2), (15, 3), (17, 0)], 0, 0)
def qP390 : zk_P := ([(41, 2, 3, 0), (34, 2, 1, 0), (11, 2, 0, 4), (37, 2, 2, 1)], [], [], [], [], [(1, qC36), (77, qC389)], [])
def qH390 : List zk_Hd := []
def qX390 : List zk_Hd := []
theorem qk390 : zk_chk qK qP390 prog_4_method_5_code 2 qC390 none qH390 qX390 93 0 = true := by decide +kernel
/-- java/lang/String.isLatin1()Z java/lang/String.indexOf(II)I@1java/lang/String.indexOf(I)I@3UnaskedLetters$LetterReader.folded(I)I@4 -/
def qC391 : zk_C := ((1, [], [0], [(0, (2, 117, 0))], [], [], [], [], [], none), [(2, [], [1], [(0, (2, 117, 0)), (1, (0, 1, 1))], [], [], [], [], [], none)], [], 0, 0)
def qP391 : zk_P := ([(15, 13, 1, 4)], [], [], [], [(0, 3, (0, 1, 1))], [], [])
def qH391 : List zk_Hd := []
def qX391 : List zk_Hd := []
theorem qk391 : zk_chk qK qP391 prog_19_method_154_code 1 qC391 (some .boolean) qH391 qX391 68 0 = true := by decide +kernel
/-- java/lang/String.coder()B java/lang/String.length()I@6java/lang/String.indexOf(II)I@14java/lang/String.indexOf(I)I@3UnaskedLetters$LetterReader.folded(I)I@4 -/
def qC392 : zk_C := ((1, [], [0], [(0, (2, 117, 0))], [], [], [], [], [], none), [(2, [], [1], [(0, (2, 117, 0)), (1, (0, 0, 0))], [], [], [], [], [], none)], [], 0, 0)
def qP392 : zk_P := ([(15, 13, 1, 4)], [], [], [], [(0, 3, (0, 1, 1))], [], [])
def qH392 : List zk_Hd := []
def qX392 : List zk_Hd := []
theorem qk392 : zk_chk qK qP392 prog_19_method_152_code 1 qC392 (some .byte) qH392 qX392 66 0 = true := by decide +kernel
/-- java/lang/String.length()I java/lang/String.indexOf(II)I@14java/lang/String.indexOf(I)I@3UnaskedLetters$LetterReader.folded(I)I@4 -/
def qC393 : zk_C := ((1, [], [0], [(0, (2, 117, 0))], [], [], [], [], [], none), [(2, [], [1], [(0, (2, 117, 0)), (1, (0, 4, 4))], [], [], [], [], [], none)], [], 0, 0)
def qP393 : zk_P := ([(9, 13, 0, 4)], [], [], [], [], [(6, qC392)], [])
def qH393 : List zk_Hd := []
def qX393 : List zk_Hd := []
theorem qk393 : zk_chk qK qP393 prog_19_method_54_code 1 qC393 (some .int) qH393 qX393 67 0 = true := by decide +kernel
/-- java/lang/StringLatin1.canEncode(I)Z java/lang/StringLatin1.indexOf([BIII)I@1java/lang/String.indexOf(II)I@17java/lang/String.indexOf(I)I@3UnaskedLetters$LetterReader.folded(I)I@4 -/
def qC394 : zk_C := ((1, [], [0], [(0, (0, 0, 65535))], [], [], [], [], [], none), [(2, [], [1], [(0, (0, 256, 65535)), (1, (0, 0, 0))], [], [], [], [], [], none), (2, [], [1], [(0, (0, 0, 255)), (1, (0, 1, 1))], [], [], [], [], [], none)], [], 0, 0)
def qP394 : zk_P := ([], [], [], [], [], [], [])
def qH394 : List zk_Hd := []
def qX394 : List zk_Hd := []
theorem qk394 : zk_chk qK qP394 prog_20_method_4_code 1 qC394 (some .boolean) qH394 qX394 68 0 = true := by decide +kernel
/-- java/lang/Math.max(II)I java/lang/StringLatin1.indexOf([BIII)I@11java/lang/String.indexOf(II)I@17java/lang/String.indexOf(I)I@3UnaskedLetters$LetterReader.folded(I)I@4 -/
def qC395 : zk_C := ((2, [], [0, 1], [(0, (0, 0, 0)), (1, (0, 0, 0))], [], [], [], [], [], none), [(2, [], [0], [(0, (0, 0, 0)), (1, (0, 0, 0))], [], [], [], [], [], none)], [], 0, 0)
def qP395 : zk_P := ([], [], [], [], [], [], [])
def qH395 : List zk_Hd := []
def qX395 : List zk_Hd := []
theorem qk395 : zk_chk qK qP395 prog_18_method_65_code 2 qC395 (some .int) qH395 qX395 66 0 = true := by decide +kernel
/-- java/lang/Math.min(II)I java/lang/StringLatin1.indexOf([BIII)I@18java/lang/String.indexOf(II)I@17java/lang/String.indexOf(I)I@3UnaskedLetters$LetterReader.folded(I)I@4 -/
def qC396 : zk_C := ((2, [], [0, 1], [(0, (0, 4, 4)), (1, (0, 4, 4))], [], [], [], [], [], none), [(2, [], [0], [(0, (0, 4, 4)), (1, (0, 4, 4))], [], [], [], [], [], none)], [], 0, 0)
def qP396 : zk_P := ([], [], [], [], [], [], [])
def qH396 : List zk_Hd := []
def qX396 : List zk_Hd := []
theorem qk396 : zk_chk qK qP396 prog_18_method_69_code 2 qC396 (some .int) qH396 qX396 66 0 = true := by decide +kernel
/-- java/lang/StringLatin1.indexOfChar([BIII)I java/lang/StringLatin1.indexOf([BIII)I@33java/lang/String.indexOf(II)I@17java/lang/String.indexOf(I)I@3UnaskedLetters$LetterReader.folded(I)I@4 -/
def qC397 : zk_C := ((4, [], [0, 1, 2, 3], [(0, (2, 116, 0)), (1, (0, 0, 255)), (2, (0, 0, 0)), (3, (0, 4, 4))], [], [], [], [], [], none), [(5, [], [4], [(0, (2, 116, 0)), (1, (0, 0, 255)), (2, (0, 0, 0)), (3, (0, 4, 4)), (4, (0, (-1), (-1)))], [], [], [], [], [], none), (5, [], [4], [(0, (2, 116, 0)), (1, (0, 0, 255)), (2, (0, 0, 0)), (3, (0, 4, 4)), (4, (0, 0, 3))], [], [], [], [], [], none)], [], 0, 0)
def qP397 : zk_P := ([], [], [], [], [], [], [])
def qH397 : List zk_Hd := [(7, (6, [(0, 0), (3, 3), (4, 4), (5, 5)], [], [(0, (2, 116, 0)), (1, (0, 0, 255)), (2, (0, 0, 0)), (3, (0, 4, 4)), (4, (0, (-128), 127)), (5, (0, 0, 4))], [], [], [], [], [], none), [(1, none, none), (5, none, some 5), (1, none, none)], 0, 0)]
def qX397 : List zk_Hd := []
theorem qk397 : zk_chk qK qP397 prog_20_method_23_code 6 qC397 (some .int) qH397 qX397 71 3 = true := by decide +kernel
/-- java/lang/StringLatin1.indexOf([BIII)I java/lang/String.indexOf(II)I@17java/lang/String.indexOf(I)I@3UnaskedLetters$LetterReader.folded(I)I@4 -/
def qC398 : zk_C := ((4, [], [0, 1, 2, 3], [(0, (2, 116, 0)), (1, (0, 0, 65535)), (2, (0, 0, 0)), (3, (0, 4, 4))], [], [], [], [], [], none), [(5, [], [4], [(0, (2, 116, 0)), (1, (0, 256, 65535)), (2, (0, 0, 0)), (3, (0, 4, 4)), (4, (0, (-1), (-1)))], [], [], [], [], [], none), (5, [], [4], [(0, (2, 116, 0)), (1, (0, 0, 255)), (2, (0, 0, 0)), (3, (0, 4, 4)), (4, (0, (-1), (-1)))], [], [], [], [], [], none), (5, [], [4], [(0, (2, 116, 0)), (1, (0, 0, 255)), (2, (0, 0, 0)), (3, (0, 4, 4)), (4, (0, 0, 3))], [], [], [], [], [], none)], [], 0, 0)
def qP398 : zk_P := ([], [], [], [], [], [(1, qC394), (11, qC395), (18, qC396), (33, qC397)], [])
def qH398 : List zk_Hd := []
def qX398 : List zk_Hd := []
theorem qk398 : zk_chk qK qP398 prog_20_method_22_code 4 qC398 (some .int) qH398 qX398 81 0 = true := by decide +kernel
/-- java/lang/String.indexOf(II)I java/lang/String.indexOf(I)I@3UnaskedLetters$LetterReader.folded(I)I@4 -/
def qC399 : zk_C := ((3, [], [0, 1, 2], [(0, (2, 117, 0)), (1, (0, 0, 65535)), (2, (0, 0, 0))], [], [], [], [], [], none), [(4, [], [3], [(0, (2, 117, 0)), (1, (0, 256, 65535)), (2, (0, 0, 0)), (3, (0, (-1), (-1)))], [], [], [], [], [], none), (4, [], [3], [(0, (2, 117, 0)), (1, (0, 0, 255)), (2, (0, 0, 0)), (3, (0, (-1), (-1)))], [], [], [], [], [], none), (4, [], [3], [(0, (2, 117, 0)), (1, (0, 0, 255)), (2, (0, 0, 0)), (3, (0, 0, 3))], [], [], [], [], [], none)], [], 0, 0)
def qP399 : zk_P := ([(9, 13, 0, 4)], [], [], [], [], [(1, qC391), (14, qC393), (17, qC398)], [])
def qH399 : List zk_Hd := []
def qX399 : List zk_Hd := []
theorem qk399 : zk_chk qK qP399 prog_19_method_80_code 3 qC399 (some .int) qH399 qX399 72 0 = true := by decide +kernel
/-- java/lang/String.indexOf(I)I UnaskedLetters$LetterReader.folded(I)I@4 -/
def qC400 : zk_C := ((2, [], [0, 1], [(0, (2, 117, 0)), (1, (0, 0, 65535))], [], [], [], [], [], none), [(3, [], [2], [(0, (2, 117, 0)), (1, (0, 256, 65535)), (2, (0, (-1), (-1)))], [], [], [], [], [], none), (3, [], [2], [(0, (2, 117, 0)), (1, (0, 0, 255)), (2, (0, (-1), (-1)))], [], [], [], [], [], none), (3, [], [2], [(0, (2, 117, 0)), (1, (0, 0, 255)), (2, (0, 0, 3))], [], [], [], [], [], none)], [], 0, 0)
def qP400 : zk_P := ([], [], [], [], [], [(3, qC399)], [])
def qH400 : List zk_Hd := []
def qX400 : List zk_Hd := []
theorem qk400 : zk_chk qK qP400 prog_19_method_79_code 2 qC400 (some .int) qH400 qX400 65 0 = true := by decide +kernel
/-- java/lang/String.coder()B java/lang/String.length()I@6UnaskedLetters$LetterReader.folded(I)I@15 -/
def qC401 : zk_C := ((1, [], [0], [(0, (2, 119, 0))], [], [], [], [], [], none), [(2, [], [1], [(0, (2, 119, 0)), (1, (0, 0, 0))], [], [], [], [], [], none)], [], 0, 0)
def qP401 : zk_P := ([(15, 13, 1, 4)], [], [], [], [(0, 3, (0, 1, 1))], [], [])
def qH401 : List zk_Hd := []
def qX401 : List zk_Hd := []
theorem qk401 : zk_chk qK qP401 prog_19_method_152_code 1 qC401 (some .byte) qH401 qX401 66 0 = true := by decide +kernel
/-- java/lang/String.length()I UnaskedLetters$LetterReader.folded(I)I@15 -/
def qC402 : zk_C := ((1, [], [0], [(0, (2, 119, 0))], [], [], [], [], [], none), [(2, [], [1], [(0, (2, 119, 0)), (1, (0, 4, 4))], [], [], [], [], [], none)], [], 0, 0)
def qP402 : zk_P := ([(9, 13, 0, 4)], [], [], [], [], [(6, qC401)], [])
def qH402 : List zk_Hd := []
def qX402 : List zk_Hd := []
theorem qk402 : zk_chk qK qP402 prog_19_method_54_code 1 qC402 (some .int) qH402 qX402 67 0 = true := by decide +kernel
/-- java/lang/String.isLatin1()Z java/lang/String.charAt(I)C@1UnaskedLetters$LetterReader.folded(I)I@24 -/
def qC403 : zk_C := ((1, [], [0], [(0, (2, 119, 0))], [], [], [], [], [], none), [(2, [], [1], [(0, (2, 119, 0)), (1, (0, 1, 1))], [], [], [], [], [], none)], [], 0, 0)
def qP403 : zk_P := ([(15, 13, 1, 4)], [], [], [], [(0, 3, (0, 1, 1))], [], [])
def qH403 : List zk_Hd := []
def qX403 : List zk_Hd := []
theorem qk403 : zk_chk qK qP403 prog_19_method_154_code 1 qC403 (some .boolean) qH403 qX403 68 0 = true := by decide +kernel
/-- java/lang/String.checkIndex(II)V  -/
def qC404 : zk_C := ((2, [], [0, 1], [(0, (0, 0, 2147483647)), (1, (0, (-2147483648), 2147483647))], [(0, 1, (-1))], [], [], [], [], none), [(2, [], [], [], [], [], [], [], [], none)], [], 0, 0)
/-- java/lang/StringLatin1.charAt([BI)C java/lang/String.charAt(I)C@12UnaskedLetters$LetterReader.folded(I)I@24 -/
def qC405 : zk_C := ((2, [], [0, 1], [(0, (2, 118, 0)), (1, (0, 0, 3))], [], [], [], [], [], none), [(3, [], [2], [(0, (2, 118, 0)), (1, (0, 0, 3)), (2, (0, 0, 115))], [], [], [], [], [], none)], [], 0, 0)
def qP405 : zk_P := ([], [], [], [], [], [(3, qC404)], [])
def qH405 : List zk_Hd := []
def qX405 : List zk_Hd := []
theorem qk405 : zk_chk qK qP405 prog_20_method_2_code 2 qC405 (some .char) qH405 qX405 71 0 = true := by decide +kernel
/-- java/lang/String.charAt(I)C UnaskedLetters$LetterReader.folded(I)I@24 -/
def qC406 : zk_C := ((2, [], [0, 1], [(0, (2, 119, 0)), (1, (0, 0, 3))], [], [], [], [], [], none), [(3, [], [2], [(0, (2, 119, 0)), (1, (0, 0, 3)), (2, (0, 0, 115))], [], [], [], [], [], none)], [], 0, 0)
def qP406 : zk_P := ([(9, 13, 0, 4)], [], [], [], [], [(1, qC403), (12, qC405)], [])
def qH406 : List zk_Hd := []
def qX406 : List zk_Hd := []
theorem qk406 : zk_chk qK qP406 prog_19_method_56_code 2 qC406 (some .char) qH406 qX406 68 0 = true := by decide +kernel
/-- UnaskedLetters$LetterReader.folded(I)I  -/
def qC407 : zk_C := ((1, [], [0], [(0, (0, (-2147483648), 2147483647))], [], [], [], [], [], none), [(1, [], [0], [(0, (0, (-2147483648), 2147483647))], [], [], [], [], [], none), (2, [], [1], [(0, (0, (-2147483648), 2147483647)), (1, (0, 0, 115))], [], [], [], [], [], none)], [], 0, 0)
def qP407 : zk_P := ([], [], [], [], [(0, 2, (2, 117, 0)), (13, 2, (2, 119, 0)), (21, 2, (2, 119, 0))], [(4, qC400), (15, qC402), (24, qC406)], [])
def qH407 : List zk_Hd := []
def qX407 : List zk_Hd := []
theorem qk407 : zk_chk qK qP407 prog_4_method_6_code 2 qC407 (some .int) qH407 qX407 76 0 = true := by decide +kernel
