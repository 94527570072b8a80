/-! CONTRACTS: found by wip/an (python). -/
set_option maxRecDepth 100000
/-- UnaskedLettersModel.off(II)Z  -/
def qC348 : zk_C := ((3, [], [0, 1, 2], [(0, (2, 57, 0)), (1, (0, (-2147483648), 2147483647)), (2, (0, (-2147483648), 2147483647))], [], [], [], [], [], none), [(4, [], [3], [(0, (2, 57, 0)), (1, (0, (-2147483648), 2147483647)), (2, (0, (-2147483648), 2147483647)), (3, (0, 0, 1))], [], [], [], [], [], none)], [(57, 58), (96, 0), (97, 0), (98, 0)], 0, 0)
def qP348 : zk_P := ([(409, 12, 58, 0), (123, 12, 54, 4), (126, 12, 55, 4), (129, 12, 56, 4), (156, 12, 0, 0)], [], [], [], [], [(2, qC347), (10, qC19)], [])
def qH348 : List zk_Hd := []
def qX348 : List zk_Hd := []
theorem qk348 : zk_chk qK qP348 prog_14_method_78_code 3 qC348 (some .boolean) qH348 qX348 99 0 = true := by decide +kernel
/-- java/util/Arrays.fill([II)V UnaskedLetters$Marks.know(I)V@5 -/
def qC349 : zk_C := ((2, [], [0, 1], [(0, (2, 49, 0)), (1, (0, 0, 0))], [], [], [], [], [], none), [(2, [], [], [(0, (2, 49, 0)), (1, (0, 0, 0))], [], [], [], [], [], none)], [(49, 0)], 0, 0)
def qP349 : zk_P := ([], [], [], [], [], [], [])
def qH349 : List zk_Hd := [(5, (4, [(0, 0), (1, 1), (2, 2), (3, 3)], [], [(0, (2, 49, 0)), (1, (0, 0, 0)), (2, (0, 0, 120)), (3, (0, 120, 120))], [], [], [], [], [], none), [(1, none, none), (121, none, some 2), (1, none, none)], 0, 0)]
def qX349 : List zk_Hd := []
theorem qk349 : zk_chk qK qP349 prog_23_method_103_code 4 qC349 none qH349 qX349 70 3 = true := by decide +kernel
/-- UnaskedLetters$Marks.know(I)V  -/
def qC350 : zk_C := ((2, [], [0, 1], [(0, (2, 44, 0)), (1, (0, (-2147483648), 2147483647))], [], [], [], [], [], none), [(2, [], [], [(0, (2, 44, 0)), (1, (0, (-2147483648), 2147483647))], [], [], [], [], [], none)], [(49, 0)], 0, 0)
def qP350 : zk_P := ([(21, 3, 3, 4), (24, 3, 4, 0), (15, 3, 1, 4), (11, 3, 0, 4), (18, 3, 2, 4)], [], [], [], [], [(5, qC349)], [])
def qH350 : List zk_Hd := [(10, (3, [(0, 0), (1, 1), (2, 2)], [], [(0, (2, 44, 0)), (1, (0, (-2147483648), 2147483647)), (2, (0, 0, 200))], [], [], [], [], [], none), [(1, none, none), (201, none, some 2), (1, none, none)], 0, 0)]
def qX350 : List zk_Hd := []
theorem qk350 : zk_chk qK qP350 prog_5_method_3_code 3 qC350 none qH350 qX350 84 3 = true := by decide +kernel
/-- UnaskedLetters$RuleBook.codeOf(I)[I  -/
def qC351 : zk_C := ((2, [], [0, 1], [(0, (2, 27, 0)), (1, (0, (-1), 19))], [], [], [], [], [], none), [(3, [], [2], [(0, (2, 27, 0)), (1, (0, (-1), (-1))), (2, (2, 0, 1))], [], [], [], [], [], none), (4, [], [2], [(0, (2, 27, 0)), (1, (0, 0, 19)), (2, (2, 0, 1)), (3, (0, 0, 19))], [(3, 1, 0)], [(0, 5, 3)], [], [], [], none), (4, [], [2], [(0, (2, 27, 0)), (1, (0, 0, 19)), (2, (2, 124, 1)), (3, (0, 1, 20))], [(1, 3, (-1))], [(0, 5, 3)], [], [], [], none)], [], 0, 0)
def qP351 : zk_P := ([(39, 5, 5, 0), (26, 5, 4, 4)], [], [], [], [], [], [])
def qH351 : List zk_Hd := []
def qX351 : List zk_Hd := []
theorem qk351 : zk_chk qK qP351 prog_7_method_4_code 2 qC351 (some (.array .int)) qH351 qX351 72 0 = true := by decide +kernel
/-- java/lang/Math.min(II)I UnaskedLetters.barred(IIII)Z@31 -/
def qC352 : zk_C := ((2, [], [0, 1], [(0, (0, (-2147483648), 2147483647)), (1, (0, (-2147483648), 2147483647))], [], [], [], [], [], none), [(2, [], [1], [(0, (0, (-2147483647), 2147483647)), (1, (0, (-2147483648), 2147483646))], [(1, 0, (-1))], [], [], [], [], none), (2, [], [0], [(0, (0, (-2147483648), 2147483647)), (1, (0, (-2147483648), 2147483647))], [(0, 1, 0)], [], [], [], [], none)], [], 0, 0)
def qP352 : zk_P := ([], [], [], [], [], [], [])
def qH352 : List zk_Hd := []
def qX352 : List zk_Hd := []
theorem qk352 : zk_chk qK qP352 prog_18_method_69_code 2 qC352 (some .int) qH352 qX352 66 0 = true := by decide +kernel
/-- UnaskedLetters$RuleBook.lastAsked(III)I  -/
def qC353 : zk_C := ((4, [], [0, 1, 2, 3], [(0, (2, 27, 0)), (1, (0, 0, 3)), (2, (0, 0, 11)), (3, (0, (-2147483648), 2147483647))], [], [], [], [], [], none), [(5, [], [4], [(0, (2, 27, 0)), (1, (0, 0, 3)), (2, (0, 0, 11)), (3, (0, (-2147483648), 2147483647)), (4, (0, (-2147483648), 2147483647))], [], [], [], [], [], none)], [], 0, 0)
def qP353 : zk_P := ([(47, 5, 9, 0), (36, 5, 8, 4), (30, 5, 6, 4), (33, 5, 7, 4)], [], [], [], [], [], [])
def qH353 : List zk_Hd := [(6, (6, [(0, 0), (1, 1), (2, 2), (3, 3), (4, 4), (5, 5)], [], [(0, (2, 27, 0)), (1, (0, 0, 3)), (2, (0, 0, 11)), (3, (0, (-2147483648), 2147483647)), (4, (0, (-2147483648), 2147483647)), (5, (0, 0, 100))], [], [], [], [], [], none), [(1, none, none), (101, none, some 5), (1, none, none)], 0, 0)]
def qX353 : List zk_Hd := []
theorem qk353 : zk_chk qK qP353 prog_7_method_7_code 6 qC353 (some .int) qH353 qX353 90 3 = true := by decide +kernel
/-- java/util/Arrays.fill([II)V UnaskedLetters$Judge.clear()V@5 -/
def qC354 : zk_C := ((2, [], [0, 1], [(0, (2, 25, 0)), (1, (0, 0, 0))], [], [], [], [], [], none), [(2, [], [], [(0, (2, 25, 0)), (1, (0, 0, 0))], [], [], [], [], [], none)], [(25, 0)], 0, 0)
def qP354 : zk_P := ([], [], [], [], [], [], [])
def qH354 : List zk_Hd := [(5, (4, [(0, 0), (1, 1), (2, 2), (3, 3)], [], [(0, (2, 25, 0)), (1, (0, 0, 0)), (2, (0, 0, 12)), (3, (0, 12, 12))], [], [], [], [], [], none), [(1, none, none), (13, none, some 2), (1, none, none)], 0, 0)]
def qX354 : List zk_Hd := []
theorem qk354 : zk_chk qK qP354 prog_23_method_103_code 4 qC354 none qH354 qX354 70 3 = true := by decide +kernel
/-- UnaskedLetters$Judge.clear()V  -/
def qC355 : zk_C := ((1, [], [0], [(0, (2, 21, 0))], [], [], [], [], [], none), [(1, [], [], [(0, (2, 21, 0))], [], [], [], [], [], none)], [(25, 0)], 0, 0)
def qP355 : zk_P := ([(19, 0, 0, 4)], [], [], [], [], [(5, qC354)], [])
def qH355 : List zk_Hd := []
def qX355 : List zk_Hd := []
theorem qk355 : zk_chk qK qP355 prog_2_method_2_code 1 qC355 none qH355 qX355 65 0 = true := by decide +kernel
/-- java/lang/String.isLatin1()Z java/lang/String.indexOf(II)I@1java/lang/String.indexOf(I)I@3UnaskedLetters$Judge.set(CI)V@3 -/
def qC356 : zk_C := ((1, [], [0], [(0, (2, 24, 0))], [], [], [], [], [], none), [(2, [], [1], [(0, (2, 24, 0)), (1, (0, 1, 1))], [], [], [], [], [], none)], [], 0, 0)
def qP356 : zk_P := ([(15, 13, 1, 4)], [], [], [], [(0, 3, (0, 1, 1))], [], [])
def qH356 : List zk_Hd := []
def qX356 : List zk_Hd := []
theorem qk356 : zk_chk qK qP356 prog_19_method_154_code 1 qC356 (some .boolean) qH356 qX356 68 0 = true := by decide +kernel
/-- java/lang/String.coder()B java/lang/String.length()I@6java/lang/String.indexOf(II)I@14java/lang/String.indexOf(I)I@3UnaskedLetters$Judge.set(CI)V@3 -/
def qC357 : zk_C := ((1, [], [0], [(0, (2, 24, 0))], [], [], [], [], [], none), [(2, [], [1], [(0, (2, 24, 0)), (1, (0, 0, 0))], [], [], [], [], [], none)], [], 0, 0)
def qP357 : zk_P := ([(15, 13, 1, 4)], [], [], [], [(0, 3, (0, 1, 1))], [], [])
def qH357 : List zk_Hd := []
def qX357 : List zk_Hd := []
theorem qk357 : zk_chk qK qP357 prog_19_method_152_code 1 qC357 (some .byte) qH357 qX357 66 0 = true := by decide +kernel
/-- java/lang/String.length()I java/lang/String.indexOf(II)I@14java/lang/String.indexOf(I)I@3UnaskedLetters$Judge.set(CI)V@3 -/
def qC358 : zk_C := ((1, [], [0], [(0, (2, 24, 0))], [], [], [], [], [], none), [(2, [], [1], [(0, (2, 24, 0)), (1, (0, 12, 12))], [], [], [], [], [], none)], [], 0, 0)
def qP358 : zk_P := ([(9, 13, 0, 4)], [], [], [], [], [(6, qC357)], [])
def qH358 : List zk_Hd := []
def qX358 : List zk_Hd := []
theorem qk358 : zk_chk qK qP358 prog_19_method_54_code 1 qC358 (some .int) qH358 qX358 67 0 = true := by decide +kernel
/-- java/lang/StringLatin1.canEncode(I)Z java/lang/StringLatin1.indexOf([BIII)I@1java/lang/String.indexOf(II)I@17java/lang/String.indexOf(I)I@3UnaskedLetters$Judge.set(CI)V@3 -/
def qC359 : zk_C := ((1, [], [0], [(0, (0, 97, 121))], [], [], [], [], [], none), [(2, [], [1], [(0, (0, 97, 121)), (1, (0, 1, 1))], [], [], [], [], [], none)], [], 0, 0)
def qP359 : zk_P := ([], [], [], [], [], [], [])
def qH359 : List zk_Hd := []
def qX359 : List zk_Hd := []
theorem qk359 : zk_chk qK qP359 prog_20_method_4_code 1 qC359 (some .boolean) qH359 qX359 68 0 = true := by decide +kernel
/-- java/lang/Math.max(II)I java/lang/StringLatin1.indexOf([BIII)I@11java/lang/String.indexOf(II)I@17java/lang/String.indexOf(I)I@3UnaskedLetters$Judge.set(CI)V@3 -/
def qC360 : zk_C := ((2, [], [0, 1], [(0, (0, 0, 0)), (1, (0, 0, 0))], [], [], [], [], [], none), [(2, [], [0], [(0, (0, 0, 0)), (1, (0, 0, 0))], [], [], [], [], [], none)], [], 0, 0)
def qP360 : zk_P := ([], [], [], [], [], [], [])
def qH360 : List zk_Hd := []
def qX360 : List zk_Hd := []
theorem qk360 : zk_chk qK qP360 prog_18_method_65_code 2 qC360 (some .int) qH360 qX360 66 0 = true := by decide +kernel
/-- java/lang/Math.min(II)I java/lang/StringLatin1.indexOf([BIII)I@18java/lang/String.indexOf(II)I@17java/lang/String.indexOf(I)I@3UnaskedLetters$Judge.set(CI)V@3 -/
def qC361 : zk_C := ((2, [], [0, 1], [(0, (0, 12, 12)), (1, (0, 12, 12))], [], [], [], [], [], none), [(2, [], [0], [(0, (0, 12, 12)), (1, (0, 12, 12))], [], [], [], [], [], none)], [], 0, 0)
def qP361 : zk_P := ([], [], [], [], [], [], [])
def qH361 : List zk_Hd := []
def qX361 : List zk_Hd := []
theorem qk361 : zk_chk qK qP361 prog_18_method_69_code 2 qC361 (some .int) qH361 qX361 66 0 = true := by decide +kernel
/-- java/lang/StringLatin1.indexOfChar([BIII)I java/lang/StringLatin1.indexOf([BIII)I@33java/lang/String.indexOf(II)I@17java/lang/String.indexOf(I)I@3UnaskedLetters$Judge.set(CI)V@3 -/
def qC362 : zk_C := ((4, [], [0, 1, 2, 3], [(0, (2, 23, 0)), (1, (0, 97, 121)), (2, (0, 0, 0)), (3, (0, 12, 12))], [], [], [], [], [], none), [(5, [], [4], [(0, (2, 23, 0)), (1, (0, 97, 121)), (2, (0, 0, 0)), (3, (0, 12, 12)), (4, (0, (-1), (-1)))], [], [], [], [], [], none), (5, [], [4], [(0, (2, 23, 0)), (1, (0, 97, 121)), (2, (0, 0, 0)), (3, (0, 12, 12)), (4, (0, 0, 11))], [], [], [], [], [], none)], [], 0, 0)
def qP362 : zk_P := ([], [], [], [], [], [], [])
def qH362 : List zk_Hd := [(7, (6, [(0, 0), (3, 3), (4, 4), (5, 5)], [], [(0, (2, 23, 0)), (1, (0, 97, 121)), (2, (0, 0, 0)), (3, (0, 12, 12)), (4, (0, 97, 121)), (5, (0, 0, 12))], [], [], [], [], [], none), [(1, none, none), (13, none, some 5), (1, none, none)], 0, 0)]
def qX362 : List zk_Hd := []
theorem qk362 : zk_chk qK qP362 prog_20_method_23_code 6 qC362 (some .int) qH362 qX362 71 3 = true := by decide +kernel
/-- java/lang/StringLatin1.indexOf([BIII)I java/lang/String.indexOf(II)I@17java/lang/String.indexOf(I)I@3UnaskedLetters$Judge.set(CI)V@3 -/
def qC363 : zk_C := ((4, [], [0, 1, 2, 3], [(0, (2, 23, 0)), (1, (0, 97, 121)), (2, (0, 0, 0)), (3, (0, 12, 12))], [], [], [], [], [], none), [(5, [], [4], [(0, (2, 23, 0)), (1, (0, 97, 121)), (2, (0, 0, 0)), (3, (0, 12, 12)), (4, (0, (-1), (-1)))], [], [], [], [], [], none), (5, [], [4], [(0, (2, 23, 0)), (1, (0, 97, 121)), (2, (0, 0, 0)), (3, (0, 12, 12)), (4, (0, 0, 11))], [], [], [], [], [], none)], [], 0, 0)
def qP363 : zk_P := ([], [], [], [], [], [(1, qC359), (11, qC360), (18, qC361), (33, qC362)], [])
def qH363 : List zk_Hd := []
def qX363 : List zk_Hd := []
theorem qk363 : zk_chk qK qP363 prog_20_method_22_code 4 qC363 (some .int) qH363 qX363 81 0 = true := by decide +kernel
/-- java/lang/String.indexOf(II)I java/lang/String.indexOf(I)I@3UnaskedLetters$Judge.set(CI)V@3 -/
def qC364 : zk_C := ((3, [], [0, 1, 2], [(0, (2, 24, 0)), (1, (0, 97, 121)), (2, (0, 0, 0))], [], [], [], [], [], none), [(4, [], [3], [(0, (2, 24, 0)), (1, (0, 97, 121)), (2, (0, 0, 0)), (3, (0, (-1), (-1)))], [], [], [], [], [], none), (4, [], [3], [(0, (2, 24, 0)), (1, (0, 97, 121)), (2, (0, 0, 0)), (3, (0, 0, 11))], [], [], [], [], [], none)], [], 0, 0)
def qP364 : zk_P := ([(9, 13, 0, 4)], [], [], [], [], [(1, qC356), (14, qC358), (17, qC363)], [])
def qH364 : List zk_Hd := []
def qX364 : List zk_Hd := []
theorem qk364 : zk_chk qK qP364 prog_19_method_80_code 3 qC364 (some .int) qH364 qX364 72 0 = true := by decide +kernel
/-- java/lang/String.indexOf(I)I UnaskedLetters$Judge.set(CI)V@3 -/
def qC365 : zk_C := ((2, [], [0, 1], [(0, (2, 24, 0)), (1, (0, 97, 121))], [], [], [], [], [], none), [(3, [], [2], [(0, (2, 24, 0)), (1, (0, 97, 121)), (2, (0, (-1), (-1)))], [], [], [], [], [], none), (3, [], [2], [(0, (2, 24, 0)), (1, (0, 97, 121)), (2, (0, 0, 11))], [], [], [], [], [], none)], [], 0, 0)
def qP365 : zk_P := ([], [], [], [], [], [(3, qC364)], [])
def qH365 : List zk_Hd := []
def qX365 : List zk_Hd := []
theorem qk365 : zk_chk qK qP365 prog_19_method_79_code 2 qC365 (some .int) qH365 qX365 65 0 = true := by decide +kernel
/-- UnaskedLetters$Judge.set(CI)V  -/
def qC366 : zk_C := ((3, [], [0, 1, 2], [(0, (2, 21, 0)), (1, (0, 97, 121)), (2, (0, (-2147483648), 2147483647))], [], [], [], [], [], none), [(3, [], [], [(0, (2, 21, 0)), (1, (0, 97, 121)), (2, (0, (-2147483648), 2147483647))], [], [], [], [], [], none)], [(25, 0)], 0, 0)
def qP366 : zk_P := ([(19, 0, 0, 4)], [], [], [], [(0, 2, (2, 24, 0))], [(3, qC365)], [])
def qH366 : List zk_Hd := []
def qX366 : List zk_Hd := []
theorem qk366 : zk_chk qK qP366 prog_2_method_3_code 4 qC366 none qH366 qX366 77 0 = true := by decide +kernel
/-- UnaskedLetters$Judge.pop()I  -/
def qC367 : zk_C := ((2, [], [0], [(0, (2, 21, 0)), (1, (0, 0, 64))], [], [(0, 2, 1)], [], [], [], none), [(4, [], [2], [(0, (2, 21, 0)), (1, (0, 1, 64)), (2, (0, (-2147483648), 2147483647)), (3, (0, 0, 63))], [(1, 3, 1), (3, 1, (-1))], [(0, 2, 3)], [], [], [], none), (3, [], [2], [(0, (2, 21, 0)), (1, (0, 0, 0)), (2, (0, 0, 0))], [], [(0, 2, 1)], [], [], [], none)], [(21, 2)], 0, 0)
def qP367 : zk_P := ([(38, 0, 2, 0), (25, 0, 1, 4)], [], [], [], [], [], [])
def qH367 : List zk_Hd := []
def qX367 : List zk_Hd := []
theorem qk367 : zk_chk qK qP367 prog_2_method_9_code 1 qC367 (some .int) qH367 qX367 75 0 = true := by decide +kernel
/-- UnaskedLetters$Judge.push(I)V  -/
def qC368 : zk_C := ((3, [], [0, 1], [(0, (2, 21, 0)), (1, (0, (-2147483648), 2147483647)), (2, (0, 0, 64))], [], [(0, 2, 2)], [], [], [], none), [(3, [], [], [(0, (2, 21, 0)), (1, (0, (-2147483648), 2147483647)), (2, (0, 64, 64))], [], [(0, 2, 2)], [], [], [], none), (4, [], [], [(0, (2, 21, 0)), (1, (0, (-2147483648), 2147483647)), (2, (0, 0, 63)), (3, (0, 1, 64))], [(2, 3, (-1)), (3, 2, 1)], [(0, 2, 3)], [], [], [], none)], [(21, 2), (26, 0)], 0, 0)
def qP368 : zk_P := ([(38, 0, 2, 0), (25, 0, 1, 4)], [], [], [], [], [], [])
def qH368 : List zk_Hd := []
def qX368 : List zk_Hd := []
theorem qk368 : zk_chk qK qP368 prog_2_method_8_code 2 qC368 none qH368 qX368 79 0 = true := by decide +kernel
/-- UnaskedLetters$Judge.joined(IJJ)J  -/
def qC369 : zk_C := ((3, [], [0, 1, 2], [(0, (0, 0, 2147463647)), (1, (1, (-2147483648), 2147483647)), (2, (1, (-2147483648), 2147483647))], [], [], [], [], [], none), [(4, [], [3], [(0, (0, 0, 2147463647)), (1, (1, (-2147483648), 2147483647)), (2, (1, (-2147483648), 2147483647)), (3, (1, 0, 0))], [], [], [], [], [], none), (4, [], [3], [(0, (0, 38, 124)), (1, (1, (-2147483648), 2147483647)), (2, (1, (-2147483648), 2147483647)), (3, (1, (-9223372036854775808), 9223372036854775807))], [], [], [], [], [], none), (4, [], [3], [(0, (0, 60, 62)), (1, (1, (-2147483648), 2147483647)), (2, (1, (-2147483648), 2147483647)), (3, (1, 1, 1))], [], [], [], [], [], none)], [], 0, 0)
def qP369 : zk_P := ([], [], [], [], [], [], [])
def qH369 : List zk_Hd := []
def qX369 : List zk_Hd := []
theorem qk369 : zk_chk qK qP369 prog_2_method_6_code 5 qC369 (some .long) qH369 qX369 70 0 = true := by decide +kernel
/-- java/lang/Math.min(JJ)J UnaskedLetters$Judge.bounded(J)I@7 -/
def qC370 : zk_C := ((2, [], [0, 1], [(0, (1, 1000000, 1000000)), (1, (1, (-9223372036854775808), 9223372036854775807))], [], [], [], [], [], none), [(2, [], [1], [(0, (1, 1000000, 1000000)), (1, (1, (-9223372036854775808), 999999))], [], [], [], [], [], none), (2, [], [0], [(0, (1, 1000000, 1000000)), (1, (1, 1000000, 9223372036854775807))], [], [], [], [], [], none)], [], 0, 0)
def qP370 : zk_P := ([], [], [], [], [], [], [])
def qH370 : List zk_Hd := []
def qX370 : List zk_Hd := []
theorem qk370 : zk_chk qK qP370 prog_18_method_70_code 4 qC370 (some .long) qH370 qX370 67 0 = true := by decide +kernel
/-- java/lang/Math.max(JJ)J UnaskedLetters$Judge.bounded(J)I@10 -/
def qC371 : zk_C := ((2, [], [0, 1], [(0, (1, (-1000000), (-1000000))), (1, (1, (-9223372036854775808), 1000000))], [], [], [], [], [], none), [(2, [], [1], [(0, (1, (-1000000), (-1000000))), (1, (1, (-999999), 1000000))], [], [], [], [], [], none), (2, [], [0], [(0, (1, (-1000000), (-1000000))), (1, (1, (-9223372036854775808), (-1000000)))], [], [], [], [], [], none)], [], 0, 0)
def qP371 : zk_P := ([], [], [], [], [], [], [])
def qH371 : List zk_Hd := []
def qX371 : List zk_Hd := []
theorem qk371 : zk_chk qK qP371 prog_18_method_66_code 4 qC371 (some .long) qH371 qX371 67 0 = true := by decide +kernel
/-- UnaskedLetters$Judge.bounded(J)I  -/
def qC372 : zk_C := ((1, [], [0], [(0, (1, (-9223372036854775808), 9223372036854775807))], [], [], [], [], [], none), [(2, [], [1], [(0, (1, (-999999), 999999)), (1, (0, (-999999), 999999))], [], [], [], [], [], none), (2, [], [1], [(0, (1, (-9223372036854775808), (-1000000))), (1, (0, (-1000000), (-1000000)))], [], [], [], [], [], none), (2, [], [1], [(0, (1, 1000000, 9223372036854775807)), (1, (0, 1000000, 1000000))], [], [], [], [], [], none)], [], 0, 0)
def qP372 : zk_P := ([], [], [], [], [(0, 3, (1, (-1000000), (-1000000))), (3, 3, (1, 1000000, 1000000))], [(7, qC370), (10, qC371)], [])
def qH372 : List zk_Hd := []
def qX372 : List zk_Hd := []
theorem qk372 : zk_chk qK qP372 prog_2_method_7_code 2 qC372 (some .int) qH372 qX372 67 0 = true := by decide +kernel
