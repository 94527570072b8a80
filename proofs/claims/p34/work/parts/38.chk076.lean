/-! CONTRACTS: found by wip/an (python). -/
set_option maxRecDepth 100000 in
/-- UnaskedLettersModel.in(III)Z UnaskedLettersModel.isList(I)Z@8 -/
def qC392 : zk_C := ((3, [], [0, 1, 2], [(0, (0, (-2147483648), 2147483647)), (1, (0, 0, 0)), (2, (0, (-1), 3))], [], [], [], [], [], none), [(4, [], [3], [(0, (0, (-2147483648), (-1))), (1, (0, 0, 0)), (2, (0, (-1), 3)), (3, (0, 0, 0))], [], [], [], [], [], none), (4, [], [3], [(0, (0, 0, 2147483647)), (1, (0, 0, 0)), (2, (0, (-1), 3)), (3, (0, 0, 0))], [(2, 0, (-1))], [], [], [], [], none), (4, [], [3], [(0, (0, 0, 3)), (1, (0, 0, 0)), (2, (0, 0, 3)), (3, (0, 1, 1))], [(0, 2, 0)], [], [], [], [], none)], [], 0, 0)
set_option maxRecDepth 100000 in
def qP392 : zk_P := ([], [], [], [], [], [], [])
set_option maxRecDepth 100000 in
def qH392 : List zk_Hd := []
set_option maxRecDepth 100000 in
def qX392 : List zk_Hd := []
set_option maxRecDepth 100000 in
theorem qk392 : zk_chk qK qP392 prog_14_method_1_code 3 qC392 (some .boolean) qH392 qX392 69 0 = true := zk_chkD_ok (T := qdt_14_1) qdo_14_1 (by decide +kernel)
set_option maxRecDepth 100000 in
/-- UnaskedLettersModel.isList(I)Z  -/
def qC393 : zk_C := ((2, [], [0, 1], [(0, (2, 57, 0)), (1, (0, (-2147483648), 2147483647))], [], [], [], [], [], none), [(3, [], [2], [(0, (2, 57, 0)), (1, (0, (-2147483648), (-1))), (2, (0, 0, 0))], [], [], [], [], [], none), (3, [], [2], [(0, (2, 57, 0)), (1, (0, 0, 2147483647)), (2, (0, 0, 0))], [], [], [], [], [], none), (3, [], [2], [(0, (2, 57, 0)), (1, (0, 0, 3)), (2, (0, 1, 1))], [], [], [], [], [], none)], [], 0, 0)
set_option maxRecDepth 100000 in
def qP393 : zk_P := ([(298, 12, 57, 0)], [], [], [], [], [(8, qC392)], [])
set_option maxRecDepth 100000 in
def qH393 : List zk_Hd := []
set_option maxRecDepth 100000 in
def qX393 : List zk_Hd := []
set_option maxRecDepth 100000 in
theorem qk393 : zk_chk qK qP393 prog_14_method_77_code 2 qC393 (some .boolean) qH393 qX393 68 0 = true := zk_chkD_ok (T := qdt_14_77) qdo_14_77 (by decide +kernel)
set_option maxRecDepth 100000 in
/-- UnaskedLettersModel.off(II)Z  -/
def qC394 : zk_C := ((3, [], [0, 1, 2], [(0, (2, 57, 0)), (1, (0, (-2147483648), 2147483647)), (2, (0, (-2147483648), 2147483647))], [], [], [], [], [], none), [(4, [], [3], [(0, (2, 57, 0)), (1, (0, (-2147483648), 2147483647)), (2, (0, (-2147483648), 2147483647)), (3, (0, 0, 1))], [], [], [], [], [], none)], [(57, 58), (96, 0), (97, 0), (98, 0)], 0, 0)
set_option maxRecDepth 100000 in
def qP394 : zk_P := ([(409, 12, 58, 0), (123, 12, 54, 4), (126, 12, 55, 4), (129, 12, 56, 4), (156, 12, 0, 0)], [], [], [], [], [(2, qC393), (10, qC19)], [])
set_option maxRecDepth 100000 in
def qH394 : List zk_Hd := []
set_option maxRecDepth 100000 in
def qX394 : List zk_Hd := []
set_option maxRecDepth 100000 in
theorem qk394 : zk_chk qK qP394 prog_14_method_78_code 3 qC394 (some .boolean) qH394 qX394 99 0 = true := zk_chkD_ok (T := qdt_14_78) qdo_14_78 (by decide +kernel)
set_option maxRecDepth 100000 in
/-- java/util/Arrays.fill([II)V UnaskedLetters$Marks.know(I)V@5 -/
def qC395 : zk_C := ((2, [], [0, 1], [(0, (2, 49, 0)), (1, (0, 0, 0))], [], [], [], [], [], none), [(2, [], [], [(0, (2, 49, 0)), (1, (0, 0, 0))], [], [], [], [], [], none)], [(49, 0)], 0, 0)
set_option maxRecDepth 100000 in
def qP395 : zk_P := ([], [], [], [], [], [], [])
set_option maxRecDepth 100000 in
def qH395 : List zk_Hd := [(5, (4, [(0, 0), (1, 1), (2, 2), (3, 3)], [], [(0, (2, 49, 0)), (1, (0, 0, 0)), (2, (0, 0, 120)), (3, (0, 120, 120))], [], [], [], [], [], none), [(1, none, none), (121, none, some 2), (1, none, none)], 0, 0)]
set_option maxRecDepth 100000 in
def qX395 : List zk_Hd := []
set_option maxRecDepth 100000 in
theorem qk395 : zk_chk qK qP395 prog_23_method_103_code 4 qC395 none qH395 qX395 70 3 = true := zk_chkD_ok (T := qdt_23_103) qdo_23_103 (by decide +kernel)
set_option maxRecDepth 100000 in
/-- UnaskedLetters$Marks.know(I)V  -/
def qC396 : zk_C := ((2, [], [0, 1], [(0, (2, 44, 0)), (1, (0, (-2147483648), 2147483647))], [], [], [], [], [], none), [(2, [], [], [(0, (2, 44, 0)), (1, (0, (-2147483648), 2147483647))], [], [], [], [], [], none)], [(49, 0)], 0, 0)
set_option maxRecDepth 100000 in
def qP396 : zk_P := ([(21, 3, 3, 4), (24, 3, 4, 0), (15, 3, 1, 4), (11, 3, 0, 4), (18, 3, 2, 4)], [], [], [], [], [(5, qC395)], [])
set_option maxRecDepth 100000 in
def qH396 : List zk_Hd := [(10, (3, [(0, 0), (1, 1), (2, 2)], [], [(0, (2, 44, 0)), (1, (0, (-2147483648), 2147483647)), (2, (0, 0, 200))], [], [], [], [], [], none), [(1, none, none), (201, none, some 2), (1, none, none)], 0, 0)]
set_option maxRecDepth 100000 in
def qX396 : List zk_Hd := []
set_option maxRecDepth 100000 in
theorem qk396 : zk_chk qK qP396 prog_5_method_3_code 3 qC396 none qH396 qX396 84 3 = true := zk_chkD_ok (T := qdt_5_3) qdo_5_3 (by decide +kernel)
set_option maxRecDepth 100000 in
/-- UnaskedLetters$RuleBook.codeOf(I)[I  -/
def qC397 : zk_C := ((2, [], [0, 1], [(0, (2, 27, 0)), (1, (0, (-1), 19))], [], [], [], [], [], none), [(3, [], [2], [(0, (2, 27, 0)), (1, (0, (-1), (-1))), (2, (2, 0, 1))], [], [], [], [], [], none), (4, [], [2], [(0, (2, 27, 0)), (1, (0, 0, 19)), (2, (2, 0, 1)), (3, (0, 0, 19))], [(3, 1, 0)], [(0, 5, 3)], [], [], [], none), (4, [], [2], [(0, (2, 27, 0)), (1, (0, 0, 19)), (2, (2, 124, 1)), (3, (0, 1, 20))], [(1, 3, (-1))], [(0, 5, 3)], [], [], [], none)], [], 0, 0)
set_option maxRecDepth 100000 in
def qP397 : zk_P := ([(39, 5, 5, 0), (26, 5, 4, 4)], [], [], [], [], [], [])
set_option maxRecDepth 100000 in
def qH397 : List zk_Hd := []
set_option maxRecDepth 100000 in
def qX397 : List zk_Hd := []
set_option maxRecDepth 100000 in
theorem qk397 : zk_chk qK qP397 prog_7_method_4_code 2 qC397 (some (.array .int)) qH397 qX397 72 0 = true := zk_chkD_ok (T := qdt_7_4) qdo_7_4 (by decide +kernel)
set_option maxRecDepth 100000 in
/-- java/lang/Math.min(II)I UnaskedLetters.barred(IIII)Z@31 -/
def qC398 : zk_C := ((2, [], [0, 1], [(0, (0, (-2147483648), 2147483647)), (1, (0, (-2147483648), 2147483647))], [], [], [], [], [], none), [(2, [], [1], [(0, (0, (-2147483647), 2147483647)), (1, (0, (-2147483648), 2147483646))], [(1, 0, (-1))], [], [], [], [], none), (2, [], [0], [(0, (0, (-2147483648), 2147483647)), (1, (0, (-2147483648), 2147483647))], [(0, 1, 0)], [], [], [], [], none)], [], 0, 0)
set_option maxRecDepth 100000 in
def qP398 : zk_P := ([], [], [], [], [], [], [])
set_option maxRecDepth 100000 in
def qH398 : List zk_Hd := []
set_option maxRecDepth 100000 in
def qX398 : List zk_Hd := []
set_option maxRecDepth 100000 in
theorem qk398 : zk_chk qK qP398 prog_18_method_69_code 2 qC398 (some .int) qH398 qX398 66 0 = true := zk_chkD_ok (T := qdt_18_69) qdo_18_69 (by decide +kernel)
set_option maxRecDepth 100000 in
/-- UnaskedLetters$RuleBook.lastAsked(III)I  -/
def qC399 : zk_C := ((4, [], [0, 1, 2, 3], [(0, (2, 27, 0)), (1, (0, 0, 3)), (2, (0, 0, 11)), (3, (0, (-2147483648), 2147483647))], [], [], [], [], [], none), [(5, [], [4], [(0, (2, 27, 0)), (1, (0, 0, 3)), (2, (0, 0, 11)), (3, (0, (-2147483648), 2147483647)), (4, (0, (-2147483648), 2147483647))], [], [], [], [], [], none)], [], 0, 0)
set_option maxRecDepth 100000 in
def qP399 : zk_P := ([(47, 5, 9, 0), (36, 5, 8, 4), (30, 5, 6, 4), (33, 5, 7, 4)], [], [], [], [], [], [])
set_option maxRecDepth 100000 in
def qH399 : List zk_Hd := [(6, (6, [(0, 0), (1, 1), (2, 2), (3, 3), (4, 4), (5, 5)], [], [(0, (2, 27, 0)), (1, (0, 0, 3)), (2, (0, 0, 11)), (3, (0, (-2147483648), 2147483647)), (4, (0, (-2147483648), 2147483647)), (5, (0, 0, 100))], [], [], [], [], [], none), [(1, none, none), (101, none, some 5), (1, none, none)], 0, 0)]
set_option maxRecDepth 100000 in
def qX399 : List zk_Hd := []
set_option maxRecDepth 100000 in
theorem qk399 : zk_chk qK qP399 prog_7_method_7_code 6 qC399 (some .int) qH399 qX399 90 3 = true := zk_chkD_ok (T := qdt_7_7) qdo_7_7 (by decide +kernel)
set_option maxRecDepth 100000 in
/-- java/util/Arrays.fill([II)V UnaskedLetters$Judge.clear()V@5 -/
def qC400 : zk_C := ((2, [], [0, 1], [(0, (2, 25, 0)), (1, (0, 0, 0))], [], [], [], [], [], none), [(2, [], [], [(0, (2, 25, 0)), (1, (0, 0, 0))], [], [], [], [], [], none)], [(25, 0)], 0, 0)
set_option maxRecDepth 100000 in
def qP400 : zk_P := ([], [], [], [], [], [], [])
set_option maxRecDepth 100000 in
def qH400 : List zk_Hd := [(5, (4, [(0, 0), (1, 1), (2, 2), (3, 3)], [], [(0, (2, 25, 0)), (1, (0, 0, 0)), (2, (0, 0, 12)), (3, (0, 12, 12))], [], [], [], [], [], none), [(1, none, none), (13, none, some 2), (1, none, none)], 0, 0)]
set_option maxRecDepth 100000 in
def qX400 : List zk_Hd := []
set_option maxRecDepth 100000 in
theorem qk400 : zk_chk qK qP400 prog_23_method_103_code 4 qC400 none qH400 qX400 70 3 = true := zk_chkD_ok (T := qdt_23_103) qdo_23_103 (by decide +kernel)
set_option maxRecDepth 100000 in
/-- UnaskedLetters$Judge.clear()V  -/
def qC401 : zk_C := ((1, [], [0], [(0, (2, 21, 0))], [], [], [], [], [], none), [(1, [], [], [(0, (2, 21, 0))], [], [], [], [], [], none)], [(25, 0)], 0, 0)
set_option maxRecDepth 100000 in
def qP401 : zk_P := ([(19, 0, 0, 4)], [], [], [], [], [(5, qC400)], [])
set_option maxRecDepth 100000 in
def qH401 : List zk_Hd := []
set_option maxRecDepth 100000 in
def qX401 : List zk_Hd := []
set_option maxRecDepth 100000 in
theorem qk401 : zk_chk qK qP401 prog_2_method_2_code 1 qC401 none qH401 qX401 65 0 = true := zk_chkD_ok (T := qdt_2_2) qdo_2_2 (by decide +kernel)
set_option maxRecDepth 100000 in
/-- java/lang/String.isLatin1()Z java/lang/String.indexOf(II)I@1java/lang/String.indexOf(I)I@3UnaskedLetters$Judge.set(CI)V@3 -/
def qC402 : zk_C := ((1, [], [0], [(0, (2, 24, 0))], [], [], [], [], [], none), [(2, [], [1], [(0, (2, 24, 0)), (1, (0, 1, 1))], [], [], [], [], [], none)], [], 0, 0)
set_option maxRecDepth 100000 in
def qP402 : zk_P := ([(15, 13, 1, 4)], [], [], [], [(0, 3, (0, 1, 1))], [], [])
set_option maxRecDepth 100000 in
def qH402 : List zk_Hd := []
set_option maxRecDepth 100000 in
def qX402 : List zk_Hd := []
set_option maxRecDepth 100000 in
theorem qk402 : zk_chk qK qP402 prog_19_method_154_code 1 qC402 (some .boolean) qH402 qX402 68 0 = true := zk_chkD_ok (T := qdt_19_154) qdo_19_154 (by decide +kernel)
set_option maxRecDepth 100000 in
/-- java/lang/String.coder()B java/lang/String.length()I@6java/lang/String.indexOf(II)I@14java/lang/String.indexOf(I)I@3UnaskedLetters$Judge.set(CI)V@3 -/
def qC403 : zk_C := ((1, [], [0], [(0, (2, 24, 0))], [], [], [], [], [], none), [(2, [], [1], [(0, (2, 24, 0)), (1, (0, 0, 0))], [], [], [], [], [], none)], [], 0, 0)
set_option maxRecDepth 100000 in
def qP403 : zk_P := ([(15, 13, 1, 4)], [], [], [], [(0, 3, (0, 1, 1))], [], [])
set_option maxRecDepth 100000 in
def qH403 : List zk_Hd := []
set_option maxRecDepth 100000 in
def qX403 : List zk_Hd := []
set_option maxRecDepth 100000 in
theorem qk403 : zk_chk qK qP403 prog_19_method_152_code 1 qC403 (some .byte) qH403 qX403 66 0 = true := zk_chkD_ok (T := qdt_19_152) qdo_19_152 (by decide +kernel)
set_option maxRecDepth 100000 in
/-- java/lang/String.length()I java/lang/String.indexOf(II)I@14java/lang/String.indexOf(I)I@3UnaskedLetters$Judge.set(CI)V@3 -/
def qC404 : zk_C := ((1, [], [0], [(0, (2, 24, 0))], [], [], [], [], [], none), [(2, [], [1], [(0, (2, 24, 0)), (1, (0, 12, 12))], [], [], [], [], [], none)], [], 0, 0)
set_option maxRecDepth 100000 in
def qP404 : zk_P := ([(9, 13, 0, 4)], [], [], [], [], [(6, qC403)], [])
set_option maxRecDepth 100000 in
def qH404 : List zk_Hd := []
set_option maxRecDepth 100000 in
def qX404 : List zk_Hd := []
set_option maxRecDepth 100000 in
theorem qk404 : zk_chk qK qP404 prog_19_method_54_code 1 qC404 (some .int) qH404 qX404 67 0 = true := zk_chkD_ok (T := qdt_19_54) qdo_19_54 (by decide +kernel)
set_option maxRecDepth 100000 in
/-- java/lang/StringLatin1.canEncode(I)Z java/lang/StringLatin1.indexOf([BIII)I@1java/lang/String.indexOf(II)I@17java/lang/String.indexOf(I)I@3UnaskedLetters$Judge.set(CI)V@3 -/
def qC405 : zk_C := ((1, [], [0], [(0, (0, 97, 121))], [], [], [], [], [], none), [(2, [], [1], [(0, (0, 97, 121)), (1, (0, 1, 1))], [], [], [], [], [], none)], [], 0, 0)
set_option maxRecDepth 100000 in
def qP405 : zk_P := ([], [], [], [], [], [], [])
set_option maxRecDepth 100000 in
def qH405 : List zk_Hd := []
set_option maxRecDepth 100000 in
def qX405 : List zk_Hd := []
set_option maxRecDepth 100000 in
theorem qk405 : zk_chk qK qP405 prog_20_method_4_code 1 qC405 (some .boolean) qH405 qX405 68 0 = true := zk_chkD_ok (T := qdt_20_4) qdo_20_4 (by decide +kernel)
set_option maxRecDepth 100000 in
/-- java/lang/Math.max(II)I java/lang/StringLatin1.indexOf([BIII)I@11java/lang/String.indexOf(II)I@17java/lang/String.indexOf(I)I@3UnaskedLetters$Judge.set(CI)V@3 -/
def qC406 : zk_C := ((2, [], [0, 1], [(0, (0, 0, 0)), (1, (0, 0, 0))], [], [], [], [], [], none), [(2, [], [0], [(0, (0, 0, 0)), (1, (0, 0, 0))], [], [], [], [], [], none)], [], 0, 0)
set_option maxRecDepth 100000 in
def qP406 : zk_P := ([], [], [], [], [], [], [])
set_option maxRecDepth 100000 in
def qH406 : List zk_Hd := []
set_option maxRecDepth 100000 in
def qX406 : List zk_Hd := []
set_option maxRecDepth 100000 in
theorem qk406 : zk_chk qK qP406 prog_18_method_65_code 2 qC406 (some .int) qH406 qX406 66 0 = true := zk_chkD_ok (T := qdt_18_65) qdo_18_65 (by decide +kernel)
set_option maxRecDepth 100000 in
/-- java/lang/Math.min(II)I java/lang/StringLatin1.indexOf([BIII)I@18java/lang/String.indexOf(II)I@17java/lang/String.indexOf(I)I@3UnaskedLetters$Judge.set(CI)V@3 -/
def qC407 : zk_C := ((2, [], [0, 1], [(0, (0, 12, 12)), (1, (0, 12, 12))], [], [], [], [], [], none), [(2, [], [0], [(0, (0, 12, 12)), (1, (0, 12, 12))], [], [], [], [], [], none)], [], 0, 0)
set_option maxRecDepth 100000 in
def qP407 : zk_P := ([], [], [], [], [], [], [])
set_option maxRecDepth 100000 in
def qH407 : List zk_Hd := []
set_option maxRecDepth 100000 in
def qX407 : List zk_Hd := []
set_option maxRecDepth 100000 in
theorem qk407 : zk_chk qK qP407 prog_18_method_69_code 2 qC407 (some .int) qH407 qX407 66 0 = true := zk_chkD_ok (T := qdt_18_69) qdo_18_69 (by decide +kernel)
set_option maxRecDepth 100000 in
/-- java/lang/StringLatin1.indexOfChar([BIII)I java/lang/StringLatin1.indexOf([BIII)I@33java/lang/String.indexOf(II)I@17java/lang/String.indexOf(I)I@3UnaskedLetters$Judge.set(CI)V@3 -/
def qC408 : zk_C := ((4, [], [0, 1, 2, 3], [(0, (2, 23, 0)), (1, (0, 97, 121)), (2, (0, 0, 0)), (3, (0, 12, 12))], [], [], [], [], [], none), [(5, [], [4], [(0, (2, 23, 0)), (1, (0, 97, 121)), (2, (0, 0, 0)), (3, (0, 12, 12)), (4, (0, (-1), (-1)))], [], [], [], [], [], none), (5, [], [4], [(0, (2, 23, 0)), (1, (0, 97, 121)), (2, (0, 0, 0)), (3, (0, 12, 12)), (4, (0, 0, 11))], [], [], [], [], [], none)], [], 0, 0)
set_option maxRecDepth 100000 in
def qP408 : zk_P := ([], [], [], [], [], [], [])
set_option maxRecDepth 100000 in
def qH408 : List zk_Hd := [(7, (6, [(0, 0), (3, 3), (4, 4), (5, 5)], [], [(0, (2, 23, 0)), (1, (0, 97, 121)), (2, (0, 0, 0)), (3, (0, 12, 12)), (4, (0, 97, 121)), (5, (0, 0, 12))], [], [], [], [], [], none), [(1, none, none), (13, none, some 5), (1, none, none)], 0, 0)]
set_option maxRecDepth 100000 in
def qX408 : List zk_Hd := []
set_option maxRecDepth 100000 in
theorem qk408 : zk_chk qK qP408 prog_20_method_23_code 6 qC408 (some .int) qH408 qX408 71 3 = true := zk_chkD_ok (T := qdt_20_23) qdo_20_23 (by decide +kernel)
set_option maxRecDepth 100000 in
/-- java/lang/StringLatin1.indexOf([BIII)I java/lang/String.indexOf(II)I@17java/lang/String.indexOf(I)I@3UnaskedLetters$Judge.set(CI)V@3 -/
def qC409 : zk_C := ((4, [], [0, 1, 2, 3], [(0, (2, 23, 0)), (1, (0, 97, 121)), (2, (0, 0, 0)), (3, (0, 12, 12))], [], [], [], [], [], none), [(5, [], [4], [(0, (2, 23, 0)), (1, (0, 97, 121)), (2, (0, 0, 0)), (3, (0, 12, 12)), (4, (0, (-1), (-1)))], [], [], [], [], [], none), (5, [], [4], [(0, (2, 23, 0)), (1, (0, 97, 121)), (2, (0, 0, 0)), (3, (0, 12, 12)), (4, (0, 0, 11))], [], [], [], [], [], none)], [], 0, 0)
set_option maxRecDepth 100000 in
def qP409 : zk_P := ([], [], [], [], [], [(1, qC405), (11, qC406), (18, qC407), (33, qC408)], [])
set_option maxRecDepth 100000 in
def qH409 : List zk_Hd := []
set_option maxRecDepth 100000 in
def qX409 : List zk_Hd := []
set_option maxRecDepth 100000 in
theorem qk409 : zk_chk qK qP409 prog_20_method_22_code 4 qC409 (some .int) qH409 qX409 81 0 = true := zk_chkD_ok (T := qdt_20_22) qdo_20_22 (by decide +kernel)
set_option maxRecDepth 100000 in
/-- java/lang/String.indexOf(II)I java/lang/String.indexOf(I)I@3UnaskedLetters$Judge.set(CI)V@3 -/
def qC410 : zk_C := ((3, [], [0, 1, 2], [(0, (2, 24, 0)), (1, (0, 97, 121)), (2, (0, 0, 0))], [], [], [], [], [], none), [(4, [], [3], [(0, (2, 24, 0)), (1, (0, 97, 121)), (2, (0, 0, 0)), (3, (0, (-1), (-1)))], [], [], [], [], [], none), (4, [], [3], [(0, (2, 24, 0)), (1, (0, 97, 121)), (2, (0, 0, 0)), (3, (0, 0, 11))], [], [], [], [], [], none)], [], 0, 0)
set_option maxRecDepth 100000 in
def qP410 : zk_P := ([(9, 13, 0, 4)], [], [], [], [], [(1, qC402), (14, qC404), (17, qC409)], [])
set_option maxRecDepth 100000 in
def qH410 : List zk_Hd := []
set_option maxRecDepth 100000 in
def qX410 : List zk_Hd := []
set_option maxRecDepth 100000 in
theorem qk410 : zk_chk qK qP410 prog_19_method_80_code 3 qC410 (some .int) qH410 qX410 72 0 = true := zk_chkD_ok (T := qdt_19_80) qdo_19_80 (by decide +kernel)
set_option maxRecDepth 100000 in
/-- java/lang/String.indexOf(I)I UnaskedLetters$Judge.set(CI)V@3 -/
def qC411 : zk_C := ((2, [], [0, 1], [(0, (2, 24, 0)), (1, (0, 97, 121))], [], [], [], [], [], none), [(3, [], [2], [(0, (2, 24, 0)), (1, (0, 97, 121)), (2, (0, (-1), (-1)))], [], [], [], [], [], none), (3, [], [2], [(0, (2, 24, 0)), (1, (0, 97, 121)), (2, (0, 0, 11))], [], [], [], [], [], none)], [], 0, 0)
set_option maxRecDepth 100000 in
def qP411 : zk_P := ([], [], [], [], [], [(3, qC410)], [])
set_option maxRecDepth 100000 in
def qH411 : List zk_Hd := []
set_option maxRecDepth 100000 in
def qX411 : List zk_Hd := []
set_option maxRecDepth 100000 in
theorem qk411 : zk_chk qK qP411 prog_19_method_79_code 2 qC411 (some .int) qH411 qX411 65 0 = true := zk_chkD_ok (T := qdt_19_79) qdo_19_79 (by decide +kernel)
set_option maxRecDepth 100000 in
/-- UnaskedLetters$Judge.set(CI)V  -/
def qC412 : zk_C := ((3, [], [0, 1, 2], [(0, (2, 21, 0)), (1, (0, 97, 121)), (2, (0, (-2147483648), 2147483647))], [], [], [], [], [], none), [(3, [], [], [(0, (2, 21, 0)), (1, (0, 97, 121)), (2, (0, (-2147483648), 2147483647))], [], [], [], [], [], none)], [(25, 0)], 0, 0)
set_option maxRecDepth 100000 in
def qP412 : zk_P := ([(19, 0, 0, 4)], [], [], [], [(0, 2, (2, 24, 0))], [(3, qC411)], [])
set_option maxRecDepth 100000 in
def qH412 : List zk_Hd := []
set_option maxRecDepth 100000 in
def qX412 : List zk_Hd := []
set_option maxRecDepth 100000 in
theorem qk412 : zk_chk qK qP412 prog_2_method_3_code 4 qC412 none qH412 qX412 77 0 = true := zk_chkD_ok (T := qdt_2_3) qdo_2_3 (by decide +kernel)
set_option maxRecDepth 100000 in
/-- UnaskedLetters$Judge.pop()I  -/
def qC413 : zk_C := ((2, [], [0], [(0, (2, 21, 0)), (1, (0, 0, 64))], [], [(0, 2, 1)], [], [], [], none), [(4, [], [2], [(0, (2, 21, 0)), (1, (0, 1, 64)), (2, (0, (-2147483648), 2147483647)), (3, (0, 0, 63))], [(1, 3, 1), (3, 1, (-1))], [(0, 2, 3)], [], [], [], none), (3, [], [2], [(0, (2, 21, 0)), (1, (0, 0, 0)), (2, (0, 0, 0))], [], [(0, 2, 1)], [], [], [], none)], [(21, 2)], 0, 0)
set_option maxRecDepth 100000 in
def qP413 : zk_P := ([(38, 0, 2, 0), (25, 0, 1, 4)], [], [], [], [], [], [])
set_option maxRecDepth 100000 in
def qH413 : List zk_Hd := []
set_option maxRecDepth 100000 in
def qX413 : List zk_Hd := []
set_option maxRecDepth 100000 in
theorem qk413 : zk_chk qK qP413 prog_2_method_9_code 1 qC413 (some .int) qH413 qX413 75 0 = true := zk_chkD_ok (T := qdt_2_9) qdo_2_9 (by decide +kernel)
set_option maxRecDepth 100000 in
/-- UnaskedLetters$Judge.push(I)V  -/
def qC414 : zk_C := ((3, [], [0, 1], [(0, (2, 21, 0)), (1, (0, (-2147483648), 2147483647)), (2, (0, 0, 64))], [], [(0, 2, 2)], [], [], [], none), [(3, [], [], [(0, (2, 21, 0)), (1, (0, (-2147483648), 2147483647)), (2, (0, 64, 64))], [], [(0, 2, 2)], [], [], [], none), (4, [], [], [(0, (2, 21, 0)), (1, (0, (-2147483648), 2147483647)), (2, (0, 0, 63)), (3, (0, 1, 64))], [(2, 3, (-1)), (3, 2, 1)], [(0, 2, 3)], [], [], [], none)], [(21, 2), (26, 0)], 0, 0)
set_option maxRecDepth 100000 in
def qP414 : zk_P := ([(38, 0, 2, 0), (25, 0, 1, 4)], [], [], [], [], [], [])
set_option maxRecDepth 100000 in
def qH414 : List zk_Hd := []
set_option maxRecDepth 100000 in
def qX414 : List zk_Hd := []
set_option maxRecDepth 100000 in
theorem qk414 : zk_chk qK qP414 prog_2_method_8_code 2 qC414 none qH414 qX414 79 0 = true := zk_chkD_ok (T := qdt_2_8) qdo_2_8 (by decide +kernel)
set_option maxRecDepth 100000 in
/-- UnaskedLetters$Judge.joined(IJJ)J  -/
def qC415 : zk_C := ((3, [], [0, 1, 2], [(0, (0, 0, 2147463647)), (1, (1, (-2147483648), 2147483647)), (2, (1, (-2147483648), 2147483647))], [], [], [], [], [], none), [(4, [], [3], [(0, (0, 0, 2147463647)), (1, (1, (-2147483648), 2147483647)), (2, (1, (-2147483648), 2147483647)), (3, (1, 0, 0))], [], [], [], [], [], none), (4, [], [3], [(0, (0, 38, 124)), (1, (1, (-2147483648), 2147483647)), (2, (1, (-2147483648), 2147483647)), (3, (1, (-9223372036854775808), 9223372036854775807))], [], [], [], [], [], none), (4, [], [3], [(0, (0, 60, 62)), (1, (1, (-2147483648), 2147483647)), (2, (1, (-2147483648), 2147483647)), (3, (1, 1, 1))], [], [], [], [], [], none)], [], 0, 0)
set_option maxRecDepth 100000 in
def qP415 : zk_P := ([], [], [], [], [], [], [])
set_option maxRecDepth 100000 in
def qH415 : List zk_Hd := []
set_option maxRecDepth 100000 in
def qX415 : List zk_Hd := []
set_option maxRecDepth 100000 in
theorem qk415 : zk_chk qK qP415 prog_2_method_6_code 5 qC415 (some .long) qH415 qX415 70 0 = true := zk_chkD_ok (T := qdt_2_6) qdo_2_6 (by decide +kernel)
set_option maxRecDepth 100000 in
/-- java/lang/Math.min(JJ)J UnaskedLetters$Judge.bounded(J)I@7 -/
def qC416 : zk_C := ((2, [], [0, 1], [(0, (1, 1000000, 1000000)), (1, (1, (-9223372036854775808), 9223372036854775807))], [], [], [], [], [], none), [(2, [], [1], [(0, (1, 1000000, 1000000)), (1, (1, (-9223372036854775808), 999999))], [], [], [], [], [], none), (2, [], [0], [(0, (1, 1000000, 1000000)), (1, (1, 1000000, 9223372036854775807))], [], [], [], [], [], none)], [], 0, 0)
set_option maxRecDepth 100000 in
def qP416 : zk_P := ([], [], [], [], [], [], [])
set_option maxRecDepth 100000 in
def qH416 : List zk_Hd := []
set_option maxRecDepth 100000 in
def qX416 : List zk_Hd := []
set_option maxRecDepth 100000 in
theorem qk416 : zk_chk qK qP416 prog_18_method_70_code 4 qC416 (some .long) qH416 qX416 67 0 = true := zk_chkD_ok (T := qdt_18_70) qdo_18_70 (by decide +kernel)
set_option maxRecDepth 100000 in
/-- java/lang/Math.max(JJ)J UnaskedLetters$Judge.bounded(J)I@10 -/
def qC417 : zk_C := ((2, [], [0, 1], [(0, (1, (-1000000), (-1000000))), (1, (1, (-9223372036854775808), 1000000))], [], [], [], [], [], none), [(2, [], [1], [(0, (1, (-1000000), (-1000000))), (1, (1, (-999999), 1000000))], [], [], [], [], [], none), (2, [], [0], [(0, (1, (-1000000), (-1000000))), (1, (1, (-9223372036854775808), (-1000000)))], [], [], [], [], [], none)], [], 0, 0)
set_option maxRecDepth 100000 in
def qP417 : zk_P := ([], [], [], [], [], [], [])
set_option maxRecDepth 100000 in
def qH417 : List zk_Hd := []
set_option maxRecDepth 100000 in
def qX417 : List zk_Hd := []
set_option maxRecDepth 100000 in
theorem qk417 : zk_chk qK qP417 prog_18_method_66_code 4 qC417 (some .long) qH417 qX417 67 0 = true := zk_chkD_ok (T := qdt_18_66) qdo_18_66 (by decide +kernel)
set_option maxRecDepth 100000 in
/-- UnaskedLetters$Judge.bounded(J)I  -/
def qC418 : zk_C := ((1, [], [0], [(0, (1, (-9223372036854775808), 9223372036854775807))], [], [], [], [], [], none), [(2, [], [1], [(0, (1, (-999999), 999999)), (1, (0, (-999999), 999999))], [], [], [], [], [], none), (2, [], [1], [(0, (1, (-9223372036854775808), (-1000000))), (1, (0, (-1000000), (-1000000)))], [], [], [], [], [], none), (2, [], [1], [(0, (1, 1000000, 9223372036854775807)), (1, (0, 1000000, 1000000))], [], [], [], [], [], none)], [], 0, 0)
set_option maxRecDepth 100000 in
def qP418 : zk_P := ([], [], [], [], [(0, 3, (1, (-1000000), (-1000000))), (3, 3, (1, 1000000, 1000000))], [(7, qC416), (10, qC417)], [])
set_option maxRecDepth 100000 in
def qH418 : List zk_Hd := []
set_option maxRecDepth 100000 in
def qX418 : List zk_Hd := []
set_option maxRecDepth 100000 in
theorem qk418 : zk_chk qK qP418 prog_2_method_7_code 2 qC418 (some .int) qH418 qX418 67 0 = true := zk_chkD_ok (T := qdt_2_7) qdo_2_7 (by decide +kernel)
