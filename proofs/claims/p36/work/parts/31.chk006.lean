/-! CONTRACTS: found by wip/an (python). -/
set_option maxRecDepth 100000 in
/-- UnaskedLetters$RuleReader.readAtom(I)Z #6 -/
def qC62 : zk_C := ((6, [], [0, 1], [(0, (2, 18, 0)), (1, (0, 6, 6)), (2, (2, 12, 0)), (3, (0, 0, 320)), (4, (0, 8, 160)), (5, (0, 8, 160))], [], [(0, 1, 2), (0, 2, 3), (0, 3, 4), (2, 1, 5)], [], [], [], none), [(8, [], [6], [(0, (2, 18, 0)), (1, (0, 6, 6)), (2, (2, 12, 0)), (3, (0, 0, 320)), (4, (0, 8, 160)), (5, (0, 8, 160)), (6, (0, 0, 0)), (7, (0, 8, 160))], [(4, 7, 0)], [(0, 1, 2), (0, 2, 3), (0, 3, 7), (2, 1, 5)], [], [], [], none), (9, [], [6], [(0, (2, 18, 0)), (1, (0, 6, 6)), (2, (2, 12, 0)), (3, (0, 320, 320)), (4, (0, 8, 159)), (5, (0, 9, 160)), (6, (0, 1, 1)), (7, (0, 9, 160)), (8, (0, 9, 160))], [(4, 5, (-1)), (4, 7, (-1)), (4, 8, (-1)), (5, 8, 0), (7, 5, 0), (7, 8, 0), (8, 5, 0)], [(0, 1, 2), (0, 2, 3), (0, 3, 7), (2, 1, 8)], [], [], [], none), (10, [], [6], [(0, (2, 18, 0)), (1, (0, 6, 6)), (2, (2, 12, 0)), (3, (0, 0, 319)), (4, (0, 8, 159)), (5, (0, 9, 160)), (6, (0, 1, 1)), (7, (0, 1, 320)), (8, (0, 9, 160)), (9, (0, 9, 160))], [(3, 7, (-1)), (4, 5, (-1)), (4, 8, (-1)), (4, 9, (-1)), (5, 9, 0), (7, 3, 1), (8, 5, 0), (8, 9, 0), (9, 5, 0)], [(0, 1, 2), (0, 2, 7), (0, 3, 8), (2, 1, 9)], [], [], [], none), (9, [], [6], [(0, (2, 18, 0)), (1, (0, 6, 6)), (2, (2, 12, 0)), (3, (0, 320, 320)), (4, (0, 8, 159)), (5, (0, 9, 160)), (6, (0, 1, 1)), (7, (0, 8, 159)), (8, (0, 9, 160))], [(4, 5, (-1)), (4, 7, 0), (4, 8, (-1)), (5, 8, 0), (7, 5, (-1)), (7, 8, (-1)), (8, 5, 0)], [(0, 1, 2), (0, 2, 3), (0, 3, 7), (2, 1, 8)], [], [], [], none), (10, [], [6], [(0, (2, 18, 0)), (1, (0, 6, 6)), (2, (2, 12, 0)), (3, (0, 0, 319)), (4, (0, 8, 159)), (5, (0, 9, 160)), (6, (0, 1, 1)), (7, (0, 1, 320)), (8, (0, 8, 159)), (9, (0, 9, 160))], [(3, 7, (-1)), (4, 5, (-1)), (4, 8, 0), (4, 9, (-1)), (5, 9, 0), (7, 3, 1), (8, 5, (-1)), (8, 9, (-1)), (9, 5, 0)], [(0, 1, 2), (0, 2, 7), (0, 3, 8), (2, 1, 9)], [], [], [], none)], [(18, 2), (18, 3), (20, 0)], 0, 0)
set_option maxRecDepth 100000 in
def qP62 : zk_P := ([(25, 6, 3, 0)], [], [], [], [(80, 2, (2, 24, 0))], [(1, qC38), (18, qC51), (84, qC61), (110, qC49)], [])
set_option maxRecDepth 100000 in
def qH62 : List zk_Hd := []
set_option maxRecDepth 100000 in
def qX62 : List zk_Hd := []
set_option maxRecDepth 100000 in
theorem qk62 : zk_chk qK qP62 prog_8_method_14_code 4 qC62 (some .boolean) qH62 qX62 95 0 = true := zk_chkD_ok (T := qdt_8_14) qdo_8_14 (by decide +kernel)
set_option maxRecDepth 100000 in
/-- UnaskedLetters$RuleReader.readTerm(I)Z #6 -/
def qC63 : zk_C := ((6, [], [0, 1], [(0, (2, 18, 0)), (1, (0, 6, 6)), (2, (2, 12, 0)), (3, (0, 0, 320)), (4, (0, 8, 160)), (5, (0, 8, 160))], [], [(0, 1, 2), (0, 2, 3), (0, 3, 4), (2, 1, 5)], [], [], [], none), [(10, [], [6], [(0, (2, 18, 0)), (1, (0, 6, 6)), (2, (2, 12, 0)), (3, (0, 0, 320)), (4, (0, 8, 159)), (5, (0, 9, 160)), (6, (0, 1, 1)), (7, (0, 1, 320)), (8, (0, 8, 160)), (9, (0, 9, 160))], [(3, 7, 0), (4, 5, (-1)), (4, 8, 0), (4, 9, (-1)), (5, 9, 0), (9, 5, 0)], [(0, 1, 2), (0, 2, 7), (0, 3, 8), (2, 1, 9)], [], [], [], none), (10, [], [6], [(0, (2, 18, 0)), (1, (0, 6, 6)), (2, (2, 12, 0)), (3, (0, 0, 320)), (4, (0, 8, 159)), (5, (0, 9, 160)), (6, (0, 0, 0)), (7, (0, 1, 320)), (8, (0, 9, 160)), (9, (0, 9, 160))], [(3, 7, 0), (4, 5, (-1)), (4, 8, (-1)), (4, 9, (-1)), (5, 9, 0), (9, 5, 0)], [(0, 1, 2), (0, 2, 7), (0, 3, 8), (2, 1, 9)], [], [], [], none), (8, [], [6], [(0, (2, 18, 0)), (1, (0, 6, 6)), (2, (2, 12, 0)), (3, (0, 0, 320)), (4, (0, 8, 160)), (5, (0, 8, 160)), (6, (0, 0, 0)), (7, (0, 8, 160))], [(4, 7, 0)], [(0, 1, 2), (0, 2, 3), (0, 3, 7), (2, 1, 5)], [], [], [], none)], [(18, 2), (18, 3), (20, 0)], 0, 0)
set_option maxRecDepth 100000 in
def qP63 : zk_P := ([(25, 6, 3, 0)], [], [], [], [], [(2, qC62), (20, qC38), (50, qC62), (64, qC49)], [])
set_option maxRecDepth 100000 in
def qH63 : List zk_Hd := [(12, (10, [(0, 0), (1, 1), (2, 6)], [], [(0, (2, 18, 0)), (1, (0, 6, 6)), (2, (2, 12, 0)), (3, (0, 0, 320)), (4, (0, 8, 159)), (5, (0, 9, 160)), (6, (0, 0, 160)), (7, (0, 1, 320)), (8, (0, 8, 160)), (9, (0, 9, 160))], [(3, 7, 0), (4, 5, (-1)), (4, 8, 0), (4, 9, (-1)), (5, 9, 0), (8, 5, 0), (8, 9, 0), (9, 5, 0)], [(0, 1, 2), (0, 2, 7), (0, 3, 8), (2, 1, 9)], [], [], [], none), [(1, none, none), (161, none, some 8), (1, none, none)], 0, 0)]
set_option maxRecDepth 100000 in
def qX63 : List zk_Hd := []
set_option maxRecDepth 100000 in
theorem qk63 : zk_chk qK qP63 prog_8_method_13_code 4 qC63 (some .boolean) qH63 qX63 90 3 = true := zk_chkD_ok (T := qdt_8_13) qdo_8_13 (by decide +kernel)
set_option maxRecDepth 100000 in
/-- UnaskedLetters$RuleReader.readSum(I)Z #6 -/
def qC64 : zk_C := ((6, [], [0, 1], [(0, (2, 18, 0)), (1, (0, 6, 6)), (2, (2, 12, 0)), (3, (0, 0, 320)), (4, (0, 8, 160)), (5, (0, 8, 160))], [], [(0, 1, 2), (0, 2, 3), (0, 3, 4), (2, 1, 5)], [], [], [], none), [(10, [], [6], [(0, (2, 18, 0)), (1, (0, 6, 6)), (2, (2, 12, 0)), (3, (0, 0, 320)), (4, (0, 8, 159)), (5, (0, 9, 160)), (6, (0, 1, 1)), (7, (0, 1, 320)), (8, (0, 8, 160)), (9, (0, 9, 160))], [(3, 7, 0), (4, 5, (-1)), (4, 8, 0), (4, 9, (-1)), (5, 9, 0), (9, 5, 0)], [(0, 1, 2), (0, 2, 7), (0, 3, 8), (2, 1, 9)], [], [], [], none), (10, [], [6], [(0, (2, 18, 0)), (1, (0, 6, 6)), (2, (2, 12, 0)), (3, (0, 0, 320)), (4, (0, 8, 159)), (5, (0, 9, 160)), (6, (0, 0, 0)), (7, (0, 1, 320)), (8, (0, 9, 160)), (9, (0, 9, 160))], [(3, 7, 0), (4, 5, (-1)), (4, 8, (-1)), (4, 9, (-1)), (5, 9, 0), (9, 5, 0)], [(0, 1, 2), (0, 2, 7), (0, 3, 8), (2, 1, 9)], [], [], [], none), (8, [], [6], [(0, (2, 18, 0)), (1, (0, 6, 6)), (2, (2, 12, 0)), (3, (0, 0, 320)), (4, (0, 8, 160)), (5, (0, 8, 160)), (6, (0, 0, 0)), (7, (0, 8, 160))], [(4, 7, 0)], [(0, 1, 2), (0, 2, 3), (0, 3, 7), (2, 1, 5)], [], [], [], none)], [(18, 2), (18, 3), (20, 0)], 0, 0)
set_option maxRecDepth 100000 in
def qP64 : zk_P := ([(25, 6, 3, 0)], [], [], [], [], [(2, qC63), (20, qC38), (50, qC63), (64, qC49)], [])
set_option maxRecDepth 100000 in
def qH64 : List zk_Hd := [(12, (10, [(0, 0), (1, 1), (2, 6)], [], [(0, (2, 18, 0)), (1, (0, 6, 6)), (2, (2, 12, 0)), (3, (0, 0, 320)), (4, (0, 8, 159)), (5, (0, 9, 160)), (6, (0, 0, 160)), (7, (0, 1, 320)), (8, (0, 8, 160)), (9, (0, 9, 160))], [(3, 7, 0), (4, 5, (-1)), (4, 8, 0), (4, 9, (-1)), (5, 9, 0), (9, 5, 0)], [(0, 1, 2), (0, 2, 7), (0, 3, 8), (2, 1, 9)], [], [], [], none), [(1, none, none), (161, none, some 8), (1, none, none)], 0, 0)]
set_option maxRecDepth 100000 in
def qX64 : List zk_Hd := []
set_option maxRecDepth 100000 in
theorem qk64 : zk_chk qK qP64 prog_8_method_12_code 4 qC64 (some .boolean) qH64 qX64 90 3 = true := zk_chkD_ok (T := qdt_8_12) qdo_8_12 (by decide +kernel)
set_option maxRecDepth 100000 in
/-- java/lang/String.isLatin1()Z java/lang/String.indexOf(II)I@1java/lang/String.indexOf(I)I@3UnaskedLetters$RuleReader.readAtom(I)Z@84#5 -/
def qC65 : zk_C := ((1, [], [0], [(0, (2, 24, 0))], [], [], [], [], [], none), [(2, [], [1], [(0, (2, 24, 0)), (1, (0, 1, 1))], [], [], [], [], [], none)], [], 0, 0)
set_option maxRecDepth 100000 in
def qP65 : zk_P := ([(15, 13, 1, 4)], [], [], [], [(0, 3, (0, 1, 1))], [], [])
set_option maxRecDepth 100000 in
def qH65 : List zk_Hd := []
set_option maxRecDepth 100000 in
def qX65 : List zk_Hd := []
set_option maxRecDepth 100000 in
theorem qk65 : zk_chk qK qP65 prog_19_method_154_code 1 qC65 (some .boolean) qH65 qX65 68 0 = true := zk_chkD_ok (T := qdt_19_154) qdo_19_154 (by decide +kernel)
set_option maxRecDepth 100000 in
/-- java/lang/String.coder()B java/lang/String.length()I@6java/lang/String.indexOf(II)I@14java/lang/String.indexOf(I)I@3UnaskedLetters$RuleReader.readAtom(I)Z@84#5 -/
def qC66 : zk_C := ((1, [], [0], [(0, (2, 24, 0))], [], [], [], [], [], none), [(2, [], [1], [(0, (2, 24, 0)), (1, (0, 0, 0))], [], [], [], [], [], none)], [], 0, 0)
set_option maxRecDepth 100000 in
def qP66 : zk_P := ([(15, 13, 1, 4)], [], [], [], [(0, 3, (0, 1, 1))], [], [])
set_option maxRecDepth 100000 in
def qH66 : List zk_Hd := []
set_option maxRecDepth 100000 in
def qX66 : List zk_Hd := []
set_option maxRecDepth 100000 in
theorem qk66 : zk_chk qK qP66 prog_19_method_152_code 1 qC66 (some .byte) qH66 qX66 66 0 = true := zk_chkD_ok (T := qdt_19_152) qdo_19_152 (by decide +kernel)
set_option maxRecDepth 100000 in
/-- java/lang/String.length()I java/lang/String.indexOf(II)I@14java/lang/String.indexOf(I)I@3UnaskedLetters$RuleReader.readAtom(I)Z@84#5 -/
def qC67 : zk_C := ((1, [], [0], [(0, (2, 24, 0))], [], [], [], [], [], none), [(2, [], [1], [(0, (2, 24, 0)), (1, (0, 12, 12))], [], [], [], [], [], none)], [], 0, 0)
set_option maxRecDepth 100000 in
def qP67 : zk_P := ([(9, 13, 0, 4)], [], [], [], [], [(6, qC66)], [])
set_option maxRecDepth 100000 in
def qH67 : List zk_Hd := []
set_option maxRecDepth 100000 in
def qX67 : List zk_Hd := []
set_option maxRecDepth 100000 in
theorem qk67 : zk_chk qK qP67 prog_19_method_54_code 1 qC67 (some .int) qH67 qX67 67 0 = true := zk_chkD_ok (T := qdt_19_54) qdo_19_54 (by decide +kernel)
set_option maxRecDepth 100000 in
/-- java/lang/StringLatin1.canEncode(I)Z java/lang/StringLatin1.indexOf([BIII)I@1java/lang/String.indexOf(II)I@17java/lang/String.indexOf(I)I@3UnaskedLetters$RuleReader.readAtom(I)Z@84#5 -/
def qC68 : zk_C := ((1, [], [0], [(0, (0, 0, 255))], [], [], [], [], [], none), [(2, [], [1], [(0, (0, 0, 255)), (1, (0, 1, 1))], [], [], [], [], [], none)], [], 0, 0)
set_option maxRecDepth 100000 in
def qP68 : zk_P := ([], [], [], [], [], [], [])
set_option maxRecDepth 100000 in
def qH68 : List zk_Hd := []
set_option maxRecDepth 100000 in
def qX68 : List zk_Hd := []
set_option maxRecDepth 100000 in
theorem qk68 : zk_chk qK qP68 prog_20_method_4_code 1 qC68 (some .boolean) qH68 qX68 68 0 = true := zk_chkD_ok (T := qdt_20_4) qdo_20_4 (by decide +kernel)
set_option maxRecDepth 100000 in
/-- java/lang/Math.max(II)I java/lang/StringLatin1.indexOf([BIII)I@11java/lang/String.indexOf(II)I@17java/lang/String.indexOf(I)I@3UnaskedLetters$RuleReader.readAtom(I)Z@84#5 -/
def qC69 : zk_C := ((2, [], [0, 1], [(0, (0, 0, 0)), (1, (0, 0, 0))], [], [], [], [], [], none), [(2, [], [0], [(0, (0, 0, 0)), (1, (0, 0, 0))], [], [], [], [], [], none)], [], 0, 0)
set_option maxRecDepth 100000 in
def qP69 : zk_P := ([], [], [], [], [], [], [])
set_option maxRecDepth 100000 in
def qH69 : List zk_Hd := []
set_option maxRecDepth 100000 in
def qX69 : List zk_Hd := []
set_option maxRecDepth 100000 in
theorem qk69 : zk_chk qK qP69 prog_18_method_65_code 2 qC69 (some .int) qH69 qX69 66 0 = true := zk_chkD_ok (T := qdt_18_65) qdo_18_65 (by decide +kernel)
set_option maxRecDepth 100000 in
/-- java/lang/Math.min(II)I java/lang/StringLatin1.indexOf([BIII)I@18java/lang/String.indexOf(II)I@17java/lang/String.indexOf(I)I@3UnaskedLetters$RuleReader.readAtom(I)Z@84#5 -/
def qC70 : zk_C := ((2, [], [0, 1], [(0, (0, 12, 12)), (1, (0, 12, 12))], [], [], [], [], [], none), [(2, [], [0], [(0, (0, 12, 12)), (1, (0, 12, 12))], [], [], [], [], [], none)], [], 0, 0)
set_option maxRecDepth 100000 in
def qP70 : zk_P := ([], [], [], [], [], [], [])
set_option maxRecDepth 100000 in
def qH70 : List zk_Hd := []
set_option maxRecDepth 100000 in
def qX70 : List zk_Hd := []
set_option maxRecDepth 100000 in
theorem qk70 : zk_chk qK qP70 prog_18_method_69_code 2 qC70 (some .int) qH70 qX70 66 0 = true := zk_chkD_ok (T := qdt_18_69) qdo_18_69 (by decide +kernel)
set_option maxRecDepth 100000 in
/-- java/lang/StringLatin1.indexOfChar([BIII)I java/lang/StringLatin1.indexOf([BIII)I@33java/lang/String.indexOf(II)I@17java/lang/String.indexOf(I)I@3UnaskedLetters$RuleReader.readAtom(I)Z@84#5 -/
def qC71 : zk_C := ((4, [], [0, 1, 2, 3], [(0, (2, 23, 0)), (1, (0, 0, 255)), (2, (0, 0, 0)), (3, (0, 12, 12))], [], [], [], [], [], none), [(5, [], [4], [(0, (2, 23, 0)), (1, (0, 0, 255)), (2, (0, 0, 0)), (3, (0, 12, 12)), (4, (0, (-1), (-1)))], [], [], [], [], [], none), (5, [], [4], [(0, (2, 23, 0)), (1, (0, 0, 255)), (2, (0, 0, 0)), (3, (0, 12, 12)), (4, (0, 0, 11))], [], [], [], [], [], none)], [], 0, 0)
set_option maxRecDepth 100000 in
def qP71 : zk_P := ([], [], [], [], [], [], [])
set_option maxRecDepth 100000 in
def qH71 : List zk_Hd := [(7, (6, [(0, 0), (3, 3), (4, 4), (5, 5)], [], [(0, (2, 23, 0)), (1, (0, 0, 255)), (2, (0, 0, 0)), (3, (0, 12, 12)), (4, (0, (-128), 127)), (5, (0, 0, 12))], [], [], [], [], [], none), [(1, none, none), (13, none, some 5), (1, none, none)], 0, 0)]
set_option maxRecDepth 100000 in
def qX71 : List zk_Hd := []
set_option maxRecDepth 100000 in
theorem qk71 : zk_chk qK qP71 prog_20_method_23_code 6 qC71 (some .int) qH71 qX71 71 3 = true := zk_chkD_ok (T := qdt_20_23) qdo_20_23 (by decide +kernel)
set_option maxRecDepth 100000 in
/-- java/lang/StringLatin1.indexOf([BIII)I java/lang/String.indexOf(II)I@17java/lang/String.indexOf(I)I@3UnaskedLetters$RuleReader.readAtom(I)Z@84#5 -/
def qC72 : zk_C := ((4, [], [0, 1, 2, 3], [(0, (2, 23, 0)), (1, (0, 0, 255)), (2, (0, 0, 0)), (3, (0, 12, 12))], [], [], [], [], [], none), [(5, [], [4], [(0, (2, 23, 0)), (1, (0, 0, 255)), (2, (0, 0, 0)), (3, (0, 12, 12)), (4, (0, (-1), (-1)))], [], [], [], [], [], none), (5, [], [4], [(0, (2, 23, 0)), (1, (0, 0, 255)), (2, (0, 0, 0)), (3, (0, 12, 12)), (4, (0, 0, 11))], [], [], [], [], [], none)], [], 0, 0)
set_option maxRecDepth 100000 in
def qP72 : zk_P := ([], [], [], [], [], [(1, qC68), (11, qC69), (18, qC70), (33, qC71)], [])
set_option maxRecDepth 100000 in
def qH72 : List zk_Hd := []
set_option maxRecDepth 100000 in
def qX72 : List zk_Hd := []
set_option maxRecDepth 100000 in
theorem qk72 : zk_chk qK qP72 prog_20_method_22_code 4 qC72 (some .int) qH72 qX72 81 0 = true := zk_chkD_ok (T := qdt_20_22) qdo_20_22 (by decide +kernel)
set_option maxRecDepth 100000 in
/-- java/lang/String.indexOf(II)I java/lang/String.indexOf(I)I@3UnaskedLetters$RuleReader.readAtom(I)Z@84#5 -/
def qC73 : zk_C := ((3, [], [0, 1, 2], [(0, (2, 24, 0)), (1, (0, 0, 255)), (2, (0, 0, 0))], [], [], [], [], [], none), [(4, [], [3], [(0, (2, 24, 0)), (1, (0, 0, 255)), (2, (0, 0, 0)), (3, (0, (-1), (-1)))], [], [], [], [], [], none), (4, [], [3], [(0, (2, 24, 0)), (1, (0, 0, 255)), (2, (0, 0, 0)), (3, (0, 0, 11))], [], [], [], [], [], none)], [], 0, 0)
set_option maxRecDepth 100000 in
def qP73 : zk_P := ([(9, 13, 0, 4)], [], [], [], [], [(1, qC65), (14, qC67), (17, qC72)], [])
set_option maxRecDepth 100000 in
def qH73 : List zk_Hd := []
set_option maxRecDepth 100000 in
def qX73 : List zk_Hd := []
set_option maxRecDepth 100000 in
theorem qk73 : zk_chk qK qP73 prog_19_method_80_code 3 qC73 (some .int) qH73 qX73 72 0 = true := zk_chkD_ok (T := qdt_19_80) qdo_19_80 (by decide +kernel)
set_option maxRecDepth 100000 in
/-- java/lang/String.indexOf(I)I UnaskedLetters$RuleReader.readAtom(I)Z@84#5 -/
def qC74 : zk_C := ((2, [], [0, 1], [(0, (2, 24, 0)), (1, (0, 0, 255))], [], [], [], [], [], none), [(3, [], [2], [(0, (2, 24, 0)), (1, (0, 0, 255)), (2, (0, (-1), (-1)))], [], [], [], [], [], none), (3, [], [2], [(0, (2, 24, 0)), (1, (0, 0, 255)), (2, (0, 0, 11))], [], [], [], [], [], none)], [], 0, 0)
set_option maxRecDepth 100000 in
def qP74 : zk_P := ([], [], [], [], [], [(3, qC73)], [])
set_option maxRecDepth 100000 in
def qH74 : List zk_Hd := []
set_option maxRecDepth 100000 in
def qX74 : List zk_Hd := []
set_option maxRecDepth 100000 in
theorem qk74 : zk_chk qK qP74 prog_19_method_79_code 2 qC74 (some .int) qH74 qX74 65 0 = true := zk_chkD_ok (T := qdt_19_79) qdo_19_79 (by decide +kernel)
