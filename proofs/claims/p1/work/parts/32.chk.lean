/-! CONTRACTS 20..: found by wip/an (python). -/
set_option maxRecDepth 100000 in
/-- UnaskedLettersModel.up(IZ)Z  -/
def qC20 : zk_C := ((4, [], [0, 1, 2], [(0, (2, 57, 0)), (1, (0, (-2147483648), 2147483647)), (2, (0, 0, 1)), (3, (0, 0, 0))], [], [(0, 6, 3)], [], [], [], none), [(5, [], [4], [(0, (2, 57, 0)), (1, (0, (-2147483648), (-1))), (2, (0, 0, 1)), (3, (0, 0, 0)), (4, (0, 0, 0))], [], [(0, 6, 3)], [], [], [], none), (5, [], [4], [(0, (2, 57, 0)), (1, (0, 0, 2147483647)), (2, (0, 0, 1)), (3, (0, 0, 0)), (4, (0, 0, 0))], [], [(0, 6, 3)], [], [], [], none)], [], 0, 0)
set_option maxRecDepth 100000 in
def qP20 : zk_P := ([], [], [], [], [], [(2, qC19)], [])
set_option maxRecDepth 100000 in
def qH20 : List zk_Hd := []
set_option maxRecDepth 100000 in
def qX20 : List zk_Hd := []
set_option maxRecDepth 100000 in
theorem qk20 : zk_chk qK qP20 prog_14_method_7_code 3 qC20 (some .boolean) qH20 qX20 66 0 = true := by decide +kernel
set_option maxRecDepth 100000 in
/-- UnaskedLetters.road(II)Z  -/
def qC21 : zk_C := ((5, [], [0, 1, 2], [(0, (2, 2, 0)), (1, (0, (-2147483648), 2147483647)), (2, (0, (-2147483648), 2147483647)), (3, (2, 4, 0)), (4, (0, 0, 0))], [], [(0, 0, 3), (3, 6, 4)], [], [], [], none), [(6, [], [5], [(0, (2, 2, 0)), (1, (0, (-2147483648), (-1))), (2, (0, (-2147483648), 2147483647)), (3, (2, 4, 0)), (4, (0, 0, 0)), (5, (0, 0, 0))], [], [(0, 0, 3), (3, 6, 4)], [], [], [], none), (6, [], [5], [(0, (2, 2, 0)), (1, (0, 0, 2147483647)), (2, (0, (-2147483648), 2147483647)), (3, (2, 4, 0)), (4, (0, 0, 0)), (5, (0, 0, 0))], [], [(0, 0, 3), (3, 6, 4)], [], [], [], none)], [], 0, 0)
set_option maxRecDepth 100000 in
def qP21 : zk_P := ([(10, 11, 0, 4)], [], [], [], [], [(5, qC16)], [])
set_option maxRecDepth 100000 in
def qH21 : List zk_Hd := []
set_option maxRecDepth 100000 in
def qX21 : List zk_Hd := []
set_option maxRecDepth 100000 in
theorem qk21 : zk_chk qK qP21 prog_1_method_4_code 3 qC21 (some .boolean) qH21 qX21 67 0 = true := by decide +kernel
set_option maxRecDepth 100000 in
/-- UnaskedLettersModel.road(II)Z  -/
def qC22 : zk_C := ((4, [], [0, 1, 2], [(0, (2, 57, 0)), (1, (0, (-2147483648), 2147483647)), (2, (0, (-2147483648), 2147483647)), (3, (0, 0, 0))], [], [(0, 6, 3)], [], [], [], none), [(5, [], [4], [(0, (2, 57, 0)), (1, (0, (-2147483648), (-1))), (2, (0, (-2147483648), 2147483647)), (3, (0, 0, 0)), (4, (0, 0, 0))], [], [(0, 6, 3)], [], [], [], none), (5, [], [4], [(0, (2, 57, 0)), (1, (0, 0, 2147483647)), (2, (0, (-2147483648), 2147483647)), (3, (0, 0, 0)), (4, (0, 0, 0))], [], [(0, 6, 3)], [], [], [], none)], [], 0, 0)
set_option maxRecDepth 100000 in
def qP22 : zk_P := ([], [], [], [], [], [(2, qC19)], [])
set_option maxRecDepth 100000 in
def qH22 : List zk_Hd := []
set_option maxRecDepth 100000 in
def qX22 : List zk_Hd := []
set_option maxRecDepth 100000 in
theorem qk22 : zk_chk qK qP22 prog_14_method_8_code 3 qC22 (some .boolean) qH22 qX22 66 0 = true := by decide +kernel
set_option maxRecDepth 100000 in
/-- UnaskedLetters.name(IZ)I  -/
def qC23 : zk_C := ((6, [], [0, 1, 2], [(0, (2, 2, 0)), (1, (0, (-2147483648), 2147483647)), (2, (0, 0, 1)), (3, (2, 4, 0)), (4, (0, 0, 0)), (5, (0, 0, 0))], [], [(0, 0, 3), (3, 6, 4), (3, 7, 5)], [], [], [], none), [(7, [], [6], [(0, (2, 2, 0)), (1, (0, (-2147483648), (-1))), (2, (0, 0, 1)), (3, (2, 4, 0)), (4, (0, 0, 0)), (5, (0, 0, 0)), (6, (0, (-1), (-1)))], [], [(0, 0, 3), (3, 6, 4), (3, 7, 5)], [], [], [], none), (7, [], [6], [(0, (2, 2, 0)), (1, (0, 0, 2147483647)), (2, (0, 0, 1)), (3, (2, 4, 0)), (4, (0, 0, 0)), (5, (0, 0, 0)), (6, (0, (-1), (-1)))], [], [(0, 0, 3), (3, 6, 4), (3, 7, 5)], [], [], [], none)], [], 0, 0)
set_option maxRecDepth 100000 in
def qP23 : zk_P := ([(10, 11, 0, 4)], [], [], [], [], [(5, qC16)], [])
set_option maxRecDepth 100000 in
def qH23 : List zk_Hd := []
set_option maxRecDepth 100000 in
def qX23 : List zk_Hd := []
set_option maxRecDepth 100000 in
theorem qk23 : zk_chk qK qP23 prog_1_method_5_code 3 qC23 (some .int) qH23 qX23 67 0 = true := by decide +kernel
set_option maxRecDepth 100000 in
/-- UnaskedLettersModel.name(IZ)I  -/
def qC24 : zk_C := ((5, [], [0, 1, 2], [(0, (2, 57, 0)), (1, (0, (-2147483648), 2147483647)), (2, (0, 0, 1)), (3, (0, 0, 0)), (4, (0, 0, 0))], [], [(0, 6, 3), (0, 7, 4)], [], [], [], none), [(6, [], [5], [(0, (2, 57, 0)), (1, (0, (-2147483648), (-1))), (2, (0, 0, 1)), (3, (0, 0, 0)), (4, (0, 0, 0)), (5, (0, (-1), (-1)))], [], [(0, 6, 3), (0, 7, 4)], [], [], [], none), (6, [], [5], [(0, (2, 57, 0)), (1, (0, 0, 2147483647)), (2, (0, 0, 1)), (3, (0, 0, 0)), (4, (0, 0, 0)), (5, (0, (-1), (-1)))], [], [(0, 6, 3), (0, 7, 4)], [], [], [], none)], [], 0, 0)
set_option maxRecDepth 100000 in
def qP24 : zk_P := ([], [], [], [], [], [(2, qC19)], [])
set_option maxRecDepth 100000 in
def qH24 : List zk_Hd := []
set_option maxRecDepth 100000 in
def qX24 : List zk_Hd := []
set_option maxRecDepth 100000 in
theorem qk24 : zk_chk qK qP24 prog_14_method_9_code 3 qC24 (some .int) qH24 qX24 66 0 = true := by decide +kernel
set_option maxRecDepth 100000 in
/-- UnaskedLetters.end(I)Z  -/
def qC25 : zk_C := ((4, [], [0, 1], [(0, (2, 2, 0)), (1, (0, (-2147483648), 2147483647)), (2, (2, 12, 0)), (3, (0, 0, 0))], [], [(0, 1, 2), (2, 1, 3)], [], [], [], none), [(5, [], [4], [(0, (2, 2, 0)), (1, (0, (-2147483648), (-1))), (2, (2, 12, 0)), (3, (0, 0, 0)), (4, (0, 0, 0))], [], [(0, 1, 2), (2, 1, 3)], [], [], [], none), (5, [], [4], [(0, (2, 2, 0)), (1, (0, 0, 0)), (2, (2, 12, 0)), (3, (0, 0, 0)), (4, (0, 1, 1))], [], [(0, 1, 2), (2, 1, 1)], [], [], [], none), (5, [], [4], [(0, (2, 2, 0)), (1, (0, 1, 2147483647)), (2, (2, 12, 0)), (3, (0, 0, 0)), (4, (0, 0, 0))], [], [(0, 1, 2), (2, 1, 3)], [], [], [], none)], [(12, 1)], 0, 0)
set_option maxRecDepth 100000 in
def qP25 : zk_P := ([(19, 11, 1, 4), (120, 8, 1, 0)], [], [], [], [], [], [])
set_option maxRecDepth 100000 in
def qH25 : List zk_Hd := []
set_option maxRecDepth 100000 in
def qX25 : List zk_Hd := []
set_option maxRecDepth 100000 in
theorem qk25 : zk_chk qK qP25 prog_1_method_7_code 2 qC25 (some .boolean) qH25 qX25 73 0 = true := by decide +kernel
set_option maxRecDepth 100000 in
/-- UnaskedLettersModel.end(I)Z  -/
def qC26 : zk_C := ((3, [], [0, 1], [(0, (2, 57, 0)), (1, (0, (-2147483648), 2147483647)), (2, (0, 0, 0))], [], [(0, 9, 2)], [], [], [], none), [(4, [], [3], [(0, (2, 57, 0)), (1, (0, (-2147483648), (-1))), (2, (0, 0, 0)), (3, (0, 0, 0))], [], [(0, 9, 2)], [], [], [], none), (4, [], [3], [(0, (2, 57, 0)), (1, (0, 0, 0)), (2, (0, 0, 0)), (3, (0, 1, 1))], [], [(0, 9, 1)], [], [], [], none), (4, [], [3], [(0, (2, 57, 0)), (1, (0, 1, 2147483647)), (2, (0, 0, 0)), (3, (0, 0, 0))], [], [(0, 9, 2)], [], [], [], none)], [(57, 9)], 0, 0)
set_option maxRecDepth 100000 in
def qP26 : zk_P := ([(181, 12, 9, 0)], [], [], [], [], [], [])
set_option maxRecDepth 100000 in
def qH26 : List zk_Hd := []
set_option maxRecDepth 100000 in
def qX26 : List zk_Hd := []
set_option maxRecDepth 100000 in
theorem qk26 : zk_chk qK qP26 prog_14_method_13_code 2 qC26 (some .boolean) qH26 qX26 71 0 = true := by decide +kernel
set_option maxRecDepth 100000 in
/-- UnaskedLetters$LetterReader.faultOf(LUnaskedLetters$Tape;)I  -/
def qC27 : zk_C := ((3, [], [0, 1], [(0, (2, 15, 0)), (1, (2, 12, 0)), (2, (0, 0, 0))], [], [(1, 1, 2)], [], [], [], none), [(3, [], [2], [(0, (2, 15, 0)), (1, (2, 12, 0)), (2, (0, 0, 0))], [], [(1, 1, 2)], [], [], [], none)], [], 0, 0)
set_option maxRecDepth 100000 in
def qP27 : zk_P := ([(17, 8, 1, 0)], [], [], [], [], [], [])
set_option maxRecDepth 100000 in
def qH27 : List zk_Hd := [(16, (9, [(1, 1), (2, 3), (3, 4), (4, 5), (5, 6), (6, 7), (7, 8)], [], [(0, (2, 15, 0)), (1, (2, 12, 0)), (2, (0, 0, 0)), (3, (0, 0, 0)), (4, (0, 0, 0)), (5, (0, 1, 1)), (6, (0, 0, 0)), (7, (0, 0, 0)), (8, (0, 0, 0))], [], [(1, 1, 2)], [], [], [], none), [(1, none, none)], 0, 0)]
set_option maxRecDepth 100000 in
def qX27 : List zk_Hd := []
set_option maxRecDepth 100000 in
theorem qk27 : zk_chk qK qP27 prog_4_method_2_code 9 qC27 (some .int) qH27 qX27 73 1 = true := by decide +kernel
set_option maxRecDepth 100000 in
/-- UnaskedLetters$Tape.at(I)I  -/
def qC28 : zk_C := ((3, [], [0, 1], [(0, (2, 12, 0)), (1, (0, 0, 0)), (2, (0, 0, 0))], [], [(0, 1, 2)], [], [], [], none), [(4, [], [3], [(0, (2, 12, 0)), (1, (0, 0, 0)), (2, (0, 0, 0)), (3, (0, (-1), (-1)))], [], [(0, 1, 2)], [], [], [], none)], [], 0, 0)
set_option maxRecDepth 100000 in
def qP28 : zk_P := ([(15, 8, 1, 0)], [], [], [], [], [], [])
set_option maxRecDepth 100000 in
def qH28 : List zk_Hd := []
set_option maxRecDepth 100000 in
def qX28 : List zk_Hd := []
set_option maxRecDepth 100000 in
theorem qk28 : zk_chk qK qP28 prog_10_method_4_code 2 qC28 (some .int) qH28 qX28 68 0 = true := by decide +kernel
set_option maxRecDepth 100000 in
/-- UnaskedLetters$RuleReader.ahead()I  -/
def qC29 : zk_C := ((4, [], [0], [(0, (2, 18, 0)), (1, (2, 12, 0)), (2, (0, 0, 0)), (3, (0, 0, 0))], [], [(0, 1, 1), (0, 3, 2), (1, 1, 3)], [], [], [], none), [(5, [], [4], [(0, (2, 18, 0)), (1, (2, 12, 0)), (2, (0, 0, 0)), (3, (0, 0, 0)), (4, (0, (-1), (-1)))], [], [(0, 1, 1), (0, 3, 2), (1, 1, 3)], [], [], [], none)], [], 0, 0)
set_option maxRecDepth 100000 in
def qP29 : zk_P := ([(25, 6, 3, 0), (17, 6, 1, 3), (49, 8, 1, 0)], [], [], [], [], [(51, qC28)], [])
set_option maxRecDepth 100000 in
def qH29 : List zk_Hd := [(0, (4, [(0, 0)], [], [(0, (2, 18, 0)), (1, (2, 12, 0)), (2, (0, 0, 0)), (3, (0, 0, 0))], [], [(0, 1, 1), (0, 3, 2), (1, 1, 3)], [], [], [], none), [(1, none, none)], 0, 0)]
set_option maxRecDepth 100000 in
def qX29 : List zk_Hd := []
set_option maxRecDepth 100000 in
theorem qk29 : zk_chk qK qP29 prog_8_method_4_code 1 qC29 (some .int) qH29 qX29 72 1 = true := by decide +kernel
set_option maxRecDepth 100000 in
/-- UnaskedLetters$RuleReader.readClause()Z  -/
def qC30 : zk_C := ((5, [], [0], [(0, (2, 18, 0)), (1, (2, 12, 0)), (2, (0, 0, 0)), (3, (0, 0, 0)), (4, (0, 0, 0))], [], [(0, 1, 1), (0, 2, 2), (0, 3, 3), (1, 1, 4)], [], [], [], none), [(6, [], [5], [(0, (2, 18, 0)), (1, (2, 12, 0)), (2, (0, 0, 0)), (3, (0, 0, 0)), (4, (0, 0, 0)), (5, (0, 0, 0))], [], [(0, 1, 1), (0, 2, 2), (0, 3, 3), (1, 1, 4)], [], [], [], none)], [], 0, 0)
set_option maxRecDepth 100000 in
def qP30 : zk_P := ([], [], [], [], [], [(1, qC29)], [])
set_option maxRecDepth 100000 in
def qH30 : List zk_Hd := []
set_option maxRecDepth 100000 in
def qX30 : List zk_Hd := []
set_option maxRecDepth 100000 in
theorem qk30 : zk_chk qK qP30 prog_8_method_7_code 4 qC30 (some .boolean) qH30 qX30 68 0 = true := by decide +kernel
set_option maxRecDepth 100000 in
/-- UnaskedLetters$RuleReader.faultOf(LUnaskedLetters$Tape;)I  -/
def qC31 : zk_C := ((6, [], [0, 1], [(0, (2, 18, 0)), (1, (2, 12, 0)), (2, (2, 12, 1)), (3, (0, 0, 0)), (4, (0, 0, 0)), (5, (0, 0, 0))], [], [(0, 1, 2), (0, 2, 3), (0, 3, 4), (1, 1, 5)], [], [], [], none), [(8, [], [6], [(0, (2, 18, 0)), (1, (2, 12, 0)), (2, (2, 12, 1)), (3, (0, 0, 0)), (4, (0, 0, 0)), (5, (0, 0, 0)), (6, (0, 0, 0)), (7, (0, 0, 0))], [], [(0, 1, 1), (0, 2, 7), (0, 3, 6), (1, 1, 5)], [], [], [], none)], [(18, 1), (18, 2), (18, 3)], 0, 0)
set_option maxRecDepth 100000 in
def qP31 : zk_P := ([(17, 6, 1, 3), (21, 6, 2, 0), (25, 6, 3, 0)], [], [], [], [], [(20, qC28), (40, qC30)], [])
set_option maxRecDepth 100000 in
def qH31 : List zk_Hd := [(32, (9, [(0, 0), (2, 6)], [], [(0, (2, 18, 0)), (1, (2, 12, 0)), (2, (2, 12, 1)), (3, (0, 0, 0)), (4, (0, 0, 0)), (5, (0, 0, 0)), (6, (0, 0, 0)), (7, (0, 0, 0)), (8, (0, 0, 0))], [], [(0, 1, 1), (0, 2, 7), (0, 3, 8), (1, 1, 5)], [], [], [], none), [(1, none, none)], 0, 0)]
set_option maxRecDepth 100000 in
def qX31 : List zk_Hd := []
set_option maxRecDepth 100000 in
theorem qk31 : zk_chk qK qP31 prog_8_method_2_code 3 qC31 (some .int) qH31 qX31 78 1 = true := by decide +kernel
set_option maxRecDepth 100000 in
/-- UnaskedLetters.fault(I)I  -/
def qC32 : zk_C := ((9, [], [0, 1], [(0, (2, 2, 0)), (1, (0, (-2147483648), 2147483647)), (2, (2, 12, 0)), (3, (2, 15, 0)), (4, (2, 18, 0)), (5, (0, 0, 0)), (6, (2, 12, 1)), (7, (0, 0, 0)), (8, (0, 0, 0))], [], [(0, 1, 2), (0, 2, 3), (0, 3, 4), (2, 1, 5), (4, 1, 6), (4, 2, 7), (4, 3, 8)], [], [], [], none), [(10, [], [9], [(0, (2, 2, 0)), (1, (0, (-2147483648), 2147483647)), (2, (2, 12, 0)), (3, (2, 15, 0)), (4, (2, 18, 0)), (5, (0, 0, 0)), (6, (2, 12, 1)), (7, (0, 0, 0)), (8, (0, 0, 0)), (9, (0, (-2), (-2)))], [], [(0, 1, 2), (0, 2, 3), (0, 3, 4), (2, 1, 5), (4, 1, 6), (4, 2, 7), (4, 3, 8)], [], [], [(2, 1, 0, 0), (2, 1, 1, 0)], none), (11, [], [9], [(0, (2, 2, 0)), (1, (0, 1, 1)), (2, (2, 12, 0)), (3, (2, 15, 0)), (4, (2, 18, 0)), (5, (0, 0, 0)), (6, (2, 12, 1)), (7, (0, 0, 0)), (8, (0, 0, 0)), (9, (0, 0, 0)), (10, (0, 0, 0))], [], [(0, 1, 2), (0, 2, 3), (0, 3, 4), (2, 1, 5), (4, 1, 2), (4, 2, 10), (4, 3, 9)], [], [], [], none), (9, [], [5], [(0, (2, 2, 0)), (1, (0, 0, 0)), (2, (2, 12, 0)), (3, (2, 15, 0)), (4, (2, 18, 0)), (5, (0, 0, 0)), (6, (2, 12, 1)), (7, (0, 0, 0)), (8, (0, 0, 0))], [], [(0, 1, 2), (0, 2, 3), (0, 3, 4), (2, 1, 5), (4, 1, 6), (4, 2, 7), (4, 3, 8)], [], [], [], none)], [(18, 1), (18, 2), (18, 3)], 0, 0)
set_option maxRecDepth 100000 in
def qP32 : zk_P := ([(26, 11, 2, 4), (19, 11, 1, 4), (33, 11, 3, 4)], [], [], [], [], [(12, qC27), (29, qC31)], [])
set_option maxRecDepth 100000 in
def qH32 : List zk_Hd := []
set_option maxRecDepth 100000 in
def qX32 : List zk_Hd := []
set_option maxRecDepth 100000 in
theorem qk32 : zk_chk qK qP32 prog_1_method_8_code 2 qC32 (some .int) qH32 qX32 72 0 = true := by decide +kernel
set_option maxRecDepth 100000 in
/-- UnaskedLettersModel.next()I  -/
def qC33 : zk_C := ((3, [], [0], [(0, (2, 57, 0)), (1, (0, 0, 0)), (2, (0, 0, 0))], [], [(0, 10, 1), (0, 9, 2)], [], [], [], none), [(4, [], [3], [(0, (2, 57, 0)), (1, (0, 0, 0)), (2, (0, 0, 0)), (3, (0, (-1), (-1)))], [], [(0, 10, 1), (0, 9, 2)], [], [], [], none)], [], 0, 0)
set_option maxRecDepth 100000 in
def qP33 : zk_P := ([(187, 12, 10, 0), (181, 12, 9, 0)], [], [], [], [], [], [])
set_option maxRecDepth 100000 in
def qH33 : List zk_Hd := []
set_option maxRecDepth 100000 in
def qX33 : List zk_Hd := []
set_option maxRecDepth 100000 in
theorem qk33 : zk_chk qK qP33 prog_14_method_15_code 1 qC33 (some .int) qH33 qX33 67 0 = true := by decide +kernel
set_option maxRecDepth 100000 in
/-- UnaskedLettersModel.bad()V  -/
def qC34 : zk_C := ((3, [], [0], [(0, (2, 57, 0)), (1, (0, 0, 0)), (2, (0, (-1), (-1)))], [], [(0, 10, 1), (0, 11, 2)], [], [], [], none), [(3, [], [], [(0, (2, 57, 0)), (1, (0, 0, 0)), (2, (0, (-1), (-1)))], [], [(0, 10, 1), (0, 11, 1)], [], [], [], none)], [(57, 11)], 0, 0)
set_option maxRecDepth 100000 in
def qP34 : zk_P := ([(184, 12, 11, 0), (187, 12, 10, 0)], [], [], [], [], [], [])
set_option maxRecDepth 100000 in
def qH34 : List zk_Hd := []
set_option maxRecDepth 100000 in
def qX34 : List zk_Hd := []
set_option maxRecDepth 100000 in
theorem qk34 : zk_chk qK qP34 prog_14_method_14_code 1 qC34 none qH34 qX34 70 0 = true := by decide +kernel
set_option maxRecDepth 100000 in
/-- UnaskedLettersModel.part()V  -/
def qC35 : zk_C := ((8, [], [0], [(0, (2, 57, 0)), (1, (0, 0, 0)), (2, (0, (-1), (-1))), (3, (0, 0, 0)), (4, (0, 0, 0)), (5, (0, 0, 0)), (6, (0, 0, 0)), (7, (0, 0, 0))], [], [(0, 10, 1), (0, 11, 2), (0, 12, 3), (0, 15, 4), (0, 16, 5), (0, 17, 6), (0, 9, 7)], [], [], [], none), [(8, [], [], [(0, (2, 57, 0)), (1, (0, 0, 0)), (2, (0, (-1), (-1))), (3, (0, 0, 0)), (4, (0, 0, 0)), (5, (0, 0, 0)), (6, (0, 0, 0)), (7, (0, 0, 0))], [], [(0, 10, 1), (0, 11, 1), (0, 12, 3), (0, 15, 4), (0, 16, 5), (0, 17, 6), (0, 9, 7)], [], [], [], none)], [(57, 11)], 0, 0)
set_option maxRecDepth 100000 in
def qP35 : zk_P := ([], [], [], [], [], [(1, qC33), (50, qC34)], [])
set_option maxRecDepth 100000 in
def qH35 : List zk_Hd := []
set_option maxRecDepth 100000 in
def qX35 : List zk_Hd := []
set_option maxRecDepth 100000 in
theorem qk35 : zk_chk qK qP35 prog_14_method_23_code 2 qC35 none qH35 qX35 75 0 = true := by decide +kernel
set_option maxRecDepth 100000 in
/-- UnaskedLettersModel.partRow()V  -/
def qC36 : zk_C := ((8, [], [0], [(0, (2, 57, 0)), (1, (0, 0, 0)), (2, (0, (-1), (-1))), (3, (0, 0, 0)), (4, (0, 0, 0)), (5, (0, 0, 0)), (6, (0, 0, 0)), (7, (0, 0, 0))], [], [(0, 10, 1), (0, 11, 2), (0, 12, 3), (0, 15, 4), (0, 16, 5), (0, 17, 6), (0, 9, 7)], [], [], [], none), [(8, [], [], [(0, (2, 57, 0)), (1, (0, 0, 0)), (2, (0, (-1), (-1))), (3, (0, 0, 0)), (4, (0, 0, 0)), (5, (0, 0, 0)), (6, (0, 0, 0)), (7, (0, 0, 0))], [], [(0, 10, 1), (0, 11, 1), (0, 12, 3), (0, 15, 4), (0, 16, 5), (0, 17, 6), (0, 9, 7)], [], [], [], none)], [(57, 11)], 0, 0)
set_option maxRecDepth 100000 in
def qP36 : zk_P := ([(184, 12, 11, 0)], [], [], [], [], [(1, qC35)], [])
set_option maxRecDepth 100000 in
def qH36 : List zk_Hd := [(4, (8, [(0, 0)], [], [(0, (2, 57, 0)), (1, (0, 0, 0)), (2, (0, (-1), (-1))), (3, (0, 0, 0)), (4, (0, 0, 0)), (5, (0, 0, 0)), (6, (0, 0, 0)), (7, (0, 0, 0))], [], [(0, 10, 1), (0, 11, 1), (0, 12, 3), (0, 15, 4), (0, 16, 5), (0, 17, 6), (0, 9, 7)], [], [], [], none), [(1, none, none)], 0, 0)]
set_option maxRecDepth 100000 in
def qX36 : List zk_Hd := []
set_option maxRecDepth 100000 in
theorem qk36 : zk_chk qK qP36 prog_14_method_24_code 1 qC36 none qH36 qX36 65 1 = true := by decide +kernel
set_option maxRecDepth 100000 in
/-- UnaskedLettersModel.textFault()I  -/
def qC37 : zk_C := ((8, [], [0], [(0, (2, 57, 0)), (1, (0, 0, 0)), (2, (0, 0, 0)), (3, (0, 0, 0)), (4, (0, 0, 0)), (5, (0, 0, 0)), (6, (0, 0, 0)), (7, (0, 0, 0))], [], [(0, 10, 1), (0, 11, 2), (0, 12, 3), (0, 15, 4), (0, 16, 5), (0, 17, 6), (0, 9, 7)], [], [], [], none), [(13, [], [8], [(0, (2, 57, 0)), (1, (0, 0, 0)), (2, (0, 0, 0)), (3, (0, 0, 0)), (4, (0, 0, 0)), (5, (0, 0, 0)), (6, (0, 0, 0)), (7, (0, 0, 0)), (8, (0, 0, 0)), (9, (0, 0, 0)), (10, (0, 0, 0)), (11, (0, 0, 0)), (12, (0, 0, 0))], [], [(0, 10, 8), (0, 11, 8), (0, 12, 9), (0, 15, 10), (0, 16, 11), (0, 17, 12), (0, 9, 7)], [], [], [], none)], [(57, 10), (57, 11), (57, 12), (57, 15), (57, 16), (57, 17)], 0, 0)
set_option maxRecDepth 100000 in
def qP37 : zk_P := ([(187, 12, 10, 0), (184, 12, 11, 0), (231, 12, 12, 0), (193, 12, 15, 0), (196, 12, 16, 0), (199, 12, 17, 2)], [], [], [], [], [(31, qC36)], [])
set_option maxRecDepth 100000 in
def qH37 : List zk_Hd := []
set_option maxRecDepth 100000 in
def qX37 : List zk_Hd := []
set_option maxRecDepth 100000 in
theorem qk37 : zk_chk qK qP37 prog_14_method_25_code 1 qC37 (some .int) qH37 qX37 87 0 = true := by decide +kernel
set_option maxRecDepth 100000 in
/-- UnaskedLettersModel.look()I  -/
def qC38 : zk_C := ((3, [], [0], [(0, (2, 57, 0)), (1, (0, 0, 0)), (2, (0, 0, 0))], [], [(0, 10, 1), (0, 9, 2)], [], [], [], none), [(4, [], [3], [(0, (2, 57, 0)), (1, (0, 0, 0)), (2, (0, 0, 0)), (3, (0, (-1), (-1)))], [], [(0, 10, 1), (0, 9, 2)], [], [], [], none)], [], 0, 0)
set_option maxRecDepth 100000 in
def qP38 : zk_P := ([(187, 12, 10, 0), (181, 12, 9, 0)], [], [], [], [], [(39, qC33)], [])
set_option maxRecDepth 100000 in
def qH38 : List zk_Hd := [(0, (3, [(0, 0)], [], [(0, (2, 57, 0)), (1, (0, 0, 0)), (2, (0, 0, 0))], [], [(0, 10, 1), (0, 9, 2)], [], [], [], none), [(1, none, none)], 0, 0)]
set_option maxRecDepth 100000 in
def qX38 : List zk_Hd := []
set_option maxRecDepth 100000 in
theorem qk38 : zk_chk qK qP38 prog_14_method_26_code 1 qC38 (some .int) qH38 qX38 68 1 = true := by decide +kernel
set_option maxRecDepth 100000 in
/-- UnaskedLettersModel.isLabel(I)Z UnaskedLettersModel.clause()V@6 -/
def qC39 : zk_C := ((1, [], [0], [(0, (0, (-1), (-1)))], [], [], [], [], [], none), [(2, [], [1], [(0, (0, (-1), (-1))), (1, (0, 0, 0))], [], [], [], [], [], none)], [], 0, 0)
set_option maxRecDepth 100000 in
def qP39 : zk_P := ([], [], [], [], [], [], [])
set_option maxRecDepth 100000 in
def qH39 : List zk_Hd := []
set_option maxRecDepth 100000 in
def qX39 : List zk_Hd := []
set_option maxRecDepth 100000 in
theorem qk39 : zk_chk qK qP39 prog_14_method_28_code 1 qC39 (some .boolean) qH39 qX39 74 0 = true := by decide +kernel
