/-! CONTRACTS: found by wip/an (python). -/
noncomputable section
set_option maxRecDepth 100000 in
/-- UnaskedLetters$RuleReader.readClause()Z  -/
def qC163 : zk_C := ((4, [], [0], [(0, (2, 18, 0)), (1, (2, 12, 0)), (2, (0, 0, 320)), (3, (0, 0, 160))], [], [(0, 1, 1), (0, 2, 2), (0, 3, 3)], [], [], [], none), [(7, [], [4], [(0, (2, 18, 0)), (1, (2, 12, 0)), (2, (0, 0, 320)), (3, (0, 0, 160)), (4, (0, 0, 0)), (5, (0, 0, 320)), (6, (0, 0, 160))], [], [(0, 1, 1), (0, 2, 5), (0, 3, 6)], [], [], [], none), (8, [], [4], [(0, (2, 18, 0)), (1, (2, 12, 0)), (2, (0, 0, 320)), (3, (0, 0, 158)), (4, (0, 1, 1)), (5, (0, 1, 320)), (6, (0, 2, 160)), (7, (0, 3, 160))], [], [(0, 1, 1), (0, 2, 5), (0, 3, 6), (1, 1, 7)], [], [], [], none)], [(18, 2), (18, 3), (20, 0)], 0, 0)
set_option maxRecDepth 100000 in
def qP163 : zk_P := ([(25, 6, 3, 0)], [], [], [], [(10, 2, (2, 121, 0))], [(1, qC36), (14, qC46), (38, qC47), (44, qC48), (53, qC36), (81, qC140), (94, qC36), (97, qC141), (106, qC162), (115, qC48), (127, qC47), (132, qC140), (144, qC47)], [])
set_option maxRecDepth 100000 in
def qH163 : List zk_Hd := []
set_option maxRecDepth 100000 in
def qX163 : List zk_Hd := []
set_option maxRecDepth 100000 in
theorem qk163 : zk_chk qK qP163 prog_8_method_7_code 4 qC163 (some .boolean) qH163 qX163 131 0 = true := zk_chkD_ok (T := qdt_8_7) qdo_8_7 (by decide +kernel)
set_option maxRecDepth 100000 in
/-- UnaskedLetters$RuleReader.faultOf(LUnaskedLetters$Tape;)I  -/
def qC164 : zk_C := ((2, [], [0, 1], [(0, (2, 18, 0)), (1, (2, 12, 0))], [], [], [], [], [], none), [(4, [], [2], [(0, (2, 18, 0)), (1, (2, 12, 0)), (2, (0, 0, 160)), (3, (0, 0, 320))], [], [(0, 1, 1), (0, 2, 3), (0, 3, 2)], [], [], [], none), (6, [], [2], [(0, (2, 18, 0)), (1, (2, 12, 0)), (2, (0, (-1), (-1))), (3, (0, 1, 320)), (4, (0, 2, 160)), (5, (0, 3, 160))], [], [(0, 1, 1), (0, 2, 3), (0, 3, 4), (1, 1, 5)], [], [], [], none)], [(18, 1), (18, 2), (18, 3), (20, 0)], 0, 0)
set_option maxRecDepth 100000 in
def qP164 : zk_P := ([(17, 6, 1, 3), (21, 6, 2, 0), (25, 6, 3, 0)], [], [], [], [], [(20, qC32), (40, qC163), (52, qC36), (69, qC32), (89, qC48)], [])
set_option maxRecDepth 100000 in
def qH164 : List zk_Hd := [(32, (5, [(0, 0), (2, 2)], [], [(0, (2, 18, 0)), (1, (2, 12, 0)), (2, (0, 0, 161)), (3, (0, 0, 320)), (4, (0, 0, 160))], [(2, 3, 160), (2, 4, 159)], [(0, 1, 1), (0, 2, 3), (0, 3, 4)], [], [], [], none), [(1, none, none), (162, none, some 2), (1, none, none)], 0, 0)]
set_option maxRecDepth 100000 in
def qX164 : List zk_Hd := []
set_option maxRecDepth 100000 in
theorem qk164 : zk_chk qK qP164 prog_8_method_2_code 3 qC164 (some .int) qH164 qX164 83 3 = true := zk_chkD_ok (T := qdt_8_2) qdo_8_2 (by decide +kernel)
set_option maxRecDepth 100000 in
/-- UnaskedLetters.fault(I)I  -/
def qC165 : zk_C := ((2, [], [0, 1], [(0, (2, 2, 0)), (1, (0, (-2147483648), 2147483647))], [], [], [], [], [], none), [(3, [], [2], [(0, (2, 2, 0)), (1, (0, (-2147483648), 2147483647)), (2, (0, (-2), 1000))], [], [], [], [], [], none)], [(18, 1), (18, 2), (18, 3), (20, 0)], 0, 0)
set_option maxRecDepth 100000 in
def qP165 : zk_P := ([(26, 11, 2, 4), (19, 11, 1, 4), (33, 11, 3, 4)], [], [], [], [], [(12, qC35), (29, qC164)], [])
set_option maxRecDepth 100000 in
def qH165 : List zk_Hd := []
set_option maxRecDepth 100000 in
def qX165 : List zk_Hd := []
set_option maxRecDepth 100000 in
theorem qk165 : zk_chk qK qP165 prog_1_method_8_code 2 qC165 (some .int) qH165 qX165 72 0 = true := zk_chkD_ok (T := qdt_1_8) qdo_1_8 (by decide +kernel)
set_option maxRecDepth 100000 in
/-- UnaskedLettersModel.next()I !s -/
def qC166 : zk_C := ((3, [], [0], [(0, (2, 57, 0)), (1, (0, 0, 160)), (2, (0, 0, 160))], [(1, 2, 0)], [(0, 10, 1), (0, 9, 2)], [], [], [], none), [(4, [], [3], [(0, (2, 57, 0)), (1, (0, 0, 160)), (2, (0, 0, 160)), (3, (0, (-1), (-1)))], [(1, 2, 0), (2, 1, 0)], [(0, 10, 1), (0, 9, 2)], [], [], [], none), (5, [], [3], [(0, (2, 57, 0)), (1, (0, 0, 159)), (2, (0, 1, 160)), (3, (0, 0, 255)), (4, (2, 64, 0))], [(1, 2, (-1))], [(0, 10, 1), (0, 8, 4), (0, 9, 2)], [], [], [(6, 4, 1, 3)], none)], [], 0, 0)
set_option maxRecDepth 100000 in
def qP166 : zk_P := ([(187, 12, 10, 0), (181, 12, 9, 0), (26, 12, 8, 4)], [], [], [], [], [], [])
set_option maxRecDepth 100000 in
def qH166 : List zk_Hd := []
set_option maxRecDepth 100000 in
def qX166 : List zk_Hd := []
set_option maxRecDepth 100000 in
theorem qk166 : zk_chk qK qP166 prog_14_method_15_code 1 qC166 (some .int) qH166 qX166 72 0 = true := zk_chkD_ok (T := qdt_14_15) qdo_14_15 (by decide +kernel)
set_option maxRecDepth 100000 in
/-- UnaskedLettersModel.see(I)V  -/
def qC167 : zk_C := ((3, [], [0, 1], [(0, (2, 57, 0)), (1, (0, (-1), 255)), (2, (0, 0, 159))], [], [(0, 15, 2)], [], [], [], none), [(4, [], [], [(0, (2, 57, 0)), (1, (0, (-1), 255)), (2, (0, 0, 159)), (3, (0, 1, 160))], [(2, 3, (-1)), (3, 2, 1)], [(0, 15, 3)], [], [], [], none)], [(57, 15), (65, 0)], 0, 0)
set_option maxRecDepth 100000 in
def qP167 : zk_P := ([(29, 12, 13, 4), (193, 12, 15, 0)], [], [], [], [], [], [])
set_option maxRecDepth 100000 in
def qH167 : List zk_Hd := []
set_option maxRecDepth 100000 in
def qX167 : List zk_Hd := []
set_option maxRecDepth 100000 in
theorem qk167 : zk_chk qK qP167 prog_14_method_19_code 2 qC167 none qH167 qX167 73 0 = true := zk_chkD_ok (T := qdt_14_19) qdo_14_19 (by decide +kernel)
set_option maxRecDepth 100000 in
/-- UnaskedLettersModel.seeFull(I)V  -/
def qC168 : zk_C := ((3, [], [0, 1], [(0, (2, 57, 0)), (1, (0, 0, 255)), (2, (0, 0, 159))], [], [(0, 16, 2)], [], [], [], none), [(4, [], [], [(0, (2, 57, 0)), (1, (0, 0, 255)), (2, (0, 0, 159)), (3, (0, 1, 160))], [(2, 3, (-1)), (3, 2, 1)], [(0, 16, 3)], [], [], [(2, 1, 48, 0), (2, 1, 49, 0), (2, 1, 51, 0), (2, 1, 53, 0)], none), (4, [], [], [(0, (2, 57, 0)), (1, (0, 53, 53)), (2, (0, 0, 159)), (3, (0, 1, 160))], [(2, 3, (-1)), (3, 2, 1)], [(0, 16, 3)], [], [], [], none), (4, [], [], [(0, (2, 57, 0)), (1, (0, 51, 51)), (2, (0, 0, 159)), (3, (0, 1, 160))], [(2, 3, (-1)), (3, 2, 1)], [(0, 16, 3)], [], [], [], none), (4, [], [], [(0, (2, 57, 0)), (1, (0, 49, 49)), (2, (0, 0, 159)), (3, (0, 1, 160))], [(2, 3, (-1)), (3, 2, 1)], [(0, 16, 3)], [], [], [], none), (4, [], [], [(0, (2, 57, 0)), (1, (0, 48, 48)), (2, (0, 0, 159)), (3, (0, 1, 160))], [(2, 3, (-1)), (3, 2, 1)], [(0, 16, 3)], [], [], [], none)], [(57, 16), (66, 0)], 0, 0)
set_option maxRecDepth 100000 in
def qP168 : zk_P := ([(32, 12, 14, 4), (196, 12, 16, 0)], [], [], [], [], [], [])
set_option maxRecDepth 100000 in
def qH168 : List zk_Hd := []
set_option maxRecDepth 100000 in
def qX168 : List zk_Hd := []
set_option maxRecDepth 100000 in
theorem qk168 : zk_chk qK qP168 prog_14_method_20_code 2 qC168 none qH168 qX168 86 0 = true := zk_chkD_ok (T := qdt_14_20) qdo_14_20 (by decide +kernel)
set_option maxRecDepth 100000 in
/-- UnaskedLettersModel.isFigure(I)Z  -/
def qC169 : zk_C := ((1, [], [0], [(0, (0, (-2147483648), 2147483647))], [], [], [], [], [], none), [(2, [], [1], [(0, (0, (-2147483648), 47)), (1, (0, 0, 0))], [], [], [], [], [], none), (2, [], [1], [(0, (0, 58, 2147483647)), (1, (0, 0, 0))], [], [], [], [], [], none), (2, [], [1], [(0, (0, 48, 57)), (1, (0, 1, 1))], [], [], [], [], [], none)], [], 0, 0)
set_option maxRecDepth 100000 in
def qP169 : zk_P := ([], [], [], [], [], [], [])
set_option maxRecDepth 100000 in
def qH169 : List zk_Hd := []
set_option maxRecDepth 100000 in
def qX169 : List zk_Hd := []
set_option maxRecDepth 100000 in
theorem qk169 : zk_chk qK qP169 prog_14_method_16_code 1 qC169 (some .boolean) qH169 qX169 69 0 = true := zk_chkD_ok (T := qdt_14_16) qdo_14_16 (by decide +kernel)
set_option maxRecDepth 100000 in
/-- UnaskedLettersModel.isWord(I)Z  -/
def qC170 : zk_C := ((1, [], [0], [(0, (0, (-2147483648), 2147483647))], [], [], [], [], [], none), [(2, [], [1], [(0, (0, 48, 122)), (1, (0, 1, 1))], [], [], [], [], [], none), (2, [], [1], [(0, (0, (-2147483648), 2147483647)), (1, (0, 0, 0))], [], [], [], [], [], none)], [], 0, 0)
set_option maxRecDepth 100000 in
def qP170 : zk_P := ([], [], [], [], [], [(13, qC169)], [])
set_option maxRecDepth 100000 in
def qH170 : List zk_Hd := []
set_option maxRecDepth 100000 in
def qX170 : List zk_Hd := []
set_option maxRecDepth 100000 in
theorem qk170 : zk_chk qK qP170 prog_14_method_17_code 1 qC170 (some .boolean) qH170 qX170 71 0 = true := zk_chkD_ok (T := qdt_14_17) qdo_14_17 (by decide +kernel)
set_option maxRecDepth 100000 in
/-- UnaskedLettersModel.hex(I)I  -/
def qC171 : zk_C := ((1, [], [0], [(0, (0, (-1), 255))], [], [], [], [], [], none), [(2, [], [1], [(0, (0, (-1), 255)), (1, (0, (-1), (-1)))], [], [], [], [], [], none), (2, [], [1], [(0, (0, 48, 102)), (1, (0, 0, 15))], [(0, 1, 87), (1, 0, (-48))], [], [], [], [], none)], [], 0, 0)
set_option maxRecDepth 100000 in
def qP171 : zk_P := ([], [], [], [], [], [(1, qC169)], [])
set_option maxRecDepth 100000 in
def qH171 : List zk_Hd := []
set_option maxRecDepth 100000 in
def qX171 : List zk_Hd := []
set_option maxRecDepth 100000 in
theorem qk171 : zk_chk qK qP171 prog_14_method_18_code 1 qC171 (some .int) qH171 qX171 76 0 = true := zk_chkD_ok (T := qdt_14_18) qdo_14_18 (by decide +kernel)
set_option maxRecDepth 100000 in
/-- UnaskedLettersModel.bad()V  -/
def qC172 : zk_C := ((3, [], [0], [(0, (2, 57, 0)), (1, (0, 0, 166)), (2, (0, (-1), 166))], [(2, 1, 0)], [(0, 10, 1), (0, 11, 2)], [], [], [], none), [(3, [], [], [(0, (2, 57, 0)), (1, (0, 0, 166)), (2, (0, 0, 166))], [(2, 1, 0)], [(0, 10, 1), (0, 11, 2)], [], [], [], none), (3, [], [], [(0, (2, 57, 0)), (1, (0, 0, 166)), (2, (0, (-1), (-1)))], [], [(0, 10, 1), (0, 11, 1)], [], [], [], none)], [(57, 11)], 0, 0)
set_option maxRecDepth 100000 in
def qP172 : zk_P := ([(184, 12, 11, 0), (187, 12, 10, 0)], [], [], [], [], [], [])
set_option maxRecDepth 100000 in
def qH172 : List zk_Hd := []
set_option maxRecDepth 100000 in
def qX172 : List zk_Hd := []
set_option maxRecDepth 100000 in
theorem qk172 : zk_chk qK qP172 prog_14_method_14_code 1 qC172 none qH172 qX172 70 0 = true := zk_chkD_ok (T := qdt_14_14) qdo_14_14 (by decide +kernel)
set_option maxRecDepth 100000 in
/-- UnaskedLettersModel.hexAt()I  -/
def qC173 : zk_C := ((6, [], [0], [(0, (2, 57, 0)), (1, (0, 2, 160)), (2, (0, (-1), 160)), (3, (0, 1, 160)), (4, (2, 64, 0)), (5, (0, 2, 160))], [(2, 1, 0), (2, 5, 0), (3, 5, 0), (1, 5, 0), (3, 1, 0)], [(0, 10, 1), (0, 11, 2), (0, 15, 3), (0, 8, 4), (0, 9, 5)], [], [], [], none), [(9, [], [6], [(0, (2, 57, 0)), (1, (0, 2, 160)), (2, (0, (-1), 160)), (3, (0, 1, 160)), (4, (2, 64, 0)), (5, (0, 2, 160)), (6, (0, 0, 0)), (7, (0, 0, 160)), (8, (2, 64, 0))], [(1, 5, 0), (2, 1, 0), (2, 5, 0), (2, 7, 0), (3, 1, 0), (3, 5, 0), (7, 1, 0), (7, 5, 0)], [(0, 10, 1), (0, 11, 7), (0, 15, 3), (0, 8, 8), (0, 9, 5)], [], [], [], none), (10, [], [6], [(0, (2, 57, 0)), (1, (0, 2, 159)), (2, (0, (-1), (-1))), (3, (0, 1, 159)), (4, (2, 64, 0)), (5, (0, 3, 160)), (6, (0, 0, 15)), (7, (0, 3, 160)), (8, (0, 2, 160)), (9, (2, 64, 0))], [(1, 5, (-1)), (1, 7, (-1)), (3, 1, 0), (3, 5, (-1)), (3, 7, (-1)), (3, 8, (-1)), (7, 1, 1), (7, 5, 0), (8, 1, 1), (8, 3, 1), (8, 5, 0), (8, 7, 0)], [(0, 10, 7), (0, 11, 2), (0, 15, 8), (0, 8, 9), (0, 9, 5)], [], [], [], none)], [(57, 10), (57, 11), (57, 15), (65, 0)], 0, 0)
set_option maxRecDepth 100000 in
def qP173 : zk_P := ([(184, 12, 11, 0), (187, 12, 10, 0)], [], [], [], [], [(1, qC166), (4, qC171), (22, qC172), (29, qC166), (32, qC167)], [])
set_option maxRecDepth 100000 in
def qH173 : List zk_Hd := []
set_option maxRecDepth 100000 in
def qX173 : List zk_Hd := []
set_option maxRecDepth 100000 in
theorem qk173 : zk_chk qK qP173 prog_14_method_22_code 2 qC173 (some .int) qH173 qX173 83 0 = true := zk_chkD_ok (T := qdt_14_22) qdo_14_22 (by decide +kernel)
end
