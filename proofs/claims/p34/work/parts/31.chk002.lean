/-! CONTRACTS: found by wip/an (python). -/
set_option maxRecDepth 100000 in
/-- UnaskedLetters$Tape.bytesIn(I)I  -/
def qC28 : zk_C := ((1, [], [0], [(0, (0, (-2147483648), 2147483647))], [], [], [], [], [], none), [(2, [], [1], [(0, (0, (-2147483648), 2147483647)), (1, (0, 0, 4))], [], [], [], [], [], none)], [], 0, 0)
set_option maxRecDepth 100000 in
def qP28 : zk_P := ([], [], [], [], [], [], [])
set_option maxRecDepth 100000 in
def qH28 : List zk_Hd := []
set_option maxRecDepth 100000 in
def qX28 : List zk_Hd := []
set_option maxRecDepth 100000 in
theorem qk28 : zk_chk qK qP28 prog_10_method_2_code 3 qC28 (some .int) qH28 qX28 128 0 = true := zk_chkD_ok (T := qdt_10_2) qdo_10_2 (by decide +kernel)
set_option maxRecDepth 100000 in
/-- UnaskedLetters$Tape.put(I)V  -/
def qC29 : zk_C := ((3, [], [0, 1], [(0, (2, 12, 0)), (1, (0, (-2147483648), 2147483647)), (2, (0, 0, 160))], [], [(0, 1, 2)], [], [], [], none), [(4, [], [], [(0, (2, 12, 0)), (1, (0, (-2147483648), 2147483647)), (2, (0, 0, 160)), (3, (0, 0, 160))], [(2, 3, 0)], [(0, 1, 3)], [], [], [], none)], [(12, 1), (14, 0)], 0, 0)
set_option maxRecDepth 100000 in
def qP29 : zk_P := ([(15, 8, 1, 0), (11, 8, 0, 4)], [], [], [], [], [], [])
set_option maxRecDepth 100000 in
def qH29 : List zk_Hd := [(3, (5, [(0, 0), (1, 1), (2, 3)], [], [(0, (2, 12, 0)), (1, (0, (-2147483648), 2147483647)), (2, (0, 0, 160)), (3, (0, (-8), 24)), (4, (0, 0, 160))], [(2, 4, 0)], [(0, 1, 4)], [], [], [], none), [(1, none, none), (9, some 3, none), (1, none, none)], 0, 0)]
set_option maxRecDepth 100000 in
def qX29 : List zk_Hd := []
set_option maxRecDepth 100000 in
theorem qk29 : zk_chk qK qP29 prog_10_method_3_code 4 qC29 none qH29 qX29 90 3 = true := zk_chkD_ok (T := qdt_10_3) qdo_10_3 (by decide +kernel)
set_option maxRecDepth 100000 in
/-- UnaskedLetters.feed(IIIII)I  -/
def qC30 : zk_C := ((6, [], [0, 1, 2, 3, 4, 5], [(0, (2, 2, 0)), (1, (0, (-2147483648), 2147483647)), (2, (0, (-2147483648), 2147483647)), (3, (0, (-2147483648), 2147483647)), (4, (0, (-2147483648), 2147483647)), (5, (0, (-2147483648), 2147483647))], [], [], [], [], [], none), [(9, [], [6], [(0, (2, 2, 0)), (1, (0, (-2147483648), 2147483647)), (2, (0, (-2147483648), 2147483647)), (3, (0, (-2147483648), 2147483647)), (4, (0, (-2147483648), 2147483647)), (5, (0, (-2147483648), 2147483647)), (6, (0, (-1), 160)), (7, (2, 12, 0)), (8, (0, 0, 160))], [(6, 8, 0)], [(0, 1, 7), (7, 1, 8)], [], [], [], none)], [(12, 1), (14, 0)], 0, 0)
set_option maxRecDepth 100000 in
def qP30 : zk_P := ([(19, 11, 1, 4), (120, 8, 1, 0)], [], [], [], [], [(1, qC28), (5, qC28), (10, qC28), (16, qC28), (22, qC28), (51, qC29), (59, qC29), (67, qC29), (76, qC29), (85, qC29)], [])
set_option maxRecDepth 100000 in
def qH30 : List zk_Hd := []
set_option maxRecDepth 100000 in
def qX30 : List zk_Hd := []
set_option maxRecDepth 100000 in
theorem qk30 : zk_chk qK qP30 prog_1_method_6_code 7 qC30 (some .int) qH30 qX30 106 0 = true := zk_chkD_ok (T := qdt_1_6) qdo_1_6 (by decide +kernel)
set_option maxRecDepth 100000 in
/-- UnaskedLettersModel.feed(IIIII)I  -/
def qC31 : zk_C := ((6, [], [0, 1, 2, 3, 4, 5], [(0, (2, 57, 0)), (1, (0, (-2147483648), 2147483647)), (2, (0, (-2147483648), 2147483647)), (3, (0, (-2147483648), 2147483647)), (4, (0, (-2147483648), 2147483647)), (5, (0, (-2147483648), 2147483647))], [], [], [], [], [], none), [(7, [], [6], [(6, (0, (-2147483648), 2147483647))], [], [], [], [], [], none)], [(57, 9), (64, 0)], 0, 0)
set_option maxRecDepth 100000 in
/-- UnaskedLetters.end(I)Z  -/
def qC32 : zk_C := ((2, [], [0, 1], [(0, (2, 2, 0)), (1, (0, (-2147483648), 2147483647))], [], [], [], [], [], none), [(3, [], [2], [(0, (2, 2, 0)), (1, (0, (-2147483648), 2147483647)), (2, (0, 0, 1))], [], [], [], [], [], none)], [(12, 1)], 0, 0)
set_option maxRecDepth 100000 in
def qP32 : zk_P := ([(19, 11, 1, 4), (120, 8, 1, 0)], [], [], [], [], [], [])
set_option maxRecDepth 100000 in
def qH32 : List zk_Hd := []
set_option maxRecDepth 100000 in
def qX32 : List zk_Hd := []
set_option maxRecDepth 100000 in
theorem qk32 : zk_chk qK qP32 prog_1_method_7_code 2 qC32 (some .boolean) qH32 qX32 73 0 = true := zk_chkD_ok (T := qdt_1_7) qdo_1_7 (by decide +kernel)
set_option maxRecDepth 100000 in
/-- UnaskedLettersModel.end(I)Z  -/
def qC33 : zk_C := ((2, [], [0, 1], [(0, (2, 57, 0)), (1, (0, (-2147483648), 2147483647))], [], [], [], [], [], none), [(3, [], [2], [(0, (2, 57, 0)), (1, (0, (-2147483648), 2147483647)), (2, (0, 0, 1))], [], [], [], [], [], none)], [(57, 9)], 0, 0)
set_option maxRecDepth 100000 in
def qP33 : zk_P := ([(181, 12, 9, 0)], [], [], [], [], [], [])
set_option maxRecDepth 100000 in
def qH33 : List zk_Hd := []
set_option maxRecDepth 100000 in
def qX33 : List zk_Hd := []
set_option maxRecDepth 100000 in
theorem qk33 : zk_chk qK qP33 prog_14_method_13_code 2 qC33 (some .boolean) qH33 qX33 71 0 = true := zk_chkD_ok (T := qdt_14_13) qdo_14_13 (by decide +kernel)
set_option maxRecDepth 100000 in
/-- UnaskedLetters$Tape.at(I)I  -/
def qC34 : zk_C := ((2, [], [0, 1], [(0, (2, 12, 0)), (1, (0, 0, 1000))], [], [], [], [], [], none), [(3, [], [2], [(0, (2, 12, 0)), (1, (0, 0, 1000)), (2, (0, (-1), (-1)))], [], [], [], [], [], none), (4, [], [2], [(0, (2, 12, 0)), (1, (0, 0, 159)), (2, (0, 0, 255)), (3, (0, 1, 160))], [(1, 3, (-1))], [(0, 1, 3)], [], [], [], none)], [], 0, 0)
set_option maxRecDepth 100000 in
def qP34 : zk_P := ([(15, 8, 1, 0), (11, 8, 0, 4)], [], [], [], [], [], [])
set_option maxRecDepth 100000 in
def qH34 : List zk_Hd := []
set_option maxRecDepth 100000 in
def qX34 : List zk_Hd := []
set_option maxRecDepth 100000 in
theorem qk34 : zk_chk qK qP34 prog_10_method_4_code 2 qC34 (some .int) qH34 qX34 72 0 = true := zk_chkD_ok (T := qdt_10_4) qdo_10_4 (by decide +kernel)
