/-! CONTRACTS: found by wip/an (python). -/
set_option maxRecDepth 100000 in
/-- UnaskedLettersModel.give(II)Z  -/
def qC553 : zk_C := ((3, [], [0, 1, 2], [(0, (2, 57, 0)), (1, (0, (-2147483648), 2147483647)), (2, (0, (-2147483648), 2147483647))], [], [], [], [], [], none), [(4, [], [3], [(0, (2, 57, 0)), (1, (0, (-2147483648), 2147483647)), (2, (0, (-2147483648), 2147483647)), (3, (0, 0, 1))], [], [], [], [], [], none)], [(63, 0)], 0, 0)
set_option maxRecDepth 100000 in
def qP553 : zk_P := ([(23, 12, 5, 4)], [], [], [], [], [(2, qC468), (13, qC552)], [])
set_option maxRecDepth 100000 in
def qH553 : List zk_Hd := []
set_option maxRecDepth 100000 in
def qX553 : List zk_Hd := []
set_option maxRecDepth 100000 in
theorem qk553 : zk_chk qK qP553 prog_14_method_10_code 3 qC553 (some .boolean) qH553 qX553 79 0 = true := zk_chkD_ok (T := qdt_14_10) qdo_14_10 (by decide +kernel)
set_option maxRecDepth 100000 in
/-- UnaskedLetters$Net.clearReached()V  -/
def qC554 : zk_C := ((1, [], [0], [(0, (2, 4, 0))], [], [], [], [], [], none), [(1, [], [], [(0, (2, 4, 0))], [], [], [], [], [], none)], [(11, 0)], 0, 0)
set_option maxRecDepth 100000 in
def qP554 : zk_P := ([(35, 4, 7, 0), (28, 4, 5, 4)], [], [], [], [], [], [])
set_option maxRecDepth 100000 in
def qH554 : List zk_Hd := [(2, (2, [(0, 0), (1, 1)], [], [(0, (2, 4, 0)), (1, (0, 0, 40))], [], [], [], [], [], none), [(1, none, none), (41, none, some 1), (1, none, none)], 0, 0)]
set_option maxRecDepth 100000 in
def qX554 : List zk_Hd := []
set_option maxRecDepth 100000 in
theorem qk554 : zk_chk qK qP554 prog_6_method_8_code 2 qC554 none qH554 qX554 72 3 = true := zk_chkD_ok (T := qdt_6_8) qdo_6_8 (by decide +kernel)
set_option maxRecDepth 100000 in
/-- UnaskedLetters$Net.explains(I)Z  -/
def qC555 : zk_C := ((2, [], [0, 1], [(0, (2, 4, 0)), (1, (0, 0, 1000))], [], [], [], [], [], none), [(3, [], [2], [(0, (2, 4, 0)), (1, (0, 0, 1000)), (2, (0, 1, 1))], [], [], [], [], [], none), (4, [], [2], [(0, (2, 4, 0)), (1, (0, 0, 1000)), (2, (0, 0, 0)), (3, (0, 1, 40))], [], [(0, 7, 3)], [], [], [], none)], [], 0, 0)
set_option maxRecDepth 100000 in
def qP555 : zk_P := ([(35, 4, 7, 0), (28, 4, 5, 4), (25, 4, 4, 4)], [], [], [], [], [], [])
set_option maxRecDepth 100000 in
def qH555 : List zk_Hd := [(2, (3, [(0, 0), (1, 1), (2, 2)], [], [(0, (2, 4, 0)), (1, (0, 0, 1000)), (2, (0, 0, 40))], [], [], [], [], [], none), [(1, none, none), (41, none, some 2), (1, none, none)], 0, 0)]
set_option maxRecDepth 100000 in
def qX555 : List zk_Hd := []
set_option maxRecDepth 100000 in
theorem qk555 : zk_chk qK qP555 prog_6_method_9_code 3 qC555 (some .boolean) qH555 qX555 79 3 = true := zk_chkD_ok (T := qdt_6_9) qdo_6_9 (by decide +kernel)
set_option maxRecDepth 100000 in
/-- java/lang/Integer.bitCount(I)I UnaskedLetters.isAhead(II)Z@1 -/
def qC556 : zk_C := ((1, [], [0], [(0, (0, 0, 255))], [], [], [], [], [], none), [(2, [], [1], [(0, (0, 0, 255)), (1, (0, 0, 63))], [], [], [], [], [], none)], [], 0, 0)
set_option maxRecDepth 100000 in
def qP556 : zk_P := ([], [], [], [], [(4, 3, (0, 1431655765, 1431655765)), (11, 3, (0, 858993459, 858993459)), (18, 3, (0, 858993459, 858993459)), (29, 3, (0, 252645135, 252645135))], [], [])
set_option maxRecDepth 100000 in
def qH556 : List zk_Hd := []
set_option maxRecDepth 100000 in
def qX556 : List zk_Hd := []
set_option maxRecDepth 100000 in
theorem qk556 : zk_chk qK qP556 prog_17_method_49_code 1 qC556 (some .int) qH556 qX556 102 0 = true := zk_chkD_ok (T := qdt_17_49) qdo_17_49 (by decide +kernel)
set_option maxRecDepth 100000 in
/-- java/lang/Integer.bitCount(I)I UnaskedLetters.isAhead(II)Z@6 -/
def qC557 : zk_C := ((1, [], [0], [(0, (0, 0, 288))], [], [], [], [], [], none), [(2, [], [1], [(0, (0, 0, 288)), (1, (0, 0, 63))], [], [], [], [], [], none)], [], 0, 0)
set_option maxRecDepth 100000 in
def qP557 : zk_P := ([], [], [], [], [(4, 3, (0, 1431655765, 1431655765)), (11, 3, (0, 858993459, 858993459)), (18, 3, (0, 858993459, 858993459)), (29, 3, (0, 252645135, 252645135))], [], [])
set_option maxRecDepth 100000 in
def qH557 : List zk_Hd := []
set_option maxRecDepth 100000 in
def qX557 : List zk_Hd := []
set_option maxRecDepth 100000 in
theorem qk557 : zk_chk qK qP557 prog_17_method_49_code 1 qC557 (some .int) qH557 qX557 102 0 = true := zk_chkD_ok (T := qdt_17_49) qdo_17_49 (by decide +kernel)
set_option maxRecDepth 100000 in
/-- UnaskedLetters.isAhead(II)Z  -/
def qC558 : zk_C := ((2, [], [0, 1], [(0, (0, 0, 255)), (1, (0, 0, 288))], [], [], [], [], [], none), [(3, [], [2], [(0, (0, 0, 255)), (1, (0, 0, 288)), (2, (0, 0, 0))], [], [], [], [], [], none), (3, [], [2], [(0, (0, 0, 255)), (1, (0, 0, 288)), (2, (0, 1, 1))], [], [], [], [], [], none)], [], 0, 0)
set_option maxRecDepth 100000 in
def qP558 : zk_P := ([], [], [], [], [], [(1, qC556), (6, qC557)], [])
set_option maxRecDepth 100000 in
def qH558 : List zk_Hd := []
set_option maxRecDepth 100000 in
def qX558 : List zk_Hd := []
set_option maxRecDepth 100000 in
theorem qk558 : zk_chk qK qP558 prog_1_method_45_code 5 qC558 (some .boolean) qH558 qX558 83 0 = true := zk_chkD_ok (T := qdt_1_45) qdo_1_45 (by decide +kernel)
set_option maxRecDepth 100000 in
/-- UnaskedLetters.spread(I)I  -/
def qC559 : zk_C := ((2, [], [0, 1], [(0, (2, 2, 0)), (1, (0, (-2147483648), 2147483647))], [], [], [], [], [], none), [(4, [], [2], [(0, (2, 2, 0)), (1, (0, (-2147483648), 2147483647)), (2, (0, (-1), 255)), (3, (2, 4, 0))], [], [(0, 0, 3)], [], [], [], none)], [(11, 0)], 0, 0)
set_option maxRecDepth 100000 in
def qP559 : zk_P := ([(10, 11, 0, 4), (181, 11, 15, 0), (316, 4, 2, 4), (60, 11, 7, 4), (247, 1, 0, 4), (328, 4, 5, 4), (250, 1, 1, 4)], [], [], [], [], [(5, qC16), (17, qC554), (53, qC503), (99, qC555), (112, qC558)], [])
set_option maxRecDepth 100000 in
def qH559 : List zk_Hd := [(22, (5, [(0, 0), (1, 1), (2, 2)], [], [(0, (2, 2, 0)), (1, (0, 0, 11)), (2, (0, 0, 120)), (3, (2, 4, 0)), (4, (0, 1, 12))], [(1, 4, (-1))], [(0, 0, 3), (3, 6, 4)], [], [], [], none), [(2, none, none), (121, none, some 2), (1, none, none)], 0, 0), (87, (7, [(0, 0), (2, 2), (3, 3)], [], [(0, (2, 2, 0)), (1, (0, 0, 11)), (2, (0, (-1), 255)), (3, (0, 0, 256)), (4, (2, 4, 0)), (5, (0, 0, 120)), (6, (0, 1, 12))], [(1, 6, (-1)), (2, 3, (-1))], [(0, 0, 4), (0, 15, 5), (4, 6, 6)], [], [], [], none), [(1, none, none), (257, none, some 3), (1, none, none)], 0, 0)]
set_option maxRecDepth 100000 in
def qX559 : List zk_Hd := []
set_option maxRecDepth 100000 in
theorem qk559 : zk_chk qK qP559 prog_1_method_31_code 4 qC559 (some .int) qH559 qX559 92 3 = true := zk_chkD_ok (T := qdt_1_31) qdo_1_31 (by decide +kernel)
set_option maxRecDepth 100000 in
/-- java/lang/Integer.bitCount(I)I UnaskedLettersModel.spread(I)I@45 -/
def qC560 : zk_C := ((1, [], [0], [(0, (0, 0, 1000))], [], [], [], [], [], none), [(2, [], [1], [(0, (0, 0, 1000)), (1, (0, 0, 63))], [], [], [], [], [], none)], [], 0, 0)
set_option maxRecDepth 100000 in
def qP560 : zk_P := ([], [], [], [], [(4, 3, (0, 1431655765, 1431655765)), (11, 3, (0, 858993459, 858993459)), (18, 3, (0, 858993459, 858993459)), (29, 3, (0, 252645135, 252645135))], [], [])
set_option maxRecDepth 100000 in
def qH560 : List zk_Hd := []
set_option maxRecDepth 100000 in
def qX560 : List zk_Hd := []
set_option maxRecDepth 100000 in
theorem qk560 : zk_chk qK qP560 prog_17_method_49_code 1 qC560 (some .int) qH560 qX560 102 0 = true := zk_chkD_ok (T := qdt_17_49) qdo_17_49 (by decide +kernel)
set_option maxRecDepth 100000 in
/-- java/lang/Integer.bitCount(I)I UnaskedLettersModel.spread(I)I@49 -/
def qC561 : zk_C := ((1, [], [0], [(0, (0, 1, 255))], [], [], [], [], [], none), [(2, [], [1], [(0, (0, 1, 255)), (1, (0, 0, 63))], [], [], [], [], [], none)], [], 0, 0)
set_option maxRecDepth 100000 in
def qP561 : zk_P := ([], [], [], [], [(4, 3, (0, 1431655765, 1431655765)), (11, 3, (0, 858993459, 858993459)), (18, 3, (0, 858993459, 858993459)), (29, 3, (0, 252645135, 252645135))], [], [])
set_option maxRecDepth 100000 in
def qH561 : List zk_Hd := []
set_option maxRecDepth 100000 in
def qX561 : List zk_Hd := []
set_option maxRecDepth 100000 in
theorem qk561 : zk_chk qK qP561 prog_17_method_49_code 1 qC561 (some .int) qH561 qX561 102 0 = true := zk_chkD_ok (T := qdt_17_49) qdo_17_49 (by decide +kernel)
set_option maxRecDepth 100000 in
/-- UnaskedLettersModel.explains(II)Z  -/
def qC562 : zk_C := ((3, [], [0, 1, 2], [(0, (2, 57, 0)), (1, (0, 0, 1000)), (2, (0, 0, 11))], [], [], [], [], [], none), [(4, [], [3], [(0, (2, 57, 0)), (1, (0, 0, 1000)), (2, (0, 0, 11)), (3, (0, 1, 1))], [], [], [], [], [], none), (5, [], [3], [(0, (2, 57, 0)), (1, (0, 0, 1000)), (2, (0, 0, 11)), (3, (0, 0, 0)), (4, (0, 1, 120))], [], [(0, 44, 4)], [], [], [], none)], [], 0, 0)
set_option maxRecDepth 100000 in
def qP562 : zk_P := ([(341, 12, 44, 0), (16, 12, 3, 4), (75, 12, 35, 4), (78, 12, 36, 4), (23, 12, 5, 4)], [], [], [], [], [(39, qC519)], [])
set_option maxRecDepth 100000 in
def qH562 : List zk_Hd := [(2, (4, [(0, 0), (1, 1), (2, 2), (3, 3)], [], [(0, (2, 57, 0)), (1, (0, 0, 1000)), (2, (0, 0, 11)), (3, (0, 0, 120))], [], [], [], [], [], none), [(1, none, none), (121, none, some 3), (1, none, none)], 0, 0)]
set_option maxRecDepth 100000 in
def qX562 : List zk_Hd := []
set_option maxRecDepth 100000 in
theorem qk562 : zk_chk qK qP562 prog_14_method_90_code 4 qC562 (some .boolean) qH562 qX562 98 3 = true := zk_chkD_ok (T := qdt_14_90) qdo_14_90 (by decide +kernel)
