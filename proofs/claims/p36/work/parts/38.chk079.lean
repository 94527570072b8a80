/-! CONTRACTS: found by wip/an (python). -/
set_option maxRecDepth 100000 in
/-- UnaskedLettersModel.unlike(I)I  -/
def qC488 : zk_C := ((2, [], [0, 1], [(0, (2, 57, 0)), (1, (0, (-2147483648), 2147483647))], [], [], [], [], [], none), [(3, [], [2], [(0, (2, 57, 0)), (1, (0, (-2147483648), 2147483647)), (2, (0, (-1), 82))], [], [], [], [], [], none)], [], 0, 0)
set_option maxRecDepth 100000 in
def qP488 : zk_P := ([(69, 12, 33, 4), (72, 12, 34, 4)], [], [], [], [], [(2, qC477), (22, qC487), (37, qC483), (44, qC483)], [])
set_option maxRecDepth 100000 in
def qH488 : List zk_Hd := [(28, (4, [(0, 0), (1, 1), (2, 2), (3, 3)], [], [(0, (2, 57, 0)), (1, (0, 0, 119)), (2, (0, 0, 82)), (3, (0, 0, 82))], [(3, 2, 0)], [], [], [], [], none), [(1, none, none), (83, none, some 3), (1, none, none)], 0, 0)]
set_option maxRecDepth 100000 in
def qX488 : List zk_Hd := []
set_option maxRecDepth 100000 in
theorem qk488 : zk_chk qK qP488 prog_14_method_59_code 4 qC488 (some .int) qH488 qX488 78 3 = true := zk_chkD_ok (T := qdt_14_59) qdo_14_59 (by decide +kernel)
set_option maxRecDepth 100000 in
/-- UnaskedLetters.letter(II)I  -/
def qC489 : zk_C := ((3, [], [0, 1, 2], [(0, (2, 2, 0)), (1, (0, (-2147483648), 2147483647)), (2, (0, (-2147483648), 2147483647))], [], [], [], [], [], none), [(4, [], [3], [(0, (2, 2, 0)), (1, (0, (-2147483648), 2147483647)), (2, (0, (-2147483648), 2147483647)), (3, (0, (-2147483648), 2147483647))], [], [], [], [], [], none)], [], 0, 0)
set_option maxRecDepth 100000 in
def qP489 : zk_P := ([(235, 1, 5, 0), (238, 1, 6, 0), (241, 1, 7, 0), (244, 1, 4, 4), (247, 1, 0, 4), (250, 1, 1, 4)], [], [], [], [], [(2, qC474)], [])
set_option maxRecDepth 100000 in
def qH489 : List zk_Hd := []
set_option maxRecDepth 100000 in
def qX489 : List zk_Hd := []
set_option maxRecDepth 100000 in
theorem qk489 : zk_chk qK qP489 prog_1_method_19_code 4 qC489 (some .int) qH489 qX489 71 0 = true := zk_chkD_ok (T := qdt_1_19) qdo_1_19 (by decide +kernel)
set_option maxRecDepth 100000 in
/-- UnaskedLettersModel.letter(II)I  -/
def qC490 : zk_C := ((3, [], [0, 1, 2], [(0, (2, 57, 0)), (1, (0, (-2147483648), 2147483647)), (2, (0, (-2147483648), 2147483647))], [], [], [], [], [], none), [(4, [], [3], [(0, (2, 57, 0)), (1, (0, (-2147483648), 2147483647)), (2, (0, (-2147483648), 2147483647)), (3, (0, (-2147483648), 2147483647))], [], [], [], [], [], none)], [], 0, 0)
set_option maxRecDepth 100000 in
def qP490 : zk_P := ([(90, 12, 40, 4), (93, 12, 41, 4), (96, 12, 42, 4), (87, 12, 39, 4), (75, 12, 35, 4), (78, 12, 36, 4)], [], [], [], [], [(2, qC477)], [])
set_option maxRecDepth 100000 in
def qH490 : List zk_Hd := []
set_option maxRecDepth 100000 in
def qX490 : List zk_Hd := []
set_option maxRecDepth 100000 in
theorem qk490 : zk_chk qK qP490 prog_14_method_60_code 3 qC490 (some .int) qH490 qX490 71 0 = true := zk_chkD_ok (T := qdt_14_60) qdo_14_60 (by decide +kernel)
set_option maxRecDepth 100000 in
/-- UnaskedLetters.why(I)I  -/
def qC491 : zk_C := ((2, [], [0, 1], [(0, (2, 2, 0)), (1, (0, (-2147483648), 2147483647))], [], [], [], [], [], none), [(3, [], [2], [(0, (2, 2, 0)), (1, (0, (-2147483648), 2147483647)), (2, (0, (-2147483648), 2147483647))], [], [], [], [], [], none)], [], 0, 0)
set_option maxRecDepth 100000 in
def qP491 : zk_P := ([(253, 1, 8, 0)], [], [], [], [], [(2, qC474)], [])
set_option maxRecDepth 100000 in
def qH491 : List zk_Hd := []
set_option maxRecDepth 100000 in
def qX491 : List zk_Hd := []
set_option maxRecDepth 100000 in
theorem qk491 : zk_chk qK qP491 prog_1_method_20_code 3 qC491 (some .int) qH491 qX491 69 0 = true := zk_chkD_ok (T := qdt_1_20) qdo_1_20 (by decide +kernel)
set_option maxRecDepth 100000 in
/-- UnaskedLettersModel.why(I)I  -/
def qC492 : zk_C := ((2, [], [0, 1], [(0, (2, 57, 0)), (1, (0, (-2147483648), 2147483647))], [], [], [], [], [], none), [(3, [], [2], [(0, (2, 57, 0)), (1, (0, (-2147483648), 2147483647)), (2, (0, (-2147483648), 2147483647))], [], [], [], [], [], none)], [], 0, 0)
set_option maxRecDepth 100000 in
def qP492 : zk_P := ([(99, 12, 43, 4)], [], [], [], [], [(2, qC477)], [])
set_option maxRecDepth 100000 in
def qH492 : List zk_Hd := []
set_option maxRecDepth 100000 in
def qX492 : List zk_Hd := []
set_option maxRecDepth 100000 in
theorem qk492 : zk_chk qK qP492 prog_14_method_61_code 2 qC492 (some .int) qH492 qX492 70 0 = true := zk_chkD_ok (T := qdt_14_61) qdo_14_61 (by decide +kernel)
set_option maxRecDepth 100000 in
/-- UnaskedLetters$Scales.forget()V  -/
def qC493 : zk_C := ((1, [], [0], [(0, (2, 50, 0))], [], [], [], [], [], none), [(4, [], [], [(0, (2, 50, 0)), (1, (0, (-2147483648), 2147483647)), (2, (0, 0, 0)), (3, (0, 0, 0))], [], [(0, 3, 1), (0, 4, 2), (0, 5, 3)], [], [], [], none)], [(50, 3), (50, 4), (50, 5)], 0, 0)
set_option maxRecDepth 100000 in
def qP493 : zk_P := ([(16, 7, 3, 0), (20, 7, 4, 0), (23, 7, 5, 0)], [], [], [], [], [], [])
set_option maxRecDepth 100000 in
def qH493 : List zk_Hd := []
set_option maxRecDepth 100000 in
def qX493 : List zk_Hd := []
set_option maxRecDepth 100000 in
theorem qk493 : zk_chk qK qP493 prog_9_method_2_code 1 qC493 none qH493 qX493 73 0 = true := zk_chkD_ok (T := qdt_9_2) qdo_9_2 (by decide +kernel)
set_option maxRecDepth 100000 in
/-- UnaskedLetters$Scales.learn(LUnaskedLetters$Letter;Z)V  -/
def qC494 : zk_C := ((6, [], [0, 1, 2], [(0, (2, 50, 0)), (1, (2, 107, 0)), (2, (0, 0, 1)), (3, (0, (-2147483648), 2147483647)), (4, (0, (-2147483648), 2147483647)), (5, (0, (-2147483648), 2147483647))], [], [(0, 3, 3), (0, 4, 4), (0, 5, 5)], [], [], [], none), [(8, [], [], [(0, (2, 50, 0)), (1, (2, 107, 0)), (2, (0, 0, 1)), (3, (0, (-2147483648), 2147483647)), (4, (0, (-2147483648), 2147483647)), (5, (0, (-2147483648), 2147483647)), (6, (0, (-2147483648), 2147483647)), (7, (0, (-2147483648), 2147483647))], [], [(0, 3, 3), (0, 4, 6), (0, 5, 7)], [], [], [], none)], [(50, 4), (50, 5), (122, 2), (122, 4), (122, 5)], 0, 0)
set_option maxRecDepth 100000 in
def qP494 : zk_P := ([(20, 7, 4, 0), (23, 7, 5, 0), (26, 1, 13, 0), (31, 1, 11, 3), (35, 9, 2, 0), (16, 7, 3, 0), (40, 9, 4, 0), (43, 9, 5, 0)], [], [], [], [], [], [])
set_option maxRecDepth 100000 in
def qH494 : List zk_Hd := [(38, (9, [(0, 0), (1, 1), (2, 2), (3, 6)], [], [(0, (2, 50, 0)), (1, (2, 107, 0)), (2, (0, 0, 1)), (3, (0, (-2147483648), 2147483647)), (4, (0, (-2147483648), 2147483647)), (5, (0, (-2147483648), 2147483647)), (6, (0, 0, 160)), (7, (0, (-2147483648), 2147483647)), (8, (0, (-2147483648), 2147483647))], [], [(0, 3, 3), (0, 4, 7), (0, 5, 8)], [], [], [], none), [(1, none, none), (161, none, some 6), (1, none, none)], 0, 0)]
set_option maxRecDepth 100000 in
def qX494 : List zk_Hd := []
set_option maxRecDepth 100000 in
theorem qk494 : zk_chk qK qP494 prog_9_method_3_code 5 qC494 none qH494 qX494 105 3 = true := zk_chkD_ok (T := qdt_9_3) qdo_9_3 (by decide +kernel)
set_option maxRecDepth 100000 in
/-- UnaskedLetters.learnMarked()V  -/
def qC495 : zk_C := ((2, [], [0], [(0, (2, 2, 0)), (1, (2, 44, 0))], [], [(0, 8, 1)], [], [], [], none), [(6, [], [], [(0, (2, 2, 0)), (1, (2, 44, 0)), (2, (2, 50, 0)), (3, (0, (-2147483648), 2147483647)), (4, (0, (-2147483648), 2147483647)), (5, (0, (-2147483648), 2147483647))], [], [(0, 8, 1), (0, 9, 2), (2, 3, 3), (2, 4, 4), (2, 5, 5)], [], [], [], none)], [(50, 3), (50, 4), (50, 5), (122, 2), (122, 4), (122, 5)], 0, 0)
set_option maxRecDepth 100000 in
def qP495 : zk_P := ([(74, 11, 9, 4), (181, 11, 15, 0), (67, 11, 8, 4), (289, 3, 3, 4), (60, 11, 7, 4)], [], [], [], [], [(4, qC493), (57, qC494)], [])
set_option maxRecDepth 100000 in
def qH495 : List zk_Hd := [(9, (7, [(0, 0), (1, 2)], [], [(0, (2, 2, 0)), (1, (2, 44, 0)), (2, (0, 0, 120)), (3, (2, 50, 0)), (4, (0, (-2147483648), 2147483647)), (5, (0, (-2147483648), 2147483647)), (6, (0, (-2147483648), 2147483647))], [], [(0, 8, 1), (0, 9, 3), (3, 3, 4), (3, 4, 5), (3, 5, 6)], [], [], [], none), [(1, none, none), (121, none, some 2), (1, none, none)], 0, 0)]
set_option maxRecDepth 100000 in
def qX495 : List zk_Hd := []
set_option maxRecDepth 100000 in
theorem qk495 : zk_chk qK qP495 prog_1_method_55_code 2 qC495 none qH495 qX495 89 3 = true := zk_chkD_ok (T := qdt_1_55) qdo_1_55 (by decide +kernel)
set_option maxRecDepth 100000 in
/-- UnaskedLetters.learn(I)V  -/
def qC496 : zk_C := ((2, [], [0, 1], [(0, (2, 2, 0)), (1, (0, (-2147483648), 2147483647))], [], [], [], [], [], none), [(7, [], [], [(0, (2, 2, 0)), (1, (0, (-2147483648), 2147483647)), (2, (2, 44, 0)), (3, (2, 50, 0)), (4, (0, (-2147483648), 2147483647)), (5, (0, (-2147483648), 2147483647)), (6, (0, (-2147483648), 2147483647))], [], [(0, 8, 2), (0, 9, 3), (3, 3, 4), (3, 4, 5), (3, 5, 6)], [], [], [], none)], [(49, 0), (50, 3), (50, 4), (50, 5), (122, 2), (122, 4), (122, 5)], 0, 0)
set_option maxRecDepth 100000 in
def qP496 : zk_P := ([(67, 11, 8, 4)], [], [], [], [], [(5, qC396), (9, qC495)], [])
set_option maxRecDepth 100000 in
def qH496 : List zk_Hd := []
set_option maxRecDepth 100000 in
def qX496 : List zk_Hd := []
set_option maxRecDepth 100000 in
theorem qk496 : zk_chk qK qP496 prog_1_method_54_code 2 qC496 none qH496 qX496 67 0 = true := zk_chkD_ok (T := qdt_1_54) qdo_1_54 (by decide +kernel)
set_option maxRecDepth 100000 in
/-- UnaskedLetters$Letter.settle(I)V  -/
def qC497 : zk_C := ((2, [], [0, 1], [(0, (2, 107, 0)), (1, (0, 1, 5))], [], [], [], [], [], none), [(3, [], [], [(0, (2, 107, 0)), (1, (0, 1, 5)), (2, (0, (-1), (-1)))], [], [(0, 5, 1), (0, 7, 2)], [], [], [], none)], [(107, 5), (107, 7)], 0, 0)
set_option maxRecDepth 100000 in
def qP497 : zk_P := ([(11, 1, 5, 0), (41, 1, 7, 0)], [], [], [], [], [], [])
set_option maxRecDepth 100000 in
def qH497 : List zk_Hd := []
set_option maxRecDepth 100000 in
def qX497 : List zk_Hd := []
set_option maxRecDepth 100000 in
theorem qk497 : zk_chk qK qP497 prog_3_method_2_code 2 qC497 none qH497 qX497 67 0 = true := zk_chkD_ok (T := qdt_3_2) qdo_3_2 (by decide +kernel)
set_option maxRecDepth 100000 in
/-- UnaskedLetters$Letter.delay(II)V  -/
def qC498 : zk_C := ((3, [], [0, 1, 2], [(0, (2, 107, 0)), (1, (0, (-2147483648), 2147483647)), (2, (0, 3, 5))], [], [], [], [], [], none), [(5, [], [], [(0, (2, 107, 0)), (1, (0, (-2147483648), 2147483647)), (2, (0, 3, 5)), (3, (0, 4, 4)), (4, (0, (-2147483648), 7))], [], [(0, 5, 3), (0, 6, 4), (0, 7, 1)], [], [], [], none), (5, [], [], [(0, (2, 107, 0)), (1, (0, (-2147483648), 2147483647)), (2, (0, 3, 5)), (3, (0, 8, 2147483647)), (4, (0, (-1), (-1)))], [], [(0, 5, 2), (0, 6, 3), (0, 7, 4)], [], [], [], none)], [(107, 5), (107, 6), (107, 7)], 0, 0)
set_option maxRecDepth 100000 in
def qP498 : zk_P := ([(44, 1, 6, 0), (11, 1, 5, 0), (41, 1, 7, 0)], [], [], [], [], [(31, qC497)], [])
set_option maxRecDepth 100000 in
def qH498 : List zk_Hd := []
set_option maxRecDepth 100000 in
def qX498 : List zk_Hd := []
set_option maxRecDepth 100000 in
theorem qk498 : zk_chk qK qP498 prog_3_method_3_code 3 qC498 none qH498 qX498 80 0 = true := zk_chkD_ok (T := qdt_3_3) qdo_3_3 (by decide +kernel)
set_option maxRecDepth 100000 in
/-- UnaskedLetters.listsBarring(I)I  -/
def qC499 : zk_C := ((10, [], [0, 1], [(0, (2, 2, 0)), (1, (0, 0, 11)), (2, (2, 4, 0)), (3, (0, (-2147483648), 2147483647)), (4, (0, 0, 4)), (5, (0, 1, 120)), (6, (2, 27, 0)), (7, (2, 44, 0)), (8, (0, 1, 20)), (9, (0, 0, 100))], [], [(0, 0, 2), (0, 13, 3), (0, 14, 4), (0, 15, 5), (0, 5, 6), (0, 8, 7), (6, 5, 8), (6, 9, 9)], [], [], [], none), [(12, [], [10], [(0, (2, 2, 0)), (1, (0, 0, 11)), (2, (2, 4, 0)), (3, (0, (-2147483648), 2147483647)), (4, (0, 0, 4)), (5, (0, 1, 120)), (6, (2, 27, 0)), (7, (2, 44, 0)), (8, (0, 1, 20)), (9, (0, 0, 100)), (10, (0, 0, 4)), (11, (0, 1, 20))], [(8, 11, 0), (10, 4, 0), (11, 8, 0)], [(0, 0, 2), (0, 13, 3), (0, 14, 4), (0, 15, 5), (0, 5, 6), (0, 8, 7), (6, 5, 11), (6, 9, 9)], [], [], [], none)], [(21, 2), (21, 3), (21, 4), (21, 5), (21, 6), (25, 0), (26, 0)], 0, 0)
set_option maxRecDepth 100000 in
def qP499 : zk_P := ([(155, 11, 14, 0), (88, 11, 13, 0)], [], [], [], [], [(24, qC421)], [])
set_option maxRecDepth 100000 in
def qH499 : List zk_Hd := [(4, (13, [(0, 0), (1, 1), (2, 10), (3, 11)], [], [(0, (2, 2, 0)), (1, (0, 0, 11)), (2, (2, 4, 0)), (3, (0, (-2147483648), 2147483647)), (4, (0, 0, 4)), (5, (0, 1, 120)), (6, (2, 27, 0)), (7, (2, 44, 0)), (8, (0, 1, 20)), (9, (0, 0, 100)), (10, (0, 0, 4)), (11, (0, 0, 4)), (12, (0, 1, 20))], [(8, 12, 0), (10, 4, 0), (10, 11, 0), (11, 4, 0), (12, 8, 0)], [(0, 0, 2), (0, 13, 3), (0, 14, 4), (0, 15, 5), (0, 5, 6), (0, 8, 7), (6, 5, 12), (6, 9, 9)], [], [], [], none), [(1, none, none), (5, none, some 10), (1, none, none), (5, none, some 11), (1, none, none)], 0, 0)]
set_option maxRecDepth 100000 in
def qX499 : List zk_Hd := []
set_option maxRecDepth 100000 in
theorem qk499 : zk_chk qK qP499 prog_1_method_51_code 4 qC499 (some .int) qH499 qX499 81 5 = true := zk_chkD_ok (T := qdt_1_51) qdo_1_51 (by decide +kernel)
set_option maxRecDepth 100000 in
/-- UnaskedLetters$Scales.worthOf(LUnaskedLetters$Word;)I  -/
def qC500 : zk_C := ((4, [], [0, 1], [(0, (2, 50, 0)), (1, (2, 122, 0)), (2, (0, (-2147483648), 2147483647)), (3, (0, (-2147483648), 2147483647))], [], [(0, 4, 2), (0, 5, 3)], [], [], [], none), [(5, [], [4], [(0, (2, 50, 0)), (1, (2, 122, 0)), (2, (0, (-2147483648), 2147483647)), (3, (0, (-2147483648), 2147483647)), (4, (0, (-2147483648), 2147483647))], [], [(0, 4, 2), (0, 5, 3)], [], [], [], none)], [], 0, 0)
set_option maxRecDepth 100000 in
def qP500 : zk_P := ([(43, 9, 5, 0), (20, 7, 4, 0), (40, 9, 4, 0), (23, 7, 5, 0)], [], [], [], [], [], [])
set_option maxRecDepth 100000 in
def qH500 : List zk_Hd := []
set_option maxRecDepth 100000 in
def qX500 : List zk_Hd := []
set_option maxRecDepth 100000 in
theorem qk500 : zk_chk qK qP500 prog_9_method_5_code 4 qC500 (some .int) qH500 qX500 86 0 = true := zk_chkD_ok (T := qdt_9_5) qdo_9_5 (by decide +kernel)
set_option maxRecDepth 100000 in
/-- UnaskedLetters$Scales.pick(II)V  -/
def qC501 : zk_C := ((4, [], [0, 1, 2], [(0, (2, 50, 0)), (1, (0, (-2147483648), 2147483647)), (2, (0, 0, 159)), (3, (0, (-2147483648), 2147483647))], [(3, 2, 0)], [(0, 1003, 3)], [], [], [], none), [(5, [], [], [(4, (0, 1, 160))], [(4, 2, 1), (2, 4, (-1))], [(0, 1003, 4)], [], [], [], none)], [(50, 2), (52, 0), (53, 0)], 0, 0)
