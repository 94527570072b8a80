/-! THE LAW, 3: what is decided of it -/
noncomputable section
set_option maxRecDepth 100000 in
def qCL : zk_C := ((1, [], [0], [(0, (2, 1, 0))], [], [], [], [], [], none), [(2, [], [1], [(1, (0, 1, 1))], [], [], [], [], [], none)], [(2, 13), (2, 14), (2, 15), (2, 16), (3, 0), (3, 1), (3, 2), (3, 3), (3, 4), (3, 5), (3, 6), (3, 7), (3, 8), (3, 9), (3, 10), (3, 11), (3, 12), (3, 13), (3, 1000), (4, 6), (4, 7), (5, 0), (5, 1), (5, 2), (5, 3), (5, 4), (5, 5), (5, 1000), (6, 0), (7, 0), (8, 0), (9, 0), (10, 0), (11, 0), (12, 1), (13, 0), (13, 1000), (14, 0), (15, 1), (15, 2), (15, 3), (16, 0), (16, 1000), (17, 0), (18, 1), (18, 2), (18, 3), (19, 0), (19, 1000), (20, 0), (21, 2), (21, 3), (21, 4), (21, 5), (21, 6), (22, 0), (22, 1), (22, 1000), (25, 0), (26, 0), (27, 5), (27, 9), (28, 0), (28, 1), (28, 2), (28, 3), (28, 4), (28, 6), (28, 7), (28, 8), (28, 1000), (29, 0), (30, 0), (31, 0), (32, 0), (33, 0), (34, 0), (35, 0), (36, 0), (37, 4), (37, 5), (38, 0), (38, 1), (38, 2), (38, 3), (38, 1000), (39, 0), (40, 0), (41, 0), (42, 0), (43, 0), (44, 4), (45, 0), (45, 1), (45, 2), (45, 3), (45, 1000), (46, 0), (47, 0), (48, 0), (49, 0), (50, 2), (50, 3), (50, 4), (50, 5), (51, 0), (51, 1), (51, 1000), (52, 0), (53, 0), (54, 0), (55, 0), (56, 0), (57, 0), (57, 6), (57, 7), (57, 9), (57, 10), (57, 11), (57, 12), (57, 15), (57, 16), (57, 17), (57, 25), (57, 26), (57, 29), (57, 30), (57, 44), (57, 49), (57, 52), (57, 57), (57, 58), (57, 65), (57, 66), (57, 67), (57, 70), (58, 1), (58, 2), (58, 3), (58, 4), (58, 5), (58, 8), (58, 13), (58, 14), (58, 18), (58, 19), (58, 20), (58, 21), (58, 22), (58, 23), (58, 24), (58, 27), (58, 28), (58, 31), (58, 32), (58, 33), (58, 34), (58, 35), (58, 36), (58, 37), (58, 38), (58, 39), (58, 40), (58, 41), (58, 42), (58, 43), (58, 45), (58, 46), (58, 47), (58, 48), (58, 50), (58, 51), (58, 53), (58, 54), (58, 55), (58, 56), (58, 59), (58, 60), (58, 61), (58, 62), (58, 63), (58, 64), (58, 68), (58, 69), (58, 1000), (59, 0), (60, 0), (61, 0), (62, 0), (63, 0), (64, 0), (65, 0), (66, 0), (67, 0), (68, 0), (69, 0), (70, 0), (71, 0), (72, 0), (73, 0), (74, 0), (75, 0), (76, 0), (77, 0), (78, 0), (79, 0), (80, 0), (81, 0), (82, 0), (83, 0), (84, 0), (85, 0), (86, 0), (87, 0), (88, 0), (89, 0), (90, 0), (91, 0), (92, 0), (93, 0), (94, 0), (95, 0), (96, 0), (97, 0), (98, 0), (99, 0), (100, 0), (101, 0), (102, 0), (103, 0), (104, 0), (105, 0), (106, 0), (107, 5), (107, 6), (107, 7), (107, 8), (107, 16), (108, 0), (108, 1), (108, 2), (108, 3), (108, 4), (108, 5), (108, 7), (108, 8), (108, 9), (108, 10), (108, 11), (108, 12), (108, 13), (108, 14), (108, 15), (108, 1000), (109, 0), (110, 0), (112, 0), (112, 1000), (114, 0), (115, 0), (122, 2), (122, 3), (122, 4), (122, 5), (123, 0), (123, 1), (123, 1000)], 600000, 7302250)
set_option maxRecDepth 100000 in
def qPL : zk_P := ([], [], [(7, 3, [2, 2, 2, 2, 2, 2, 2, 2, 2, 2, 2, 2, 2, 0, 0, 0, 0]), (10, 58, [0, 2, 2, 2, 2, 2, 0, 0, 2, 0, 0, 0, 0, 2, 2, 0, 0, 0, 2, 2, 2, 2, 2, 2, 2, 0, 0, 2, 2, 0, 0, 2, 2, 2, 2, 2, 2, 2, 2, 2, 2, 2, 2, 2, 0, 2, 2, 2, 2, 0, 2, 2, 0, 2, 2, 2, 2, 0, 0, 2, 2, 2, 2, 2, 2, 0, 0, 0, 2, 2, 0])], [], [], [(4, qC11), (12, qC12), (197, qC14), (202, qC15), (269, qC19), (284, qC22), (310, qC24), (333, qC25), (366, qC28), (396, qC29), (409, qC30), (419, qC31), (432, qC165), (442, qC366), (473, qC373), (501, qC376), (537, qC379), (570, qC385), (578, qC386), (583, qC387), (601, qC389), (616, qC392), (644, qC420), (669, qC431), (682, qC433), (692, qC434), (728, qC464), (761, qC471), (779, qC473), (794, qC477), (822, qC479), (847, qC482), (860, qC484), (870, qC486), (888, qC487), (903, qC488), (916, qC489), (926, qC490), (939, qC506), (949, qC520), (975, qC522), (998, qC523), (1016, qC525), (1031, qC527), (1054, qC528), (1074, qC530), (1100, qC531), (1123, qC532), (1146, qC536), (1166, qC540), (1179, qC541), (1189, qC542), (1212, qC544), (1232, qC546), (1245, qC547), (1255, qC548), (1273, qC549), (1288, qC551), (1301, qC557), (1311, qC561), (1319, qC566), (1324, qC569), (1347, qC578), (1367, qC587), (1395, qC588), (1420, qC593), (1433, qC599), (1443, qC601), (1456, qC602), (1466, qC604), (1484, qC609), (1499, qC615), (1512, qC617), (1522, qC619)], [(16, [])])
set_option maxRecDepth 100000 in
def qLs : zk_S := (19, [(0, 0), (1, 1), (2, 2), (3, 3)], [], [(0, (2, 1, 0)), (1, (2, 2, 0)), (2, (2, 57, 0)), (3, (0, 0, 3072)), (4, (2, 4, 0)), (5, (0, (-2147483648), 2147483647)), (6, (0, 0, 4)), (7, (0, 0, 8)), (8, (2, 27, 0)), (9, (0, (-2147483648), 2147483647)), (10, (0, (-2147483648), 2147483647)), (11, (0, 0, 4)), (12, (0, 0, 100)), (13, (0, 0, 12)), (14, (0, 0, 40)), (15, (0, 0, 8)), (16, (0, 0, 12)), (17, (0, 0, 40)), (18, (0, 0, 100))], [(6, 3, 0), (6, 11, 0), (7, 3, 0), (7, 15, 0), (11, 3, 0), (11, 6, 0), (12, 3, 0), (12, 18, 0), (13, 3, 0), (13, 16, 0), (14, 3, 0), (14, 17, 0), (15, 3, 0), (15, 7, 0), (16, 3, 0), (16, 13, 0), (17, 3, 0), (17, 14, 0), (18, 3, 0), (18, 12, 0)], [(1, 0, 4), (1, 13, 5), (1, 14, 6), (1, 16, 7), (1, 5, 8), (2, 0, 9), (2, 1002, 10), (2, 57, 11), (2, 58, 12), (2, 6, 13), (2, 7, 14), (2, 70, 15), (4, 1005, 2), (4, 6, 16), (4, 7, 17), (8, 9, 18)], [], [], [], none)
set_option maxRecDepth 100000 in
def qLc : zk_S := (20, [(0, 0), (1, 1), (2, 2), (3, 3)], [], [(0, (2, 1, 0)), (1, (2, 2, 0)), (2, (2, 57, 0)), (3, (0, 0, 3066)), (4, (2, 4, 0)), (5, (0, (-2147483648), 2147483647)), (6, (0, 0, 4)), (7, (0, 0, 8)), (8, (2, 27, 0)), (9, (0, (-2147483648), 2147483647)), (10, (0, (-2147483648), 2147483647)), (11, (0, 0, 4)), (12, (0, 0, 100)), (13, (0, 0, 12)), (14, (0, 0, 40)), (15, (0, 0, 8)), (16, (0, 0, 12)), (17, (0, 0, 40)), (18, (0, 0, 100)), (19, (0, 0, 3072))], [(3, 19, (-6)), (6, 3, 0), (6, 11, 0), (7, 3, 0), (7, 15, 0), (11, 3, 0), (11, 6, 0), (12, 3, 0), (12, 18, 0), (13, 3, 0), (13, 16, 0), (14, 3, 0), (14, 17, 0), (15, 3, 0), (15, 7, 0), (16, 3, 0), (16, 13, 0), (17, 3, 0), (17, 14, 0), (18, 3, 0), (18, 12, 0)], [(1, 0, 4), (1, 13, 5), (1, 14, 6), (1, 16, 7), (1, 5, 8), (2, 0, 9), (2, 1002, 10), (2, 57, 11), (2, 58, 12), (2, 6, 13), (2, 7, 14), (2, 70, 15), (4, 1005, 2), (4, 6, 16), (4, 7, 17), (8, 9, 18)], [(0, 19)], [], [], none)
set_option maxRecDepth 100000 in
def qL16 : zk_S := (20, [(0, 0), (1, 1), (2, 2)], [], [(0, (2, 1, 0)), (1, (2, 2, 0)), (2, (2, 57, 0)), (3, (0, 0, 0)), (4, (2, 4, 0)), (5, (0, 0, 0)), (6, (0, 0, 0)), (7, (0, 0, 0)), (8, (2, 27, 0)), (9, (0, 0, 0)), (10, (0, 0, 0)), (11, (0, 0, 0)), (12, (0, 0, 0)), (13, (0, 0, 0)), (14, (0, 0, 0)), (15, (0, 0, 0)), (16, (0, 0, 0)), (17, (0, 0, 0)), (18, (2, 6, 0)), (19, (2, 59, 0))], [], [(2, 26, 3), (1, 0, 4), (1, 13, 5), (1, 14, 6), (1, 16, 7), (1, 5, 8), (2, 0, 9), (2, 57, 10), (2, 58, 11), (2, 6, 12), (2, 7, 13), (2, 70, 14), (4, 6, 15), (4, 7, 16), (8, 9, 17), (4, 0, 18), (2, 1, 19)], [], [], [(11, 18, 0, 0), (11, 19, 0, 0)], none)
set_option maxRecDepth 100000 in
def qL16g : zk_S := (20, [(0, 0), (1, 1), (2, 2)], [], [(0, (2, 1, 0)), (1, (2, 2, 0)), (2, (2, 57, 0)), (3, (0, 0, 0)), (4, (2, 4, 0)), (5, (0, 0, 0)), (6, (0, 0, 0)), (7, (0, 0, 0)), (8, (2, 27, 0)), (9, (0, 0, 0)), (10, (0, 0, 0)), (11, (0, 0, 0)), (12, (0, 0, 0)), (13, (0, 0, 0)), (14, (0, 0, 0)), (15, (0, 0, 0)), (16, (0, 0, 0)), (17, (0, 0, 0)), (18, (2, 6, 0)), (19, (2, 59, 0))], [], [(4, 1005, 2), (2, 1002, 3), (2, 26, 3), (1, 0, 4), (1, 13, 5), (1, 14, 6), (1, 16, 7), (1, 5, 8), (2, 0, 9), (2, 57, 10), (2, 58, 11), (2, 6, 12), (2, 7, 13), (2, 70, 14), (4, 6, 15), (4, 7, 16), (8, 9, 17), (4, 0, 18), (2, 1, 19)], [], [], [(11, 18, 0, 0), (11, 19, 0, 0)], none)
set_option maxRecDepth 100000 in
def qLx : List Nat := [196, 209, 258, 291, 340, 403, 426, 449, 508, 577, 590, 623, 676, 699, 768, 801, 854, 877, 910, 933, 956, 1005, 1038, 1081, 1130, 1173, 1196, 1239, 1262, 1295, 1318, 1331, 1374, 1427, 1450, 1473, 1506, 1529]
set_option maxRecDepth 100000 in
theorem ql_0 : zk_chk qK qPL code 4 qCL (some .boolean) [] [(16, qL16, [(0, none, none)], 92, 37171)] 200 1 = true := zk_chkD_ok (T := qdt_law) qdo_law (by decide +kernel)
set_option maxRecDepth 100000 in
theorem ql_16 : zk_chf qK qPL code 4 qCL (some .boolean) [] [(18, qLs, [(0, none, none)], 92, 37171)] (16, qL16g, [], 92, 37171) 200 1 = true := zk_chfD_ok (T := qdt_law) qdo_law (by decide +kernel)
set_option maxRecDepth 100000 in
theorem ql_18 : zk_run qK qPL code 4 (zk_cmx qCL 168 1635) (some .boolean) (qLx.map fun q => (q, qLc, [((3072, none, some 3) : zk_M)], 0, 0)) (some [(((3072, none, some 3) : zk_M).1 + 1, ((3072, none, some 3) : zk_M).2)]) 200 true 0 0 18 qLs = true := zk_runD_ok (T := qdt_law) qdo_law (by decide +kernel)
set_option maxRecDepth 100000 in
theorem ql_196_ : zk_run qK qPL code 4 (zk_cmx qCL 168 1635) (some .boolean) [(18, qLs, [((3072, none, some 3) : zk_M)], 168, 1635)] (some [((3072, none, some 3) : zk_M)]) 200 true 0 0 196 qLc = true := zk_runD_ok (T := qdt_law) qdo_law (by decide +kernel)
set_option maxRecDepth 100000 in
def qLcR : zk_S := zk_af (zk_ex qK [(6, 0), (59, 0)] qLc false) [(4, 1005, 2)] [] []
set_option maxRecDepth 100000 in
theorem ql_209_R : zk_run qK qPL code 4 (zk_cmx qCL 168 1635) (some .boolean) [(18, qLs, [((3072, none, some 3) : zk_M)], 168, 1635)] (some [((3072, none, some 3) : zk_M)]) 200 true 0 0 1529 qLcR = true := zk_runD_ok (T := qdt_law) qdo_law (by decide +kernel)
set_option maxRecDepth 100000 in
theorem ql_258_ : zk_run qK qPL code 4 (zk_cmx qCL 168 1635) (some .boolean) [(18, qLs, [((3072, none, some 3) : zk_M)], 168, 1635)] (some [((3072, none, some 3) : zk_M)]) 200 true 0 0 258 qLc = true := zk_runD_ok (T := qdt_law) qdo_law (by decide +kernel)
set_option maxRecDepth 100000 in
theorem ql_291_ : zk_run qK qPL code 4 (zk_cmx qCL 168 1635) (some .boolean) [(18, qLs, [((3072, none, some 3) : zk_M)], 168, 1635)] (some [((3072, none, some 3) : zk_M)]) 200 true 0 0 291 qLc = true := zk_runD_ok (T := qdt_law) qdo_law (by decide +kernel)
set_option maxRecDepth 100000 in
theorem ql_340_ : zk_run qK qPL code 4 (zk_cmx qCL 168 1635) (some .boolean) [(18, qLs, [((3072, none, some 3) : zk_M)], 168, 1635)] (some [((3072, none, some 3) : zk_M)]) 200 true 0 0 340 qLc = true := zk_runD_ok (T := qdt_law) qdo_law (by decide +kernel)
set_option maxRecDepth 100000 in
theorem ql_403_ : zk_run qK qPL code 4 (zk_cmx qCL 168 1635) (some .boolean) [(18, qLs, [((3072, none, some 3) : zk_M)], 168, 1635)] (some [((3072, none, some 3) : zk_M)]) 200 true 0 0 403 qLc = true := zk_runD_ok (T := qdt_law) qdo_law (by decide +kernel)
set_option maxRecDepth 100000 in
theorem ql_426_ : zk_run qK qPL code 4 (zk_cmx qCL 168 1635) (some .boolean) [(18, qLs, [((3072, none, some 3) : zk_M)], 168, 1635)] (some [((3072, none, some 3) : zk_M)]) 200 true 0 0 426 qLc = true := zk_runD_ok (T := qdt_law) qdo_law (by decide +kernel)
set_option maxRecDepth 100000 in
theorem ql_449_ : zk_run qK qPL code 4 (zk_cmx qCL 168 1635) (some .boolean) [(18, qLs, [((3072, none, some 3) : zk_M)], 168, 1635)] (some [((3072, none, some 3) : zk_M)]) 200 true 0 0 449 qLc = true := zk_runD_ok (T := qdt_law) qdo_law (by decide +kernel)
set_option maxRecDepth 100000 in
theorem ql_508_ : zk_run qK qPL code 4 (zk_cmx qCL 168 1635) (some .boolean) [(18, qLs, [((3072, none, some 3) : zk_M)], 168, 1635)] (some [((3072, none, some 3) : zk_M)]) 200 true 0 0 508 qLc = true := zk_runD_ok (T := qdt_law) qdo_law (by decide +kernel)
set_option maxRecDepth 100000 in
theorem ql_577_ : zk_run qK qPL code 4 (zk_cmx qCL 168 1635) (some .boolean) [(18, qLs, [((3072, none, some 3) : zk_M)], 168, 1635)] (some [((3072, none, some 3) : zk_M)]) 200 true 0 0 577 qLc = true := zk_runD_ok (T := qdt_law) qdo_law (by decide +kernel)
set_option maxRecDepth 100000 in
theorem ql_590_ : zk_run qK qPL code 4 (zk_cmx qCL 168 1635) (some .boolean) [(18, qLs, [((3072, none, some 3) : zk_M)], 168, 1635)] (some [((3072, none, some 3) : zk_M)]) 200 true 0 0 590 qLc = true := zk_runD_ok (T := qdt_law) qdo_law (by decide +kernel)
set_option maxRecDepth 100000 in
theorem ql_623_ : zk_run qK qPL code 4 (zk_cmx qCL 168 1635) (some .boolean) [(18, qLs, [((3072, none, some 3) : zk_M)], 168, 1635)] (some [((3072, none, some 3) : zk_M)]) 200 true 0 0 623 qLc = true := zk_runD_ok (T := qdt_law) qdo_law (by decide +kernel)
set_option maxRecDepth 100000 in
theorem ql_676_ : zk_run qK qPL code 4 (zk_cmx qCL 168 1635) (some .boolean) [(18, qLs, [((3072, none, some 3) : zk_M)], 168, 1635)] (some [((3072, none, some 3) : zk_M)]) 200 true 0 0 676 qLc = true := zk_runD_ok (T := qdt_law) qdo_law (by decide +kernel)
set_option maxRecDepth 100000 in
theorem ql_699_ : zk_run qK qPL code 4 (zk_cmx qCL 168 1635) (some .boolean) [(18, qLs, [((3072, none, some 3) : zk_M)], 168, 1635)] (some [((3072, none, some 3) : zk_M)]) 200 true 0 0 699 qLc = true := zk_runD_ok (T := qdt_law) qdo_law (by decide +kernel)
set_option maxRecDepth 100000 in
theorem ql_768_ : zk_run qK qPL code 4 (zk_cmx qCL 168 1635) (some .boolean) [(18, qLs, [((3072, none, some 3) : zk_M)], 168, 1635)] (some [((3072, none, some 3) : zk_M)]) 200 true 0 0 768 qLc = true := zk_runD_ok (T := qdt_law) qdo_law (by decide +kernel)
set_option maxRecDepth 100000 in
theorem ql_801_ : zk_run qK qPL code 4 (zk_cmx qCL 168 1635) (some .boolean) [(18, qLs, [((3072, none, some 3) : zk_M)], 168, 1635)] (some [((3072, none, some 3) : zk_M)]) 200 true 0 0 801 qLc = true := zk_runD_ok (T := qdt_law) qdo_law (by decide +kernel)
set_option maxRecDepth 100000 in
theorem ql_854_ : zk_run qK qPL code 4 (zk_cmx qCL 168 1635) (some .boolean) [(18, qLs, [((3072, none, some 3) : zk_M)], 168, 1635)] (some [((3072, none, some 3) : zk_M)]) 200 true 0 0 854 qLc = true := zk_runD_ok (T := qdt_law) qdo_law (by decide +kernel)
set_option maxRecDepth 100000 in
theorem ql_877_ : zk_run qK qPL code 4 (zk_cmx qCL 168 1635) (some .boolean) [(18, qLs, [((3072, none, some 3) : zk_M)], 168, 1635)] (some [((3072, none, some 3) : zk_M)]) 200 true 0 0 877 qLc = true := zk_runD_ok (T := qdt_law) qdo_law (by decide +kernel)
set_option maxRecDepth 100000 in
theorem ql_910_ : zk_run qK qPL code 4 (zk_cmx qCL 168 1635) (some .boolean) [(18, qLs, [((3072, none, some 3) : zk_M)], 168, 1635)] (some [((3072, none, some 3) : zk_M)]) 200 true 0 0 910 qLc = true := zk_runD_ok (T := qdt_law) qdo_law (by decide +kernel)
set_option maxRecDepth 100000 in
theorem ql_933_ : zk_run qK qPL code 4 (zk_cmx qCL 168 1635) (some .boolean) [(18, qLs, [((3072, none, some 3) : zk_M)], 168, 1635)] (some [((3072, none, some 3) : zk_M)]) 200 true 0 0 933 qLc = true := zk_runD_ok (T := qdt_law) qdo_law (by decide +kernel)
set_option maxRecDepth 100000 in
theorem ql_956_ : zk_run qK qPL code 4 (zk_cmx qCL 168 1635) (some .boolean) [(18, qLs, [((3072, none, some 3) : zk_M)], 168, 1635)] (some [((3072, none, some 3) : zk_M)]) 200 true 0 0 956 qLc = true := zk_runD_ok (T := qdt_law) qdo_law (by decide +kernel)
set_option maxRecDepth 100000 in
theorem ql_1005_ : zk_run qK qPL code 4 (zk_cmx qCL 168 1635) (some .boolean) [(18, qLs, [((3072, none, some 3) : zk_M)], 168, 1635)] (some [((3072, none, some 3) : zk_M)]) 200 true 0 0 1005 qLc = true := zk_runD_ok (T := qdt_law) qdo_law (by decide +kernel)
set_option maxRecDepth 100000 in
theorem ql_1038_ : zk_run qK qPL code 4 (zk_cmx qCL 168 1635) (some .boolean) [(18, qLs, [((3072, none, some 3) : zk_M)], 168, 1635)] (some [((3072, none, some 3) : zk_M)]) 200 true 0 0 1038 qLc = true := zk_runD_ok (T := qdt_law) qdo_law (by decide +kernel)
set_option maxRecDepth 100000 in
theorem ql_1081_ : zk_run qK qPL code 4 (zk_cmx qCL 168 1635) (some .boolean) [(18, qLs, [((3072, none, some 3) : zk_M)], 168, 1635)] (some [((3072, none, some 3) : zk_M)]) 200 true 0 0 1081 qLc = true := zk_runD_ok (T := qdt_law) qdo_law (by decide +kernel)
set_option maxRecDepth 100000 in
theorem ql_1130_ : zk_run qK qPL code 4 (zk_cmx qCL 168 1635) (some .boolean) [(18, qLs, [((3072, none, some 3) : zk_M)], 168, 1635)] (some [((3072, none, some 3) : zk_M)]) 200 true 0 0 1130 qLc = true := zk_runD_ok (T := qdt_law) qdo_law (by decide +kernel)
set_option maxRecDepth 100000 in
theorem ql_1173_ : zk_run qK qPL code 4 (zk_cmx qCL 168 1635) (some .boolean) [(18, qLs, [((3072, none, some 3) : zk_M)], 168, 1635)] (some [((3072, none, some 3) : zk_M)]) 200 true 0 0 1173 qLc = true := zk_runD_ok (T := qdt_law) qdo_law (by decide +kernel)
set_option maxRecDepth 100000 in
theorem ql_1196_ : zk_run qK qPL code 4 (zk_cmx qCL 168 1635) (some .boolean) [(18, qLs, [((3072, none, some 3) : zk_M)], 168, 1635)] (some [((3072, none, some 3) : zk_M)]) 200 true 0 0 1196 qLc = true := zk_runD_ok (T := qdt_law) qdo_law (by decide +kernel)
set_option maxRecDepth 100000 in
theorem ql_1239_ : zk_run qK qPL code 4 (zk_cmx qCL 168 1635) (some .boolean) [(18, qLs, [((3072, none, some 3) : zk_M)], 168, 1635)] (some [((3072, none, some 3) : zk_M)]) 200 true 0 0 1239 qLc = true := zk_runD_ok (T := qdt_law) qdo_law (by decide +kernel)
set_option maxRecDepth 100000 in
theorem ql_1262_ : zk_run qK qPL code 4 (zk_cmx qCL 168 1635) (some .boolean) [(18, qLs, [((3072, none, some 3) : zk_M)], 168, 1635)] (some [((3072, none, some 3) : zk_M)]) 200 true 0 0 1262 qLc = true := zk_runD_ok (T := qdt_law) qdo_law (by decide +kernel)
set_option maxRecDepth 100000 in
theorem ql_1295_ : zk_run qK qPL code 4 (zk_cmx qCL 168 1635) (some .boolean) [(18, qLs, [((3072, none, some 3) : zk_M)], 168, 1635)] (some [((3072, none, some 3) : zk_M)]) 200 true 0 0 1295 qLc = true := zk_runD_ok (T := qdt_law) qdo_law (by decide +kernel)
set_option maxRecDepth 100000 in
theorem ql_1318_ : zk_run qK qPL code 4 (zk_cmx qCL 168 1635) (some .boolean) [(18, qLs, [((3072, none, some 3) : zk_M)], 168, 1635)] (some [((3072, none, some 3) : zk_M)]) 200 true 0 0 1318 qLc = true := zk_runD_ok (T := qdt_law) qdo_law (by decide +kernel)
set_option maxRecDepth 100000 in
theorem ql_1331_ : zk_run qK qPL code 4 (zk_cmx qCL 168 1635) (some .boolean) [(18, qLs, [((3072, none, some 3) : zk_M)], 168, 1635)] (some [((3072, none, some 3) : zk_M)]) 200 true 0 0 1331 qLc = true := zk_runD_ok (T := qdt_law) qdo_law (by decide +kernel)
set_option maxRecDepth 100000 in
theorem ql_1374_ : zk_run qK qPL code 4 (zk_cmx qCL 168 1635) (some .boolean) [(18, qLs, [((3072, none, some 3) : zk_M)], 168, 1635)] (some [((3072, none, some 3) : zk_M)]) 200 true 0 0 1374 qLc = true := zk_runD_ok (T := qdt_law) qdo_law (by decide +kernel)
set_option maxRecDepth 100000 in
theorem ql_1427_ : zk_run qK qPL code 4 (zk_cmx qCL 168 1635) (some .boolean) [(18, qLs, [((3072, none, some 3) : zk_M)], 168, 1635)] (some [((3072, none, some 3) : zk_M)]) 200 true 0 0 1427 qLc = true := zk_runD_ok (T := qdt_law) qdo_law (by decide +kernel)
set_option maxRecDepth 100000 in
theorem ql_1450_ : zk_run qK qPL code 4 (zk_cmx qCL 168 1635) (some .boolean) [(18, qLs, [((3072, none, some 3) : zk_M)], 168, 1635)] (some [((3072, none, some 3) : zk_M)]) 200 true 0 0 1450 qLc = true := zk_runD_ok (T := qdt_law) qdo_law (by decide +kernel)
set_option maxRecDepth 100000 in
theorem ql_1473_ : zk_run qK qPL code 4 (zk_cmx qCL 168 1635) (some .boolean) [(18, qLs, [((3072, none, some 3) : zk_M)], 168, 1635)] (some [((3072, none, some 3) : zk_M)]) 200 true 0 0 1473 qLc = true := zk_runD_ok (T := qdt_law) qdo_law (by decide +kernel)
set_option maxRecDepth 100000 in
theorem ql_1506_ : zk_run qK qPL code 4 (zk_cmx qCL 168 1635) (some .boolean) [(18, qLs, [((3072, none, some 3) : zk_M)], 168, 1635)] (some [((3072, none, some 3) : zk_M)]) 200 true 0 0 1506 qLc = true := zk_runD_ok (T := qdt_law) qdo_law (by decide +kernel)
set_option maxRecDepth 100000 in
theorem ql_1529_ : zk_run qK qPL code 4 (zk_cmx qCL 168 1635) (some .boolean) [(18, qLs, [((3072, none, some 3) : zk_M)], 168, 1635)] (some [((3072, none, some 3) : zk_M)]) 200 true 0 0 1529 qLc = true := zk_runD_ok (T := qdt_law) qdo_law (by decide +kernel)
end
