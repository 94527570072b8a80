/-! CONTRACTS: found by wip/an (python). -/
set_option maxRecDepth 100000 in
/-- java/lang/Integer.bitCount(I)I UnaskedLetters.round(III)I@208 -/
def qC579 : zk_C := ((1, [], [0], [(0, (0, 0, 1000))], [], [], [], [], [], none), [(2, [], [1], [(0, (0, 0, 1000)), (1, (0, 0, 63))], [], [], [], [], [], none)], [], 0, 0)
set_option maxRecDepth 100000 in
def qP579 : zk_P := ([], [], [], [], [(4, 3, (0, 1431655765, 1431655765)), (11, 3, (0, 858993459, 858993459)), (18, 3, (0, 858993459, 858993459)), (29, 3, (0, 252645135, 252645135))], [], [])
set_option maxRecDepth 100000 in
def qH579 : List zk_Hd := []
set_option maxRecDepth 100000 in
def qX579 : List zk_Hd := []
set_option maxRecDepth 100000 in
theorem qk579 : zk_chk qK qP579 prog_17_method_49_code 1 qC579 (some .int) qH579 qX579 102 0 = true := zk_chkD_ok (T := qdt_17_49) qdo_17_49 (by decide +kernel)
