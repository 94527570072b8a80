/-! CONTRACTS: found by wip/an (python). -/
set_option maxRecDepth 100000
/-- java/lang/Integer.bitCount(I)I UnaskedLetters.round(III)I@208 -/
def qC529 : zk_C := ((1, [], [0], [(0, (0, 0, 1000))], [], [], [], [], [], none), [(2, [], [1], [(0, (0, 0, 1000)), (1, (0, 0, 63))], [], [], [], [], [], none)], [], 0, 0)
def qP529 : zk_P := ([], [], [], [], [(4, 3, (0, 1431655765, 1431655765)), (11, 3, (0, 858993459, 858993459)), (18, 3, (0, 858993459, 858993459)), (29, 3, (0, 252645135, 252645135))], [], [])
def qH529 : List zk_Hd := []
def qX529 : List zk_Hd := []
theorem qk529 : zk_chk qK qP529 prog_17_method_49_code 1 qC529 (some .int) qH529 qX529 102 0 = true := by decide +kernel
