/-! CONTRACTS: found by wip/an (python). -/
set_option maxRecDepth 100000 in
/-- UnaskedLetters$LetterReader.hexOf(I)I  -/
def qC35 : zk_C := ((1, [], [0], [(0, (0, (-1), 255))], [], [], [], [], [], none), [(2, [], [1], [(0, (0, (-1), 47)), (1, (0, (-1), (-1)))], [], [], [], [], [], none), (2, [], [1], [(0, (0, 58, 96)), (1, (0, (-1), (-1)))], [], [], [], [], [], none), (2, [], [1], [(0, (0, 103, 255)), (1, (0, (-1), (-1)))], [], [], [], [], [], none), (2, [], [1], [(0, (0, 97, 102)), (1, (0, 10, 15))], [(0, 1, 87), (1, 0, (-87))], [], [], [], [], none), (2, [], [1], [(0, (0, 48, 57)), (1, (0, 0, 9))], [(0, 1, 48), (1, 0, (-48))], [], [], [], [], none)], [], 0, 0)
set_option maxRecDepth 100000 in
def qP35 : zk_P := ([], [], [], [], [], [], [])
set_option maxRecDepth 100000 in
def qH35 : List zk_Hd := []
set_option maxRecDepth 100000 in
def qX35 : List zk_Hd := []
set_option maxRecDepth 100000 in
theorem qk35 : zk_chk qK qP35 prog_4_method_3_code 1 qC35 (some .int) qH35 qX35 79 0 = true := zk_chkD_ok (T := qdt_4_3) qdo_4_3 (by decide +kernel)
set_option maxRecDepth 100000 in
/-- UnaskedLetters$Word.isByte(I)Z  -/
def qC36 : zk_C := ((1, [], [0], [(0, (0, (-2147483648), 2147483647))], [], [], [], [], [], none), [(2, [], [1], [(0, (0, (-2147483648), 47)), (1, (0, 0, 0))], [], [], [], [], [], none), (2, [], [1], [(0, (0, 58, 96)), (1, (0, 0, 0))], [], [], [], [], [], none), (2, [], [1], [(0, (0, 48, 57)), (1, (0, 1, 1))], [], [], [], [], [], none), (2, [], [1], [(0, (0, 97, 122)), (1, (0, 1, 1))], [], [], [], [], [], none), (2, [], [1], [(0, (0, 123, 2147483647)), (1, (0, 0, 0))], [], [], [], [], [], none)], [], 0, 0)
set_option maxRecDepth 100000 in
def qP36 : zk_P := ([], [], [], [], [], [], [])
set_option maxRecDepth 100000 in
def qH36 : List zk_Hd := []
set_option maxRecDepth 100000 in
def qX36 : List zk_Hd := []
set_option maxRecDepth 100000 in
theorem qk36 : zk_chk qK qP36 prog_11_method_3_code 1 qC36 (some .boolean) qH36 qX36 74 0 = true := zk_chkD_ok (T := qdt_11_3) qdo_11_3 (by decide +kernel)
