/-! THE LAW till its cases -/
set_option maxRecDepth 100000
theorem qk141 : zk_chk qK qP141 code 4 qC141 (some .boolean) [] qX141 100 0 = true := by decide +kernel
