/-! THE LAW till its cases, and from some of them -/
set_option maxRecDepth 100000 in
theorem qk141 : zk_chk qK qP141 code 4 qC141 (some .boolean) [] qX141 100 0 = true := by decide +kernel
set_option maxRecDepth 100000 in
theorem ql291 : zk_run qK qP141 code 4 qC141 (some .boolean) [] none 100 true 92 37171 291 qx291 = true := by decide +kernel
set_option maxRecDepth 100000 in
theorem ql403 : zk_run qK qP141 code 4 qC141 (some .boolean) [] none 100 true 92 37171 403 qx403 = true := by decide +kernel
set_option maxRecDepth 100000 in
theorem ql577 : zk_run qK qP141 code 4 qC141 (some .boolean) [] none 100 true 92 37171 577 qx577 = true := by decide +kernel
set_option maxRecDepth 100000 in
theorem ql801 : zk_run qK qP141 code 4 qC141 (some .boolean) [] none 100 true 92 37171 801 qx801 = true := by decide +kernel
set_option maxRecDepth 100000 in
theorem ql877 : zk_run qK qP141 code 4 qC141 (some .boolean) [] none 100 true 92 37171 877 qx877 = true := by decide +kernel
set_option maxRecDepth 100000 in
theorem ql910 : zk_run qK qP141 code 4 qC141 (some .boolean) [] none 100 true 92 37171 910 qx910 = true := by decide +kernel
set_option maxRecDepth 100000 in
theorem ql1450 : zk_run qK qP141 code 4 qC141 (some .boolean) [] none 100 true 92 37171 1450 qx1450 = true := by decide +kernel
