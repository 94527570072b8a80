/-! THE LAW from its cases, 1 -/
set_option maxRecDepth 100000 in
theorem ql209 : zk_run qK qP141 code 4 qC141 (some .boolean) [] none 100 true 92 37171 209 qx209 = true := by decide +kernel
set_option maxRecDepth 100000 in
theorem ql508 : zk_run qK qP141 code 4 qC141 (some .boolean) [] none 100 true 92 37171 508 qx508 = true := by decide +kernel
set_option maxRecDepth 100000 in
theorem ql590 : zk_run qK qP141 code 4 qC141 (some .boolean) [] none 100 true 92 37171 590 qx590 = true := by decide +kernel
set_option maxRecDepth 100000 in
theorem ql623 : zk_run qK qP141 code 4 qC141 (some .boolean) [] none 100 true 92 37171 623 qx623 = true := by decide +kernel
set_option maxRecDepth 100000 in
theorem ql933 : zk_run qK qP141 code 4 qC141 (some .boolean) [] none 100 true 92 37171 933 qx933 = true := by decide +kernel
set_option maxRecDepth 100000 in
theorem ql956 : zk_run qK qP141 code 4 qC141 (some .boolean) [] none 100 true 92 37171 956 qx956 = true := by decide +kernel
set_option maxRecDepth 100000 in
theorem ql1262 : zk_run qK qP141 code 4 qC141 (some .boolean) [] none 100 true 92 37171 1262 qx1262 = true := by decide +kernel
set_option maxRecDepth 100000 in
theorem ql1295 : zk_run qK qP141 code 4 qC141 (some .boolean) [] none 100 true 92 37171 1295 qx1295 = true := by decide +kernel
set_option maxRecDepth 100000 in
theorem ql1529 : zk_run qK qP141 code 4 qC141 (some .boolean) [] none 100 true 92 37171 1529 qx1529 = true := by decide +kernel
