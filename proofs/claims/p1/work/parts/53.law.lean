/-! THE LAW from its cases, 2 -/
set_option maxRecDepth 100000 in
theorem ql258 : zk_run qK qP141 code 4 qC141 (some .boolean) [] none 100 true 92 37171 258 qx258 = true := by decide +kernel
set_option maxRecDepth 100000 in
theorem ql426 : zk_run qK qP141 code 4 qC141 (some .boolean) [] none 100 true 92 37171 426 qx426 = true := by decide +kernel
set_option maxRecDepth 100000 in
theorem ql699 : zk_run qK qP141 code 4 qC141 (some .boolean) [] none 100 true 92 37171 699 qx699 = true := by decide +kernel
set_option maxRecDepth 100000 in
theorem ql1005 : zk_run qK qP141 code 4 qC141 (some .boolean) [] none 100 true 92 37171 1005 qx1005 = true := by decide +kernel
set_option maxRecDepth 100000 in
theorem ql1038 : zk_run qK qP141 code 4 qC141 (some .boolean) [] none 100 true 92 37171 1038 qx1038 = true := by decide +kernel
set_option maxRecDepth 100000 in
theorem ql1081 : zk_run qK qP141 code 4 qC141 (some .boolean) [] none 100 true 92 37171 1081 qx1081 = true := by decide +kernel
set_option maxRecDepth 100000 in
theorem ql1239 : zk_run qK qP141 code 4 qC141 (some .boolean) [] none 100 true 92 37171 1239 qx1239 = true := by decide +kernel
set_option maxRecDepth 100000 in
theorem ql1318 : zk_run qK qP141 code 4 qC141 (some .boolean) [] none 100 true 92 37171 1318 qx1318 = true := by decide +kernel
set_option maxRecDepth 100000 in
theorem ql1473 : zk_run qK qP141 code 4 qC141 (some .boolean) [] none 100 true 92 37171 1473 qx1473 = true := by decide +kernel
