/-! THE LAW from its cases, 3 -/
set_option maxRecDepth 100000 in
theorem ql196 : zk_run qK qP141 code 4 qC141 (some .boolean) [] none 100 true 92 37171 196 qx196 = true := by decide +kernel
set_option maxRecDepth 100000 in
theorem ql449 : zk_run qK qP141 code 4 qC141 (some .boolean) [] none 100 true 92 37171 449 qx449 = true := by decide +kernel
set_option maxRecDepth 100000 in
theorem ql676 : zk_run qK qP141 code 4 qC141 (some .boolean) [] none 100 true 92 37171 676 qx676 = true := by decide +kernel
set_option maxRecDepth 100000 in
theorem ql768 : zk_run qK qP141 code 4 qC141 (some .boolean) [] none 100 true 92 37171 768 qx768 = true := by decide +kernel
set_option maxRecDepth 100000 in
theorem ql854 : zk_run qK qP141 code 4 qC141 (some .boolean) [] none 100 true 92 37171 854 qx854 = true := by decide +kernel
set_option maxRecDepth 100000 in
theorem ql1130 : zk_run qK qP141 code 4 qC141 (some .boolean) [] none 100 true 92 37171 1130 qx1130 = true := by decide +kernel
set_option maxRecDepth 100000 in
theorem ql1173 : zk_run qK qP141 code 4 qC141 (some .boolean) [] none 100 true 92 37171 1173 qx1173 = true := by decide +kernel
set_option maxRecDepth 100000 in
theorem ql1196 : zk_run qK qP141 code 4 qC141 (some .boolean) [] none 100 true 92 37171 1196 qx1196 = true := by decide +kernel
set_option maxRecDepth 100000 in
theorem ql1331 : zk_run qK qP141 code 4 qC141 (some .boolean) [] none 100 true 92 37171 1331 qx1331 = true := by decide +kernel
