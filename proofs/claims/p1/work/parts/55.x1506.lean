/-! THE LAW from its case at 1506 -/
set_option maxRecDepth 100000 in
theorem ql1506_n : zk_rjn qK qP141 code 4 qC141 [] 1515 100 true 92 37171 1506 qx1506 16 = true := by decide +kernel
set_option maxRecDepth 100000 in
theorem ql1506_0 : zk_rj qK qP141 code 4 qC141 (some .boolean) [] none 1515 100 true 92 37171 1506 qx1506 0 = true := by decide +kernel
set_option maxRecDepth 100000 in
theorem ql1506_1 : zk_rj qK qP141 code 4 qC141 (some .boolean) [] none 1515 100 true 92 37171 1506 qx1506 1 = true := by decide +kernel
set_option maxRecDepth 100000 in
theorem ql1506_2 : zk_rj qK qP141 code 4 qC141 (some .boolean) [] none 1515 100 true 92 37171 1506 qx1506 2 = true := by decide +kernel
set_option maxRecDepth 100000 in
theorem ql1506_3 : zk_rj qK qP141 code 4 qC141 (some .boolean) [] none 1515 100 true 92 37171 1506 qx1506 3 = true := by decide +kernel
set_option maxRecDepth 100000 in
theorem ql1506_4 : zk_rj qK qP141 code 4 qC141 (some .boolean) [] none 1515 100 true 92 37171 1506 qx1506 4 = true := by decide +kernel
set_option maxRecDepth 100000 in
theorem ql1506_5 : zk_rj qK qP141 code 4 qC141 (some .boolean) [] none 1515 100 true 92 37171 1506 qx1506 5 = true := by decide +kernel
set_option maxRecDepth 100000 in
theorem ql1506_6 : zk_rj qK qP141 code 4 qC141 (some .boolean) [] none 1515 100 true 92 37171 1506 qx1506 6 = true := by decide +kernel
set_option maxRecDepth 100000 in
theorem ql1506_7 : zk_rj qK qP141 code 4 qC141 (some .boolean) [] none 1515 100 true 92 37171 1506 qx1506 7 = true := by decide +kernel
set_option maxRecDepth 100000 in
theorem ql1506_8 : zk_rj qK qP141 code 4 qC141 (some .boolean) [] none 1515 100 true 92 37171 1506 qx1506 8 = true := by decide +kernel
set_option maxRecDepth 100000 in
theorem ql1506_9 : zk_rj qK qP141 code 4 qC141 (some .boolean) [] none 1515 100 true 92 37171 1506 qx1506 9 = true := by decide +kernel
set_option maxRecDepth 100000 in
theorem ql1506_10 : zk_rj qK qP141 code 4 qC141 (some .boolean) [] none 1515 100 true 92 37171 1506 qx1506 10 = true := by decide +kernel
set_option maxRecDepth 100000 in
theorem ql1506_11 : zk_rj qK qP141 code 4 qC141 (some .boolean) [] none 1515 100 true 92 37171 1506 qx1506 11 = true := by decide +kernel
set_option maxRecDepth 100000 in
theorem ql1506_12 : zk_rj qK qP141 code 4 qC141 (some .boolean) [] none 1515 100 true 92 37171 1506 qx1506 12 = true := by decide +kernel
set_option maxRecDepth 100000 in
theorem ql1506_13 : zk_rj qK qP141 code 4 qC141 (some .boolean) [] none 1515 100 true 92 37171 1506 qx1506 13 = true := by decide +kernel
set_option maxRecDepth 100000 in
theorem ql1506_14 : zk_rj qK qP141 code 4 qC141 (some .boolean) [] none 1515 100 true 92 37171 1506 qx1506 14 = true := by decide +kernel
set_option maxRecDepth 100000 in
theorem ql1506_15 : zk_rj qK qP141 code 4 qC141 (some .boolean) [] none 1515 100 true 92 37171 1506 qx1506 15 = true := by decide +kernel
set_option maxRecDepth 100000 in
theorem ql1506 : zk_run qK qP141 code 4 qC141 (some .boolean) [] none 100 true 92 37171 1506 qx1506 = true :=
  zk_rj_ok ql1506_n (fun j hj => match j, hj with
  | 0, _ => ql1506_0
  | 1, _ => ql1506_1
  | 2, _ => ql1506_2
  | 3, _ => ql1506_3
  | 4, _ => ql1506_4
  | 5, _ => ql1506_5
  | 6, _ => ql1506_6
  | 7, _ => ql1506_7
  | 8, _ => ql1506_8
  | 9, _ => ql1506_9
  | 10, _ => ql1506_10
  | 11, _ => ql1506_11
  | 12, _ => ql1506_12
  | 13, _ => ql1506_13
  | 14, _ => ql1506_14
  | 15, _ => ql1506_15
  | j + 16, hj => absurd hj (by omega))
