/-! the law's loop, checked -/
set_option maxRecDepth 1000000 in
theorem lk_21 : lawC 21 [21, 40, 20, 22] = true := by decide +kernel
set_option maxRecDepth 1000000 in
theorem lk_22 : lawC 22 [22, 40, 21, 23] = true := by decide +kernel
set_option maxRecDepth 1000000 in
theorem lk_23 : lawC 23 [23, 40, 22, 24] = true := by decide +kernel
set_option maxRecDepth 1000000 in
theorem lk_24 : lawC 24 [24, 40, 23, 25] = true := by decide +kernel
set_option maxRecDepth 1000000 in
theorem lk_25 : lawC 25 [25, 40, 24, 26] = true := by decide +kernel
set_option maxRecDepth 1000000 in
theorem lk_26 : lawC 26 [26, 40, 25, 27] = true := by decide +kernel
set_option maxRecDepth 1000000 in
theorem lk_27 : lawC 27 [27, 40, 26, 28] = true := by decide +kernel
