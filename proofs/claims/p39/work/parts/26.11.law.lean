/-! the law's loop, checked -/
set_option maxRecDepth 1000000 in
theorem lk_7 : lawC 7 [7, 40, 6, 8] = true := by decide +kernel
set_option maxRecDepth 1000000 in
theorem lk_8 : lawC 8 [8, 40, 7, 9] = true := by decide +kernel
set_option maxRecDepth 1000000 in
theorem lk_9 : lawC 9 [9, 40, 8, 10] = true := by decide +kernel
set_option maxRecDepth 1000000 in
theorem lk_10 : lawC 10 [10, 40, 9, 11] = true := by decide +kernel
set_option maxRecDepth 1000000 in
theorem lk_11 : lawC 11 [11, 40, 10, 12] = true := by decide +kernel
set_option maxRecDepth 1000000 in
theorem lk_12 : lawC 12 [12, 40, 11, 13] = true := by decide +kernel
set_option maxRecDepth 1000000 in
theorem lk_13 : lawC 13 [13, 40, 12, 14] = true := by decide +kernel
