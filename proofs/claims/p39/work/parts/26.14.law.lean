/-! the law's loop, checked -/
set_option maxRecDepth 1000000 in
theorem lk_28 : lawC 28 [28, 40, 27, 29] = true := by decide +kernel
set_option maxRecDepth 1000000 in
theorem lk_29 : lawC 29 [29, 40, 28, 30] = true := by decide +kernel
set_option maxRecDepth 1000000 in
theorem lk_30 : lawC 30 [30, 40, 29, 31] = true := by decide +kernel
set_option maxRecDepth 1000000 in
theorem lk_31 : lawC 31 [31, 40, 30, 32] = true := by decide +kernel
set_option maxRecDepth 1000000 in
theorem lk_32 : lawC 32 [32, 40, 31, 33] = true := by decide +kernel
set_option maxRecDepth 1000000 in
theorem lk_33 : lawC 33 [33, 40, 32, 34] = true := by decide +kernel
set_option maxRecDepth 1000000 in
theorem lk_34 : lawC 34 [34, 40, 33, 35] = true := by decide +kernel
