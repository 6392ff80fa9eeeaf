/-! the law's loop, checked -/
set_option maxRecDepth 1000000 in
theorem lk_14 : lawC 14 [14, 40, 13, 15] = true := by decide +kernel
set_option maxRecDepth 1000000 in
theorem lk_15 : lawC 15 [15, 40, 14, 16] = true := by decide +kernel
set_option maxRecDepth 1000000 in
theorem lk_16 : lawC 16 [16, 40, 15, 17] = true := by decide +kernel
set_option maxRecDepth 1000000 in
theorem lk_17 : lawC 17 [17, 40, 16, 18] = true := by decide +kernel
set_option maxRecDepth 1000000 in
theorem lk_18 : lawC 18 [18, 40, 17, 19] = true := by decide +kernel
set_option maxRecDepth 1000000 in
theorem lk_19 : lawC 19 [19, 40, 18, 20] = true := by decide +kernel
set_option maxRecDepth 1000000 in
theorem lk_20 : lawC 20 [20, 40, 19, 21] = true := by decide +kernel
