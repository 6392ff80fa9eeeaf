/-! the law's loop, checked -/
set_option maxRecDepth 1000000 in
theorem lk_0 : lawC 0 [0, 40, 1] = true := by decide +kernel
set_option maxRecDepth 1000000 in
theorem lk_1 : lawC 1 [1, 40, 0, 2] = true := by decide +kernel
set_option maxRecDepth 1000000 in
theorem lk_2 : lawC 2 [2, 40, 1, 3] = true := by decide +kernel
set_option maxRecDepth 1000000 in
theorem lk_3 : lawC 3 [3, 40, 2, 4] = true := by decide +kernel
set_option maxRecDepth 1000000 in
theorem lk_4 : lawC 4 [4, 40, 3, 5] = true := by decide +kernel
set_option maxRecDepth 1000000 in
theorem lk_5 : lawC 5 [5, 40, 4, 6] = true := by decide +kernel
set_option maxRecDepth 1000000 in
theorem lk_6 : lawC 6 [6, 40, 5, 7] = true := by decide +kernel
