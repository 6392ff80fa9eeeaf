/-! the law's loop, checked -/
set_option maxRecDepth 1000000 in
theorem lk_35 : lawC 35 [35, 40, 34, 36] = true := by decide +kernel
set_option maxRecDepth 1000000 in
theorem lk_36 : lawC 36 [36, 40, 35, 37] = true := by decide +kernel
set_option maxRecDepth 1000000 in
theorem lk_37 : lawC 37 [37, 40, 36, 38] = true := by decide +kernel
set_option maxRecDepth 1000000 in
theorem lk_38 : lawC 38 [38, 40, 37, 39] = true := by decide +kernel
set_option maxRecDepth 1000000 in
theorem lk_39 : lawC 39 [39, 40, 38] = true := by decide +kernel
set_option maxRecDepth 1000000 in
theorem lk_40 : lawC 40 [40, 39] = true := by decide +kernel
