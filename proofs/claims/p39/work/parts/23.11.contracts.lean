/-- X8_readOne -/
def ct_148 : qCt := (295, 12, false, [(1, 2), (1, 3), (1, 4), (1, 5), (1, 6), (20, 4), (20, 5), (21, 9999), (22, 9999), (25, 7), (25, 8)], ([], [(0, .inr (.inr (some 25))), (1, .inl (0, 6))], ([(0, 0)], [], []), []), [([.inl 0], some (.inl (1, 0)), ([(0, 0), (0, 1)], [], []), [])])
def cu_148 : List qCu := []
set_option maxRecDepth 1000000 in
theorem ck_148 : chkM qH [ct_138, ct_142, ct_147] [] 0 1000000 ct_148 cu_148 = true := by decide +kernel
theorem co_148 {L : List Nat}  : CtOK qH QB L ct_148 := chkM_ok QB_lasts qH_w (all_cons (co_138) (all_cons (co_142) (all_cons (co_147) all_nil))) (by decide +kernel) ck_148
/-- X8_readBoth -/
def ct_149 : qCt := (294, 13, false, [(1, 2), (1, 3), (1, 4), (1, 5), (1, 6), (20, 4), (20, 5), (21, 9999), (22, 9999), (25, 7), (25, 8)], ([], [(0, .inr (.inr (some 25))), (1, .inl (0, 6))], ([(0, 0)], [], []), []), [([.inl 0], some (.inl (1, 0)), ([(0, 0), (0, 1)], [], []), [])])
def cu_149 : List qCu := [(8, ([.inl 2, .inl 3], [(0, .inr (.inr (some 25))), (1, .inl (0, 6)), (2, .inl (1, 0)), (3, .inl (2, 0))], ([(0, 0), (0, 1), (0, 1600)], [], []), []), [(false, (0, 90)), (true, (2, 1600))])]
set_option maxRecDepth 1000000 in
theorem ck_149 : chkM qH [ct_148, ct_138] [] 2 1000000 ct_149 cu_149 = true := by decide +kernel
theorem co_149 {L : List Nat}  : CtOK qH QB L ct_149 := chkM_ok QB_lasts qH_w (all_cons (co_148) (all_cons (co_138) all_nil)) (by decide +kernel) ck_149
/-- X8_readEither -/
def ct_150 : qCt := (291, 14, false, [(1, 2), (1, 3), (1, 4), (1, 5), (1, 6), (20, 4), (20, 5), (21, 9999), (22, 9999), (25, 7), (25, 8)], ([], [(0, .inr (.inr (some 25))), (1, .inl (0, 6))], ([(0, 0)], [], []), []), [([.inl 0], some (.inl (1, 0)), ([(0, 0), (0, 1)], [], []), [])])
def cu_150 : List qCu := [(8, ([.inl 2, .inl 3], [(0, .inr (.inr (some 25))), (1, .inl (0, 6)), (2, .inl (1, 0)), (3, .inl (2, 0))], ([(0, 0), (0, 1), (0, 1600)], [], []), []), [(false, (0, 90)), (true, (2, 1600))])]
set_option maxRecDepth 1000000 in
theorem ck_150 : chkM qH [ct_149, ct_138] [] 2 1000000 ct_150 cu_150 = true := by decide +kernel
theorem co_150 {L : List Nat}  : CtOK qH QB L ct_150 := chkM_ok QB_lasts qH_w (all_cons (co_149) (all_cons (co_138) all_nil)) (by decide +kernel) ck_150
/-- X8_readUnit -/
def ct_151 : qCt := (298, 15, false, [(1, 2), (1, 3), (1, 4), (1, 5), (1, 6), (20, 4), (20, 5), (21, 9999), (22, 9999), (25, 7), (25, 8)], ([], [(0, .inr (.inr (some 25))), (1, .inl (0, 5))], ([(0, 0)], [], []), []), [([.inl 0], some (.inl (1, 0)), ([(0, 0), (0, 1)], [], []), [])])
def cu_151 : List qCu := []
set_option maxRecDepth 1000000 in
theorem ck_151 : chkM qH [ct_138, ct_150] [] 0 1000000 ct_151 cu_151 = true := by decide +kernel
theorem co_151 {L : List Nat}  : CtOK qH QB L ct_151 := chkM_ok QB_lasts qH_w (all_cons (co_138) (all_cons (co_150) all_nil)) (by decide +kernel) ck_151
/-- X8_readTerm -/
def ct_152 : qCt := (297, 16, false, [(1, 2), (1, 3), (1, 4), (1, 5), (1, 6), (20, 4), (20, 5), (21, 9999), (22, 9999), (25, 7), (25, 8)], ([], [(0, .inr (.inr (some 25))), (1, .inl (0, 5))], ([(0, 0)], [], []), []), [([.inl 0], some (.inl (1, 0)), ([(0, 0), (0, 1)], [], []), [])])
def cu_152 : List qCu := [(8, ([.inl 2, .inl 3], [(0, .inr (.inr (some 25))), (1, .inl (0, 5)), (2, .inl (1, 0)), (3, .inl (2, 0))], ([(0, 0), (0, 1), (0, 1600)], [], []), []), [(false, (0, 90)), (true, (2, 1600))])]
set_option maxRecDepth 1000000 in
theorem ck_152 : chkM qH [ct_151, ct_138] [] 2 1000000 ct_152 cu_152 = true := by decide +kernel
theorem co_152 {L : List Nat}  : CtOK qH QB L ct_152 := chkM_ok QB_lasts qH_w (all_cons (co_151) (all_cons (co_138) all_nil)) (by decide +kernel) ck_152
/-- X8_readSum -/
def ct_153 : qCt := (296, 17, false, [(1, 2), (1, 3), (1, 4), (1, 5), (1, 6), (20, 4), (20, 5), (21, 9999), (22, 9999), (25, 7), (25, 8)], ([], [(0, .inr (.inr (some 25))), (1, .inl (0, 5))], ([(0, 0)], [], []), []), [([.inl 0], some (.inl (1, 0)), ([(0, 0), (0, 1)], [], []), [])])
def cu_153 : List qCu := [(8, ([.inl 2, .inl 3], [(0, .inr (.inr (some 25))), (1, .inl (0, 5)), (2, .inl (1, 0)), (3, .inl (2, 0))], ([(0, 0), (0, 1), (0, 1600)], [], []), []), [(false, (0, 90)), (true, (2, 1600))])]
set_option maxRecDepth 1000000 in
theorem ck_153 : chkM qH [ct_152, ct_138] [] 2 1000000 ct_153 cu_153 = true := by decide +kernel
theorem co_153 {L : List Nat}  : CtOK qH QB L ct_153 := chkM_ok QB_lasts qH_w (all_cons (co_152) (all_cons (co_138) all_nil)) (by decide +kernel) ck_153
/-- X8_readOne -/
def ct_154 : qCt := (295, 18, false, [(1, 2), (1, 3), (1, 4), (1, 5), (1, 6), (20, 4), (20, 5), (21, 9999), (22, 9999), (25, 7), (25, 8)], ([], [(0, .inr (.inr (some 25))), (1, .inl (0, 5))], ([(0, 0)], [], []), []), [([.inl 0], some (.inl (1, 0)), ([(0, 0), (0, 1)], [], []), [])])
def cu_154 : List qCu := []
set_option maxRecDepth 1000000 in
theorem ck_154 : chkM qH [ct_138, ct_148, ct_153] [] 0 1000000 ct_154 cu_154 = true := by decide +kernel
theorem co_154 {L : List Nat}  : CtOK qH QB L ct_154 := chkM_ok QB_lasts qH_w (all_cons (co_138) (all_cons (co_148) (all_cons (co_153) all_nil))) (by decide +kernel) ck_154
/-- X8_readBoth -/
def ct_155 : qCt := (294, 19, false, [(1, 2), (1, 3), (1, 4), (1, 5), (1, 6), (20, 4), (20, 5), (21, 9999), (22, 9999), (25, 7), (25, 8)], ([], [(0, .inr (.inr (some 25))), (1, .inl (0, 5))], ([(0, 0)], [], []), []), [([.inl 0], some (.inl (1, 0)), ([(0, 0), (0, 1)], [], []), [])])
def cu_155 : List qCu := [(8, ([.inl 2, .inl 3], [(0, .inr (.inr (some 25))), (1, .inl (0, 5)), (2, .inl (1, 0)), (3, .inl (2, 0))], ([(0, 0), (0, 1), (0, 1600)], [], []), []), [(false, (0, 90)), (true, (2, 1600))])]
set_option maxRecDepth 1000000 in
theorem ck_155 : chkM qH [ct_154, ct_138] [] 2 1000000 ct_155 cu_155 = true := by decide +kernel
theorem co_155 {L : List Nat}  : CtOK qH QB L ct_155 := chkM_ok QB_lasts qH_w (all_cons (co_154) (all_cons (co_138) all_nil)) (by decide +kernel) ck_155
/-- X8_readEither -/
def ct_156 : qCt := (291, 20, false, [(1, 2), (1, 3), (1, 4), (1, 5), (1, 6), (20, 4), (20, 5), (21, 9999), (22, 9999), (25, 7), (25, 8)], ([], [(0, .inr (.inr (some 25))), (1, .inl (0, 5))], ([(0, 0)], [], []), []), [([.inl 0], some (.inl (1, 0)), ([(0, 0), (0, 1)], [], []), [])])
def cu_156 : List qCu := [(8, ([.inl 2, .inl 3], [(0, .inr (.inr (some 25))), (1, .inl (0, 5)), (2, .inl (1, 0)), (3, .inl (2, 0))], ([(0, 0), (0, 1), (0, 1600)], [], []), []), [(false, (0, 90)), (true, (2, 1600))])]
set_option maxRecDepth 1000000 in
theorem ck_156 : chkM qH [ct_155, ct_138] [] 2 1000000 ct_156 cu_156 = true := by decide +kernel
theorem co_156 {L : List Nat}  : CtOK qH QB L ct_156 := chkM_ok QB_lasts qH_w (all_cons (co_155) (all_cons (co_138) all_nil)) (by decide +kernel) ck_156
/-- X8_readUnit -/
def ct_157 : qCt := (298, 21, false, [(1, 2), (1, 3), (1, 4), (1, 5), (1, 6), (20, 4), (20, 5), (21, 9999), (22, 9999), (25, 7), (25, 8)], ([], [(0, .inr (.inr (some 25))), (1, .inl (0, 4))], ([(0, 0)], [], []), []), [([.inl 0], some (.inl (1, 0)), ([(0, 0), (0, 1)], [], []), [])])
def cu_157 : List qCu := []
set_option maxRecDepth 1000000 in
theorem ck_157 : chkM qH [ct_138, ct_156] [] 0 1000000 ct_157 cu_157 = true := by decide +kernel
theorem co_157 {L : List Nat}  : CtOK qH QB L ct_157 := chkM_ok QB_lasts qH_w (all_cons (co_138) (all_cons (co_156) all_nil)) (by decide +kernel) ck_157
