/-- X8_readEither -/
def ct_168 : qCt := (291, 32, false, [(1, 2), (1, 3), (1, 4), (1, 5), (1, 6), (20, 4), (20, 5), (21, 9999), (22, 9999), (25, 7), (25, 8)], ([], [(0, .inr (.inr (some 25))), (1, .inl (0, 3))], ([(0, 0)], [], []), []), [([.inl 0], some (.inl (1, 0)), ([(0, 0), (0, 1)], [], []), [])])
def cu_168 : List qCu := [(8, ([.inl 2, .inl 3], [(0, .inr (.inr (some 25))), (1, .inl (0, 3)), (2, .inl (1, 0)), (3, .inl (2, 0))], ([(0, 0), (0, 1), (0, 1600)], [], []), []), [(false, (0, 90)), (true, (2, 1600))])]
set_option maxRecDepth 1000000 in
theorem ck_168 : chkM qH [ct_167, ct_138] [] 2 1000000 ct_168 cu_168 = true := by decide +kernel
theorem co_168 {L : List Nat}  : CtOK qH QB L ct_168 := chkM_ok QB_lasts qH_w (all_cons (co_167) (all_cons (co_138) all_nil)) (by decide +kernel) ck_168
/-- X8_readUnit -/
def ct_169 : qCt := (298, 33, false, [(1, 2), (1, 3), (1, 4), (1, 5), (1, 6), (20, 4), (20, 5), (21, 9999), (22, 9999), (25, 7), (25, 8)], ([], [(0, .inr (.inr (some 25))), (1, .inl (0, 2))], ([(0, 0)], [], []), []), [([.inl 0], some (.inl (1, 0)), ([(0, 0), (0, 1)], [], []), [])])
def cu_169 : List qCu := []
set_option maxRecDepth 1000000 in
theorem ck_169 : chkM qH [ct_138, ct_168] [] 0 1000000 ct_169 cu_169 = true := by decide +kernel
theorem co_169 {L : List Nat}  : CtOK qH QB L ct_169 := chkM_ok QB_lasts qH_w (all_cons (co_138) (all_cons (co_168) all_nil)) (by decide +kernel) ck_169
/-- X8_readTerm -/
def ct_170 : qCt := (297, 34, false, [(1, 2), (1, 3), (1, 4), (1, 5), (1, 6), (20, 4), (20, 5), (21, 9999), (22, 9999), (25, 7), (25, 8)], ([], [(0, .inr (.inr (some 25))), (1, .inl (0, 2))], ([(0, 0)], [], []), []), [([.inl 0], some (.inl (1, 0)), ([(0, 0), (0, 1)], [], []), [])])
def cu_170 : List qCu := [(8, ([.inl 2, .inl 3], [(0, .inr (.inr (some 25))), (1, .inl (0, 2)), (2, .inl (1, 0)), (3, .inl (2, 0))], ([(0, 0), (0, 1), (0, 1600)], [], []), []), [(false, (0, 90)), (true, (2, 1600))])]
set_option maxRecDepth 1000000 in
theorem ck_170 : chkM qH [ct_169, ct_138] [] 2 1000000 ct_170 cu_170 = true := by decide +kernel
theorem co_170 {L : List Nat}  : CtOK qH QB L ct_170 := chkM_ok QB_lasts qH_w (all_cons (co_169) (all_cons (co_138) all_nil)) (by decide +kernel) ck_170
/-- X8_readSum -/
def ct_171 : qCt := (296, 35, false, [(1, 2), (1, 3), (1, 4), (1, 5), (1, 6), (20, 4), (20, 5), (21, 9999), (22, 9999), (25, 7), (25, 8)], ([], [(0, .inr (.inr (some 25))), (1, .inl (0, 2))], ([(0, 0)], [], []), []), [([.inl 0], some (.inl (1, 0)), ([(0, 0), (0, 1)], [], []), [])])
def cu_171 : List qCu := [(8, ([.inl 2, .inl 3], [(0, .inr (.inr (some 25))), (1, .inl (0, 2)), (2, .inl (1, 0)), (3, .inl (2, 0))], ([(0, 0), (0, 1), (0, 1600)], [], []), []), [(false, (0, 90)), (true, (2, 1600))])]
set_option maxRecDepth 1000000 in
theorem ck_171 : chkM qH [ct_170, ct_138] [] 2 1000000 ct_171 cu_171 = true := by decide +kernel
theorem co_171 {L : List Nat}  : CtOK qH QB L ct_171 := chkM_ok QB_lasts qH_w (all_cons (co_170) (all_cons (co_138) all_nil)) (by decide +kernel) ck_171
/-- X8_readOne -/
def ct_172 : qCt := (295, 36, false, [(1, 2), (1, 3), (1, 4), (1, 5), (1, 6), (20, 4), (20, 5), (21, 9999), (22, 9999), (25, 7), (25, 8)], ([], [(0, .inr (.inr (some 25))), (1, .inl (0, 2))], ([(0, 0)], [], []), []), [([.inl 0], some (.inl (1, 0)), ([(0, 0), (0, 1)], [], []), [])])
def cu_172 : List qCu := []
set_option maxRecDepth 1000000 in
theorem ck_172 : chkM qH [ct_138, ct_166, ct_171] [] 0 1000000 ct_172 cu_172 = true := by decide +kernel
theorem co_172 {L : List Nat}  : CtOK qH QB L ct_172 := chkM_ok QB_lasts qH_w (all_cons (co_138) (all_cons (co_166) (all_cons (co_171) all_nil))) (by decide +kernel) ck_172
/-- X8_readBoth -/
def ct_173 : qCt := (294, 37, false, [(1, 2), (1, 3), (1, 4), (1, 5), (1, 6), (20, 4), (20, 5), (21, 9999), (22, 9999), (25, 7), (25, 8)], ([], [(0, .inr (.inr (some 25))), (1, .inl (0, 2))], ([(0, 0)], [], []), []), [([.inl 0], some (.inl (1, 0)), ([(0, 0), (0, 1)], [], []), [])])
def cu_173 : List qCu := [(8, ([.inl 2, .inl 3], [(0, .inr (.inr (some 25))), (1, .inl (0, 2)), (2, .inl (1, 0)), (3, .inl (2, 0))], ([(0, 0), (0, 1), (0, 1600)], [], []), []), [(false, (0, 90)), (true, (2, 1600))])]
set_option maxRecDepth 1000000 in
theorem ck_173 : chkM qH [ct_172, ct_138] [] 2 1000000 ct_173 cu_173 = true := by decide +kernel
theorem co_173 {L : List Nat}  : CtOK qH QB L ct_173 := chkM_ok QB_lasts qH_w (all_cons (co_172) (all_cons (co_138) all_nil)) (by decide +kernel) ck_173
/-- X8_readEither -/
def ct_174 : qCt := (291, 38, false, [(1, 2), (1, 3), (1, 4), (1, 5), (1, 6), (20, 4), (20, 5), (21, 9999), (22, 9999), (25, 7), (25, 8)], ([], [(0, .inr (.inr (some 25))), (1, .inl (0, 2))], ([(0, 0)], [], []), []), [([.inl 0], some (.inl (1, 0)), ([(0, 0), (0, 1)], [], []), [])])
def cu_174 : List qCu := [(8, ([.inl 2, .inl 3], [(0, .inr (.inr (some 25))), (1, .inl (0, 2)), (2, .inl (1, 0)), (3, .inl (2, 0))], ([(0, 0), (0, 1), (0, 1600)], [], []), []), [(false, (0, 90)), (true, (2, 1600))])]
set_option maxRecDepth 1000000 in
theorem ck_174 : chkM qH [ct_173, ct_138] [] 2 1000000 ct_174 cu_174 = true := by decide +kernel
theorem co_174 {L : List Nat}  : CtOK qH QB L ct_174 := chkM_ok QB_lasts qH_w (all_cons (co_173) (all_cons (co_138) all_nil)) (by decide +kernel) ck_174
/-- X8_readUnit -/
def ct_175 : qCt := (298, 39, false, [(1, 2), (1, 3), (1, 4), (1, 5), (1, 6), (20, 4), (20, 5), (21, 9999), (22, 9999), (25, 7), (25, 8)], ([], [(0, .inr (.inr (some 25))), (1, .inl (0, 1))], ([(0, 0)], [], []), []), [([.inl 0], some (.inl (1, 0)), ([(0, 0), (0, 1)], [], []), [])])
def cu_175 : List qCu := []
set_option maxRecDepth 1000000 in
theorem ck_175 : chkM qH [ct_138, ct_174] [] 0 1000000 ct_175 cu_175 = true := by decide +kernel
theorem co_175 {L : List Nat}  : CtOK qH QB L ct_175 := chkM_ok QB_lasts qH_w (all_cons (co_138) (all_cons (co_174) all_nil)) (by decide +kernel) ck_175
/-- X8_readTerm -/
def ct_176 : qCt := (297, 40, false, [(1, 2), (1, 3), (1, 4), (1, 5), (1, 6), (20, 4), (20, 5), (21, 9999), (22, 9999), (25, 7), (25, 8)], ([], [(0, .inr (.inr (some 25))), (1, .inl (0, 1))], ([(0, 0)], [], []), []), [([.inl 0], some (.inl (1, 0)), ([(0, 0), (0, 1)], [], []), [])])
def cu_176 : List qCu := [(8, ([.inl 2, .inl 3], [(0, .inr (.inr (some 25))), (1, .inl (0, 1)), (2, .inl (1, 0)), (3, .inl (2, 0))], ([(0, 0), (0, 1), (0, 1600)], [], []), []), [(false, (0, 90)), (true, (2, 1600))])]
set_option maxRecDepth 1000000 in
theorem ck_176 : chkM qH [ct_175, ct_138] [] 2 1000000 ct_176 cu_176 = true := by decide +kernel
theorem co_176 {L : List Nat}  : CtOK qH QB L ct_176 := chkM_ok QB_lasts qH_w (all_cons (co_175) (all_cons (co_138) all_nil)) (by decide +kernel) ck_176
/-- X8_readSum -/
def ct_177 : qCt := (296, 41, false, [(1, 2), (1, 3), (1, 4), (1, 5), (1, 6), (20, 4), (20, 5), (21, 9999), (22, 9999), (25, 7), (25, 8)], ([], [(0, .inr (.inr (some 25))), (1, .inl (0, 1))], ([(0, 0)], [], []), []), [([.inl 0], some (.inl (1, 0)), ([(0, 0), (0, 1)], [], []), [])])
def cu_177 : List qCu := [(8, ([.inl 2, .inl 3], [(0, .inr (.inr (some 25))), (1, .inl (0, 1)), (2, .inl (1, 0)), (3, .inl (2, 0))], ([(0, 0), (0, 1), (0, 1600)], [], []), []), [(false, (0, 90)), (true, (2, 1600))])]
set_option maxRecDepth 1000000 in
theorem ck_177 : chkM qH [ct_176, ct_138] [] 2 1000000 ct_177 cu_177 = true := by decide +kernel
theorem co_177 {L : List Nat}  : CtOK qH QB L ct_177 := chkM_ok QB_lasts qH_w (all_cons (co_176) (all_cons (co_138) all_nil)) (by decide +kernel) ck_177
