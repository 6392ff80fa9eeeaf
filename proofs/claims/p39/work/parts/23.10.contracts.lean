/-- X8_readUnit -/
def ct_139 : qCt := (298, 3, false, [(1, 2), (1, 3), (1, 4), (1, 5), (1, 6), (20, 4), (20, 5), (21, 9999), (22, 9999), (25, 7), (25, 8)], ([], [(0, .inr (.inr (some 25))), (1, .inl (0, 7))], ([(0, 0)], [], []), []), [([.inl 0], some (.inl (1, 0)), ([(0, 0), (0, 1)], [], []), [])])
def cu_139 : List qCu := []
set_option maxRecDepth 1000000 in
theorem ck_139 : chkM qH [ct_138] [] 0 1000000 ct_139 cu_139 = true := by decide +kernel
theorem co_139 {L : List Nat}  : CtOK qH QB L ct_139 := chkM_ok QB_lasts qH_w (all_cons (co_138) all_nil) (by decide +kernel) ck_139
/-- X8_readTerm -/
def ct_140 : qCt := (297, 4, false, [(1, 2), (1, 3), (1, 4), (1, 5), (1, 6), (20, 4), (20, 5), (21, 9999), (22, 9999), (25, 7), (25, 8)], ([], [(0, .inr (.inr (some 25))), (1, .inl (0, 7))], ([(0, 0)], [], []), []), [([.inl 0], some (.inl (1, 0)), ([(0, 0), (0, 1)], [], []), [])])
def cu_140 : List qCu := [(8, ([.inl 2, .inl 3], [(0, .inr (.inr (some 25))), (1, .inl (0, 7)), (2, .inl (1, 0)), (3, .inl (2, 0))], ([(0, 0), (0, 1), (0, 1600)], [], []), []), [(false, (0, 90)), (true, (2, 1600))])]
set_option maxRecDepth 1000000 in
theorem ck_140 : chkM qH [ct_139, ct_138] [] 2 1000000 ct_140 cu_140 = true := by decide +kernel
theorem co_140 {L : List Nat}  : CtOK qH QB L ct_140 := chkM_ok QB_lasts qH_w (all_cons (co_139) (all_cons (co_138) all_nil)) (by decide +kernel) ck_140
/-- X8_readSum -/
def ct_141 : qCt := (296, 5, false, [(1, 2), (1, 3), (1, 4), (1, 5), (1, 6), (20, 4), (20, 5), (21, 9999), (22, 9999), (25, 7), (25, 8)], ([], [(0, .inr (.inr (some 25))), (1, .inl (0, 7))], ([(0, 0)], [], []), []), [([.inl 0], some (.inl (1, 0)), ([(0, 0), (0, 1)], [], []), [])])
def cu_141 : List qCu := [(8, ([.inl 2, .inl 3], [(0, .inr (.inr (some 25))), (1, .inl (0, 7)), (2, .inl (1, 0)), (3, .inl (2, 0))], ([(0, 0), (0, 1), (0, 1600)], [], []), []), [(false, (0, 90)), (true, (2, 1600))])]
set_option maxRecDepth 1000000 in
theorem ck_141 : chkM qH [ct_140, ct_138] [] 2 1000000 ct_141 cu_141 = true := by decide +kernel
theorem co_141 {L : List Nat}  : CtOK qH QB L ct_141 := chkM_ok QB_lasts qH_w (all_cons (co_140) (all_cons (co_138) all_nil)) (by decide +kernel) ck_141
/-- X8_readOne -/
def ct_142 : qCt := (295, 6, false, [(1, 2), (1, 3), (1, 4), (1, 5), (1, 6), (20, 4), (20, 5), (21, 9999), (22, 9999), (25, 7), (25, 8)], ([], [(0, .inr (.inr (some 25))), (1, .inl (0, 7))], ([(0, 0)], [], []), []), [([.inl 0], some (.inl (1, 0)), ([(0, 0), (0, 1)], [], []), [])])
def cu_142 : List qCu := []
set_option maxRecDepth 1000000 in
theorem ck_142 : chkM qH [ct_141, ct_138] [] 0 1000000 ct_142 cu_142 = true := by decide +kernel
theorem co_142 {L : List Nat}  : CtOK qH QB L ct_142 := chkM_ok QB_lasts qH_w (all_cons (co_141) (all_cons (co_138) all_nil)) (by decide +kernel) ck_142
/-- X8_readBoth -/
def ct_143 : qCt := (294, 7, false, [(1, 2), (1, 3), (1, 4), (1, 5), (1, 6), (20, 4), (20, 5), (21, 9999), (22, 9999), (25, 7), (25, 8)], ([], [(0, .inr (.inr (some 25))), (1, .inl (0, 7))], ([(0, 0)], [], []), []), [([.inl 0], some (.inl (1, 0)), ([(0, 0), (0, 1)], [], []), [])])
def cu_143 : List qCu := [(8, ([.inl 2, .inl 3], [(0, .inr (.inr (some 25))), (1, .inl (0, 7)), (2, .inl (1, 0)), (3, .inl (2, 0))], ([(0, 0), (0, 1), (0, 1600)], [], []), []), [(false, (0, 90)), (true, (2, 1600))])]
set_option maxRecDepth 1000000 in
theorem ck_143 : chkM qH [ct_142, ct_138] [] 2 1000000 ct_143 cu_143 = true := by decide +kernel
theorem co_143 {L : List Nat}  : CtOK qH QB L ct_143 := chkM_ok QB_lasts qH_w (all_cons (co_142) (all_cons (co_138) all_nil)) (by decide +kernel) ck_143
/-- X8_readEither -/
def ct_144 : qCt := (291, 8, false, [(1, 2), (1, 3), (1, 4), (1, 5), (1, 6), (20, 4), (20, 5), (21, 9999), (22, 9999), (25, 7), (25, 8)], ([], [(0, .inr (.inr (some 25))), (1, .inl (0, 7))], ([(0, 0)], [], []), []), [([.inl 0], some (.inl (1, 0)), ([(0, 0), (0, 1)], [], []), [])])
def cu_144 : List qCu := [(8, ([.inl 2, .inl 3], [(0, .inr (.inr (some 25))), (1, .inl (0, 7)), (2, .inl (1, 0)), (3, .inl (2, 0))], ([(0, 0), (0, 1), (0, 1600)], [], []), []), [(false, (0, 90)), (true, (2, 1600))])]
set_option maxRecDepth 1000000 in
theorem ck_144 : chkM qH [ct_143, ct_138] [] 2 1000000 ct_144 cu_144 = true := by decide +kernel
theorem co_144 {L : List Nat}  : CtOK qH QB L ct_144 := chkM_ok QB_lasts qH_w (all_cons (co_143) (all_cons (co_138) all_nil)) (by decide +kernel) ck_144
/-- X8_readUnit -/
def ct_145 : qCt := (298, 9, false, [(1, 2), (1, 3), (1, 4), (1, 5), (1, 6), (20, 4), (20, 5), (21, 9999), (22, 9999), (25, 7), (25, 8)], ([], [(0, .inr (.inr (some 25))), (1, .inl (0, 6))], ([(0, 0)], [], []), []), [([.inl 0], some (.inl (1, 0)), ([(0, 0), (0, 1)], [], []), [])])
def cu_145 : List qCu := []
set_option maxRecDepth 1000000 in
theorem ck_145 : chkM qH [ct_138, ct_144] [] 0 1000000 ct_145 cu_145 = true := by decide +kernel
theorem co_145 {L : List Nat}  : CtOK qH QB L ct_145 := chkM_ok QB_lasts qH_w (all_cons (co_138) (all_cons (co_144) all_nil)) (by decide +kernel) ck_145
/-- X8_readTerm -/
def ct_146 : qCt := (297, 10, false, [(1, 2), (1, 3), (1, 4), (1, 5), (1, 6), (20, 4), (20, 5), (21, 9999), (22, 9999), (25, 7), (25, 8)], ([], [(0, .inr (.inr (some 25))), (1, .inl (0, 6))], ([(0, 0)], [], []), []), [([.inl 0], some (.inl (1, 0)), ([(0, 0), (0, 1)], [], []), [])])
def cu_146 : List qCu := [(8, ([.inl 2, .inl 3], [(0, .inr (.inr (some 25))), (1, .inl (0, 6)), (2, .inl (1, 0)), (3, .inl (2, 0))], ([(0, 0), (0, 1), (0, 1600)], [], []), []), [(false, (0, 90)), (true, (2, 1600))])]
set_option maxRecDepth 1000000 in
theorem ck_146 : chkM qH [ct_145, ct_138] [] 2 1000000 ct_146 cu_146 = true := by decide +kernel
theorem co_146 {L : List Nat}  : CtOK qH QB L ct_146 := chkM_ok QB_lasts qH_w (all_cons (co_145) (all_cons (co_138) all_nil)) (by decide +kernel) ck_146
/-- X8_readSum -/
def ct_147 : qCt := (296, 11, false, [(1, 2), (1, 3), (1, 4), (1, 5), (1, 6), (20, 4), (20, 5), (21, 9999), (22, 9999), (25, 7), (25, 8)], ([], [(0, .inr (.inr (some 25))), (1, .inl (0, 6))], ([(0, 0)], [], []), []), [([.inl 0], some (.inl (1, 0)), ([(0, 0), (0, 1)], [], []), [])])
def cu_147 : List qCu := [(8, ([.inl 2, .inl 3], [(0, .inr (.inr (some 25))), (1, .inl (0, 6)), (2, .inl (1, 0)), (3, .inl (2, 0))], ([(0, 0), (0, 1), (0, 1600)], [], []), []), [(false, (0, 90)), (true, (2, 1600))])]
set_option maxRecDepth 1000000 in
theorem ck_147 : chkM qH [ct_146, ct_138] [] 2 1000000 ct_147 cu_147 = true := by decide +kernel
theorem co_147 {L : List Nat}  : CtOK qH QB L ct_147 := chkM_ok QB_lasts qH_w (all_cons (co_146) (all_cons (co_138) all_nil)) (by decide +kernel) ck_147
