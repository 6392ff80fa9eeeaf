/-- X8_readTerm -/
def ct_158 : qCt := (297, 22, false, [(1, 2), (1, 3), (1, 4), (1, 5), (1, 6), (20, 4), (20, 5), (21, 9999), (22, 9999), (25, 7), (25, 8)], ([], [(0, .inr (.inr (some 25))), (1, .inl (0, 4))], ([(0, 0)], [], []), []), [([.inl 0], some (.inl (1, 0)), ([(0, 0), (0, 1)], [], []), [])])
def cu_158 : List qCu := [(8, ([.inl 2, .inl 3], [(0, .inr (.inr (some 25))), (1, .inl (0, 4)), (2, .inl (1, 0)), (3, .inl (2, 0))], ([(0, 0), (0, 1), (0, 1600)], [], []), []), [(false, (0, 90)), (true, (2, 1600))])]
set_option maxRecDepth 1000000 in
theorem ck_158 : chkM qH [ct_157, ct_138] [] 2 1000000 ct_158 cu_158 = true := by decide +kernel
theorem co_158 {L : List Nat}  : CtOK qH QB L ct_158 := chkM_ok QB_lasts qH_w (all_cons (co_157) (all_cons (co_138) all_nil)) (by decide +kernel) ck_158
/-- X8_readSum -/
def ct_159 : qCt := (296, 23, false, [(1, 2), (1, 3), (1, 4), (1, 5), (1, 6), (20, 4), (20, 5), (21, 9999), (22, 9999), (25, 7), (25, 8)], ([], [(0, .inr (.inr (some 25))), (1, .inl (0, 4))], ([(0, 0)], [], []), []), [([.inl 0], some (.inl (1, 0)), ([(0, 0), (0, 1)], [], []), [])])
def cu_159 : List qCu := [(8, ([.inl 2, .inl 3], [(0, .inr (.inr (some 25))), (1, .inl (0, 4)), (2, .inl (1, 0)), (3, .inl (2, 0))], ([(0, 0), (0, 1), (0, 1600)], [], []), []), [(false, (0, 90)), (true, (2, 1600))])]
set_option maxRecDepth 1000000 in
theorem ck_159 : chkM qH [ct_158, ct_138] [] 2 1000000 ct_159 cu_159 = true := by decide +kernel
theorem co_159 {L : List Nat}  : CtOK qH QB L ct_159 := chkM_ok QB_lasts qH_w (all_cons (co_158) (all_cons (co_138) all_nil)) (by decide +kernel) ck_159
/-- X8_readOne -/
def ct_160 : qCt := (295, 24, false, [(1, 2), (1, 3), (1, 4), (1, 5), (1, 6), (20, 4), (20, 5), (21, 9999), (22, 9999), (25, 7), (25, 8)], ([], [(0, .inr (.inr (some 25))), (1, .inl (0, 4))], ([(0, 0)], [], []), []), [([.inl 0], some (.inl (1, 0)), ([(0, 0), (0, 1)], [], []), [])])
def cu_160 : List qCu := []
set_option maxRecDepth 1000000 in
theorem ck_160 : chkM qH [ct_138, ct_154, ct_159] [] 0 1000000 ct_160 cu_160 = true := by decide +kernel
theorem co_160 {L : List Nat}  : CtOK qH QB L ct_160 := chkM_ok QB_lasts qH_w (all_cons (co_138) (all_cons (co_154) (all_cons (co_159) all_nil))) (by decide +kernel) ck_160
/-- X8_readBoth -/
def ct_161 : qCt := (294, 25, false, [(1, 2), (1, 3), (1, 4), (1, 5), (1, 6), (20, 4), (20, 5), (21, 9999), (22, 9999), (25, 7), (25, 8)], ([], [(0, .inr (.inr (some 25))), (1, .inl (0, 4))], ([(0, 0)], [], []), []), [([.inl 0], some (.inl (1, 0)), ([(0, 0), (0, 1)], [], []), [])])
def cu_161 : List qCu := [(8, ([.inl 2, .inl 3], [(0, .inr (.inr (some 25))), (1, .inl (0, 4)), (2, .inl (1, 0)), (3, .inl (2, 0))], ([(0, 0), (0, 1), (0, 1600)], [], []), []), [(false, (0, 90)), (true, (2, 1600))])]
set_option maxRecDepth 1000000 in
theorem ck_161 : chkM qH [ct_160, ct_138] [] 2 1000000 ct_161 cu_161 = true := by decide +kernel
theorem co_161 {L : List Nat}  : CtOK qH QB L ct_161 := chkM_ok QB_lasts qH_w (all_cons (co_160) (all_cons (co_138) all_nil)) (by decide +kernel) ck_161
/-- X8_readEither -/
def ct_162 : qCt := (291, 26, false, [(1, 2), (1, 3), (1, 4), (1, 5), (1, 6), (20, 4), (20, 5), (21, 9999), (22, 9999), (25, 7), (25, 8)], ([], [(0, .inr (.inr (some 25))), (1, .inl (0, 4))], ([(0, 0)], [], []), []), [([.inl 0], some (.inl (1, 0)), ([(0, 0), (0, 1)], [], []), [])])
def cu_162 : List qCu := [(8, ([.inl 2, .inl 3], [(0, .inr (.inr (some 25))), (1, .inl (0, 4)), (2, .inl (1, 0)), (3, .inl (2, 0))], ([(0, 0), (0, 1), (0, 1600)], [], []), []), [(false, (0, 90)), (true, (2, 1600))])]
set_option maxRecDepth 1000000 in
theorem ck_162 : chkM qH [ct_161, ct_138] [] 2 1000000 ct_162 cu_162 = true := by decide +kernel
theorem co_162 {L : List Nat}  : CtOK qH QB L ct_162 := chkM_ok QB_lasts qH_w (all_cons (co_161) (all_cons (co_138) all_nil)) (by decide +kernel) ck_162
/-- X8_readUnit -/
def ct_163 : qCt := (298, 27, false, [(1, 2), (1, 3), (1, 4), (1, 5), (1, 6), (20, 4), (20, 5), (21, 9999), (22, 9999), (25, 7), (25, 8)], ([], [(0, .inr (.inr (some 25))), (1, .inl (0, 3))], ([(0, 0)], [], []), []), [([.inl 0], some (.inl (1, 0)), ([(0, 0), (0, 1)], [], []), [])])
def cu_163 : List qCu := []
set_option maxRecDepth 1000000 in
theorem ck_163 : chkM qH [ct_138, ct_162] [] 0 1000000 ct_163 cu_163 = true := by decide +kernel
theorem co_163 {L : List Nat}  : CtOK qH QB L ct_163 := chkM_ok QB_lasts qH_w (all_cons (co_138) (all_cons (co_162) all_nil)) (by decide +kernel) ck_163
/-- X8_readTerm -/
def ct_164 : qCt := (297, 28, false, [(1, 2), (1, 3), (1, 4), (1, 5), (1, 6), (20, 4), (20, 5), (21, 9999), (22, 9999), (25, 7), (25, 8)], ([], [(0, .inr (.inr (some 25))), (1, .inl (0, 3))], ([(0, 0)], [], []), []), [([.inl 0], some (.inl (1, 0)), ([(0, 0), (0, 1)], [], []), [])])
def cu_164 : List qCu := [(8, ([.inl 2, .inl 3], [(0, .inr (.inr (some 25))), (1, .inl (0, 3)), (2, .inl (1, 0)), (3, .inl (2, 0))], ([(0, 0), (0, 1), (0, 1600)], [], []), []), [(false, (0, 90)), (true, (2, 1600))])]
set_option maxRecDepth 1000000 in
theorem ck_164 : chkM qH [ct_163, ct_138] [] 2 1000000 ct_164 cu_164 = true := by decide +kernel
theorem co_164 {L : List Nat}  : CtOK qH QB L ct_164 := chkM_ok QB_lasts qH_w (all_cons (co_163) (all_cons (co_138) all_nil)) (by decide +kernel) ck_164
/-- X8_readSum -/
def ct_165 : qCt := (296, 29, false, [(1, 2), (1, 3), (1, 4), (1, 5), (1, 6), (20, 4), (20, 5), (21, 9999), (22, 9999), (25, 7), (25, 8)], ([], [(0, .inr (.inr (some 25))), (1, .inl (0, 3))], ([(0, 0)], [], []), []), [([.inl 0], some (.inl (1, 0)), ([(0, 0), (0, 1)], [], []), [])])
def cu_165 : List qCu := [(8, ([.inl 2, .inl 3], [(0, .inr (.inr (some 25))), (1, .inl (0, 3)), (2, .inl (1, 0)), (3, .inl (2, 0))], ([(0, 0), (0, 1), (0, 1600)], [], []), []), [(false, (0, 90)), (true, (2, 1600))])]
set_option maxRecDepth 1000000 in
theorem ck_165 : chkM qH [ct_164, ct_138] [] 2 1000000 ct_165 cu_165 = true := by decide +kernel
theorem co_165 {L : List Nat}  : CtOK qH QB L ct_165 := chkM_ok QB_lasts qH_w (all_cons (co_164) (all_cons (co_138) all_nil)) (by decide +kernel) ck_165
/-- X8_readOne -/
def ct_166 : qCt := (295, 30, false, [(1, 2), (1, 3), (1, 4), (1, 5), (1, 6), (20, 4), (20, 5), (21, 9999), (22, 9999), (25, 7), (25, 8)], ([], [(0, .inr (.inr (some 25))), (1, .inl (0, 3))], ([(0, 0)], [], []), []), [([.inl 0], some (.inl (1, 0)), ([(0, 0), (0, 1)], [], []), [])])
def cu_166 : List qCu := []
set_option maxRecDepth 1000000 in
theorem ck_166 : chkM qH [ct_138, ct_160, ct_165] [] 0 1000000 ct_166 cu_166 = true := by decide +kernel
theorem co_166 {L : List Nat}  : CtOK qH QB L ct_166 := chkM_ok QB_lasts qH_w (all_cons (co_138) (all_cons (co_160) (all_cons (co_165) all_nil))) (by decide +kernel) ck_166
/-- X8_readBoth -/
def ct_167 : qCt := (294, 31, false, [(1, 2), (1, 3), (1, 4), (1, 5), (1, 6), (20, 4), (20, 5), (21, 9999), (22, 9999), (25, 7), (25, 8)], ([], [(0, .inr (.inr (some 25))), (1, .inl (0, 3))], ([(0, 0)], [], []), []), [([.inl 0], some (.inl (1, 0)), ([(0, 0), (0, 1)], [], []), [])])
def cu_167 : List qCu := [(8, ([.inl 2, .inl 3], [(0, .inr (.inr (some 25))), (1, .inl (0, 3)), (2, .inl (1, 0)), (3, .inl (2, 0))], ([(0, 0), (0, 1), (0, 1600)], [], []), []), [(false, (0, 90)), (true, (2, 1600))])]
set_option maxRecDepth 1000000 in
theorem ck_167 : chkM qH [ct_166, ct_138] [] 2 1000000 ct_167 cu_167 = true := by decide +kernel
theorem co_167 {L : List Nat}  : CtOK qH QB L ct_167 := chkM_ok QB_lasts qH_w (all_cons (co_166) (all_cons (co_138) all_nil)) (by decide +kernel) ck_167
