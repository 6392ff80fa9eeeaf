/-- X8_readOne -/
def ct_178 : qCt := (295, 42, false, [(1, 2), (1, 3), (1, 4), (1, 5), (1, 6), (20, 4), (20, 5), (21, 9999), (22, 9999), (25, 7), (25, 8)], ([], [(0, .inr (.inr (some 25))), (1, .inl (0, 1))], ([(0, 0)], [], []), []), [([.inl 0], some (.inl (1, 0)), ([(0, 0), (0, 1)], [], []), [])])
def cu_178 : List qCu := []
set_option maxRecDepth 1000000 in
theorem ck_178 : chkM qH [ct_138, ct_172, ct_177] [] 0 1000000 ct_178 cu_178 = true := by decide +kernel
theorem co_178 {L : List Nat}  : CtOK qH QB L ct_178 := chkM_ok QB_lasts qH_w (all_cons (co_138) (all_cons (co_172) (all_cons (co_177) all_nil))) (by decide +kernel) ck_178
/-- X8_readBoth -/
def ct_179 : qCt := (294, 43, false, [(1, 2), (1, 3), (1, 4), (1, 5), (1, 6), (20, 4), (20, 5), (21, 9999), (22, 9999), (25, 7), (25, 8)], ([], [(0, .inr (.inr (some 25))), (1, .inl (0, 1))], ([(0, 0)], [], []), []), [([.inl 0], some (.inl (1, 0)), ([(0, 0), (0, 1)], [], []), [])])
def cu_179 : List qCu := [(8, ([.inl 2, .inl 3], [(0, .inr (.inr (some 25))), (1, .inl (0, 1)), (2, .inl (1, 0)), (3, .inl (2, 0))], ([(0, 0), (0, 1), (0, 1600)], [], []), []), [(false, (0, 90)), (true, (2, 1600))])]
set_option maxRecDepth 1000000 in
theorem ck_179 : chkM qH [ct_178, ct_138] [] 2 1000000 ct_179 cu_179 = true := by decide +kernel
theorem co_179 {L : List Nat}  : CtOK qH QB L ct_179 := chkM_ok QB_lasts qH_w (all_cons (co_178) (all_cons (co_138) all_nil)) (by decide +kernel) ck_179
/-- X8_readEither -/
def ct_180 : qCt := (291, 44, false, [(1, 2), (1, 3), (1, 4), (1, 5), (1, 6), (20, 4), (20, 5), (21, 9999), (22, 9999), (25, 7), (25, 8)], ([], [(0, .inr (.inr (some 25))), (1, .inl (0, 1))], ([(0, 0)], [], []), []), [([.inl 0], some (.inl (1, 0)), ([(0, 0), (0, 1)], [], []), [])])
def cu_180 : List qCu := [(8, ([.inl 2, .inl 3], [(0, .inr (.inr (some 25))), (1, .inl (0, 1)), (2, .inl (1, 0)), (3, .inl (2, 0))], ([(0, 0), (0, 1), (0, 1600)], [], []), []), [(false, (0, 90)), (true, (2, 1600))])]
set_option maxRecDepth 1000000 in
theorem ck_180 : chkM qH [ct_179, ct_138] [] 2 1000000 ct_180 cu_180 = true := by decide +kernel
theorem co_180 {L : List Nat}  : CtOK qH QB L ct_180 := chkM_ok QB_lasts qH_w (all_cons (co_179) (all_cons (co_138) all_nil)) (by decide +kernel) ck_180
/-- X8_readUnit -/
def ct_181 : qCt := (298, 45, false, [(1, 2), (1, 3), (1, 4), (1, 5), (1, 6), (20, 4), (20, 5), (21, 9999), (22, 9999), (25, 7), (25, 8)], ([], [(0, .inr (.inr (some 25))), (1, .inl (0, 0))], ([(0, 0)], [], []), []), [([.inl 0], some (.inl (1, 0)), ([(0, 0), (0, 1)], [], []), [])])
def cu_181 : List qCu := []
set_option maxRecDepth 1000000 in
theorem ck_181 : chkM qH [ct_138, ct_180] [] 0 1000000 ct_181 cu_181 = true := by decide +kernel
theorem co_181 {L : List Nat}  : CtOK qH QB L ct_181 := chkM_ok QB_lasts qH_w (all_cons (co_138) (all_cons (co_180) all_nil)) (by decide +kernel) ck_181
/-- X8_readTerm -/
def ct_182 : qCt := (297, 46, false, [(1, 2), (1, 3), (1, 4), (1, 5), (1, 6), (20, 4), (20, 5), (21, 9999), (22, 9999), (25, 7), (25, 8)], ([], [(0, .inr (.inr (some 25))), (1, .inl (0, 0))], ([(0, 0)], [], []), []), [([.inl 0], some (.inl (1, 0)), ([(0, 0), (0, 1)], [], []), [])])
def cu_182 : List qCu := [(8, ([.inl 2, .inl 3], [(0, .inr (.inr (some 25))), (1, .inl (0, 0)), (2, .inl (1, 0)), (3, .inl (2, 0))], ([(0, 0), (0, 1), (0, 1600)], [], []), []), [(false, (0, 90)), (true, (2, 1600))])]
set_option maxRecDepth 1000000 in
theorem ck_182 : chkM qH [ct_181, ct_138] [] 2 1000000 ct_182 cu_182 = true := by decide +kernel
theorem co_182 {L : List Nat}  : CtOK qH QB L ct_182 := chkM_ok QB_lasts qH_w (all_cons (co_181) (all_cons (co_138) all_nil)) (by decide +kernel) ck_182
/-- X8_readSum -/
def ct_183 : qCt := (296, 47, false, [(1, 2), (1, 3), (1, 4), (1, 5), (1, 6), (20, 4), (20, 5), (21, 9999), (22, 9999), (25, 7), (25, 8)], ([], [(0, .inr (.inr (some 25))), (1, .inl (0, 0))], ([(0, 0)], [], []), []), [([.inl 0], some (.inl (1, 0)), ([(0, 0), (0, 1)], [], []), [])])
def cu_183 : List qCu := [(8, ([.inl 2, .inl 3], [(0, .inr (.inr (some 25))), (1, .inl (0, 0)), (2, .inl (1, 0)), (3, .inl (2, 0))], ([(0, 0), (0, 1), (0, 1600)], [], []), []), [(false, (0, 90)), (true, (2, 1600))])]
set_option maxRecDepth 1000000 in
theorem ck_183 : chkM qH [ct_182, ct_138] [] 2 1000000 ct_183 cu_183 = true := by decide +kernel
theorem co_183 {L : List Nat}  : CtOK qH QB L ct_183 := chkM_ok QB_lasts qH_w (all_cons (co_182) (all_cons (co_138) all_nil)) (by decide +kernel) ck_183
/-- X8_readOne -/
def ct_184 : qCt := (295, 48, false, [(1, 2), (1, 3), (1, 4), (1, 5), (1, 6), (20, 4), (20, 5), (21, 9999), (22, 9999), (25, 7), (25, 8)], ([], [(0, .inr (.inr (some 25))), (1, .inl (0, 0))], ([(0, 0)], [], []), []), [([.inl 0], some (.inl (1, 0)), ([(0, 0), (0, 1)], [], []), [])])
def cu_184 : List qCu := []
set_option maxRecDepth 1000000 in
theorem ck_184 : chkM qH [ct_138, ct_178, ct_183] [] 0 1000000 ct_184 cu_184 = true := by decide +kernel
theorem co_184 {L : List Nat}  : CtOK qH QB L ct_184 := chkM_ok QB_lasts qH_w (all_cons (co_138) (all_cons (co_178) (all_cons (co_183) all_nil))) (by decide +kernel) ck_184
/-- X8_readBoth -/
def ct_185 : qCt := (294, 49, false, [(1, 2), (1, 3), (1, 4), (1, 5), (1, 6), (20, 4), (20, 5), (21, 9999), (22, 9999), (25, 7), (25, 8)], ([], [(0, .inr (.inr (some 25))), (1, .inl (0, 0))], ([(0, 0)], [], []), []), [([.inl 0], some (.inl (1, 0)), ([(0, 0), (0, 1)], [], []), [])])
def cu_185 : List qCu := [(8, ([.inl 2, .inl 3], [(0, .inr (.inr (some 25))), (1, .inl (0, 0)), (2, .inl (1, 0)), (3, .inl (2, 0))], ([(0, 0), (0, 1), (0, 1600)], [], []), []), [(false, (0, 90)), (true, (2, 1600))])]
set_option maxRecDepth 1000000 in
theorem ck_185 : chkM qH [ct_184, ct_138] [] 2 1000000 ct_185 cu_185 = true := by decide +kernel
theorem co_185 {L : List Nat}  : CtOK qH QB L ct_185 := chkM_ok QB_lasts qH_w (all_cons (co_184) (all_cons (co_138) all_nil)) (by decide +kernel) ck_185
/-- X8_readEither -/
def ct_186 : qCt := (291, 50, false, [(1, 2), (1, 3), (1, 4), (1, 5), (1, 6), (20, 4), (20, 5), (21, 9999), (22, 9999), (25, 7), (25, 8)], ([], [(0, .inr (.inr (some 25))), (1, .inl (0, 0))], ([(0, 0)], [], []), []), [([.inl 0], some (.inl (1, 0)), ([(0, 0), (0, 1)], [], []), [])])
def cu_186 : List qCu := [(8, ([.inl 2, .inl 3], [(0, .inr (.inr (some 25))), (1, .inl (0, 0)), (2, .inl (1, 0)), (3, .inl (2, 0))], ([(0, 0), (0, 1), (0, 1600)], [], []), []), [(false, (0, 90)), (true, (2, 1600))])]
set_option maxRecDepth 1000000 in
theorem ck_186 : chkM qH [ct_185, ct_138] [] 2 1000000 ct_186 cu_186 = true := by decide +kernel
theorem co_186 {L : List Nat}  : CtOK qH QB L ct_186 := chkM_ok QB_lasts qH_w (all_cons (co_185) (all_cons (co_138) all_nil)) (by decide +kernel) ck_186
/-- X8_readName -/
def ct_187 : qCt := (300, 3, false, [(1, 2), (1, 3), (1, 4), (1, 5), (1, 6), (25, 7), (25, 8), (27, 9999)], ([.inl 2], [(0, .inr (.inr (some 25))), (1, .inr (.inr (some 27))), (2, .inl (1, 0))], ([(0, 0), ((-2147483648), 2147483647)], [], []), []), [([.inl 0], some (.inl (2, 0)), ([(0, 0), ((-2147483648), 2147483647), (0, 1)], [], []), [])])
def cu_187 : List qCu := [(29, ([.inl 3, .inr (1, 3)], [(0, .inr (.inr (some 25))), (1, .inr (.inr (some 27))), (2, .inl (1, 0)), (3, .inl (2, 0))], ([(0, 0), (0, 4), (0, 4), (2, 2)], [], []), [((1, 3), .inl (3, 0))]), [(false, (0, 90)), (true, (2, 4))])]
set_option maxRecDepth 1000000 in
theorem ck_187 : chkM qH [ct_138] [] 2 1000000 ct_187 cu_187 = true := by decide +kernel
theorem co_187 {L : List Nat}  : CtOK qH QB L ct_187 := chkM_ok QB_lasts qH_w (all_cons (co_138) all_nil) (by decide +kernel) ck_187
/-- X8_readName -/
def ct_188 : qCt := (300, 3, false, [(1, 2), (1, 3), (1, 4), (1, 5), (1, 6), (25, 7), (25, 8), (26, 9999)], ([.inl 2], [(0, .inr (.inr (some 25))), (1, .inr (.inr (some 26))), (2, .inl (1, 0))], ([(0, 0), ((-2147483648), 2147483647)], [], []), []), [([.inl 0], some (.inl (2, 0)), ([(0, 0), ((-2147483648), 2147483647), (0, 1)], [], []), [])])
def cu_188 : List qCu := [(29, ([.inl 3, .inr (1, 3)], [(0, .inr (.inr (some 25))), (1, .inr (.inr (some 26))), (2, .inl (1, 0)), (3, .inl (2, 0))], ([(0, 0), (0, 5), (0, 5), (2, 2)], [], []), [((1, 3), .inl (3, 0))]), [(false, (0, 90)), (true, (2, 5))])]
set_option maxRecDepth 1000000 in
theorem ck_188 : chkM qH [ct_138] [] 2 1000000 ct_188 cu_188 = true := by decide +kernel
theorem co_188 {L : List Nat}  : CtOK qH QB L ct_188 := chkM_ok QB_lasts qH_w (all_cons (co_138) all_nil) (by decide +kernel) ck_188
