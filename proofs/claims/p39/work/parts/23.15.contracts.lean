/-- X8_readHouse -/
def ct_189 : qCt := (276, 52, false, [(1, 2), (1, 3), (1, 4), (1, 5), (1, 6), (14, 6), (14, 7), (14, 8), (14, 9), (15, 9999), (16, 9999), (17, 9999), (18, 9999), (19, 9999), (20, 4), (20, 5), (20, 6), (21, 9999), (22, 9999), (25, 4), (25, 5), (25, 6), (25, 7), (25, 8), (26, 9999), (27, 9999)], ([], [(0, .inr (.inr (some 25)))], ([(0, 0)], [], []), []), [([.inl 0], some (.inl (1, 0)), ([(0, 0), (0, 1)], [], []), [])])
def cu_189 : List qCu := [(38, ([.inl 1, .inl 2, .inr (14, 8), .inr (14, 9)], [(0, .inr (.inr (some 25))), (1, .inl (1, 0)), (2, .inl (2, 0))], ([(0, 0), (0, 1), (0, 1600), (0, 100), (0, 999)], [], []), [((14, 8), .inl (3, 0)), ((14, 9), .inl (4, 0))]), [(false, (0, 90)), (true, (2, 1600))])]
set_option maxRecDepth 1000000 in
theorem ck_189 : chkM qH [ct_138, ct_186, ct_187, ct_188] [] 2 1000000 ct_189 cu_189 = true := by decide +kernel
theorem co_189 {L : List Nat}  : CtOK qH QB L ct_189 := chkM_ok QB_lasts qH_w (all_cons (co_138) (all_cons (co_186) (all_cons (co_187) (all_cons (co_188) all_nil)))) (by decide +kernel) ck_189
/-- J7_fill_53178 -/
def ct_190 : qCt := (124, 0, false, [(29, 9999)], ([.inl 1], [(0, .inr (.inr (some 29))), (1, .inl (1, 0))], ([(0, 0), ((-2147483648), 2147483647)], [], []), []), [([], none, ([(0, 0), ((-2147483648), 2147483647)], [], []), [])])
def cu_190 : List qCu := [(5, ([.inl 2], [(0, .inr (.inr (some 29))), (1, .inl (1, 0)), (2, .inl (2, 0)), (3, .inl (0, 30))], ([(0, 0), ((-2147483648), 2147483647), (0, 30)], [], []), []), [(false, (0, 90)), (true, (2, 30))])]
set_option maxRecDepth 1000000 in
theorem ck_190 : chkM qH [] [] 2 1000000 ct_190 cu_190 = true := by decide +kernel
theorem co_190 {L : List Nat}  : CtOK qH QB L ct_190 := chkM_ok QB_lasts qH_w all_nil (by decide +kernel) ck_190
/-- X6_layOut -/
def ct_191 : qCt := (272, 2, false, [(28, 1), (28, 2), (28, 3), (29, 9999)], ([], [(0, .inr (.inr (some 28))), (1, .inr (.inr (some 3)))], ([(0, 0)], [], []), []), [([], none, ([(0, 0)], [], []), [])])
def cu_191 : List qCu := [(10, ([.inl 2], [(0, .inr (.inr (some 28))), (1, .inr (.inr (some 3))), (2, .inl (1, 0))], ([(0, 0), (0, 5)], [], []), []), [(false, (0, 90)), (true, (1, 5))])]
set_option maxRecDepth 1000000 in
theorem ck_191 : chkM qH [ct_190, ct_120] [] 2 1000000 ct_191 cu_191 = true := by decide +kernel
theorem co_191 {L : List Nat}  : CtOK qH QB L ct_191 := chkM_ok QB_lasts qH_w (all_cons (co_190) (all_cons (co_120) all_nil)) (by decide +kernel) ck_191
/-- X11_house -/
def ct_192 : qCt := (270, 53, false, [(1, 1), (1, 2), (1, 3), (1, 4), (1, 5), (1, 6), (3, 6), (3, 7), (3, 8), (3, 9), (4, 9999), (5, 9999), (6, 9999), (7, 9999), (8, 9999), (9, 4), (9, 5), (9, 6), (10, 9999), (11, 9999), (14, 6), (14, 7), (14, 8), (14, 9), (15, 9999), (16, 9999), (17, 9999), (18, 9999), (19, 9999), (20, 4), (20, 5), (20, 6), (21, 9999), (22, 9999), (25, 4), (25, 5), (25, 6), (25, 7), (25, 8), (26, 9999), (27, 9999), (28, 1), (28, 2), (28, 3), (29, 9999), (31, 9999), (32, 1), (32, 2), (32, 3), (37, 5), (45, 8), (45, 9)], ([], [(0, .inr (.inr (some 0)))], ([(0, 0)], [], []), []), [([.inl 0], some (.inl (1, 0)), ([(0, 0), ((-1), 6)], [], []), [])])
def cu_192 : List qCu := [(69, ([.inl 1], [(0, .inr (.inr (some 0))), (1, .inl (1, 0))], ([(0, 0), (0, 3)], [], []), [((1, 1), .inl (0, 0)), ((38, 1), .inl (0, 0)), ((38, 2), .inl (0, 0)), ((38, 3), .inl (0, 0)), ((125, 5), .inl (0, 0)), ((140, 8), .inl (0, 0)), ((140, 9), .inl (0, 0))]), [(false, (0, 90)), (true, (1, 3))])]
set_option maxRecDepth 1000000 in
theorem ck_192 : chkM qH [ct_189, ct_191, ct_19, ct_18] [] 2 1000000 ct_192 cu_192 = true := by decide +kernel
theorem co_192 {L : List Nat}  : CtOK qH QB L ct_192 := chkM_ok QB_lasts qH_w (all_cons (co_189) (all_cons (co_191) (all_cons (co_19) (all_cons (co_18) all_nil)))) (by decide +kernel) ck_192
/-- X11_end -/
def ct_193 : qCt := (306, 0, false, [(1, 1)], ([.inl 1], [(0, .inr (.inr (some 0))), (1, .inl (1, 0))], ([(0, 0), ((-2147483648), 2147483647)], [], []), []), [([.inl 0], some (.inl (2, 0)), ([(0, 0), ((-2147483648), 2147483647), ((-1), 1600)], [], []), [])])
def cu_193 : List qCu := []
set_option maxRecDepth 1000000 in
theorem ck_193 : chkM qH [] [] 0 1000000 ct_193 cu_193 = true := by decide +kernel
theorem co_193 {L : List Nat}  : CtOK qH QB L ct_193 := chkM_ok QB_lasts qH_w all_nil (by decide +kernel) ck_193
/-- X9_append -/
def ct_194 : qCt := (309, 0, false, [(1, 1), (2, 9999)], ([.inl 1], [(0, .inr (.inr (some 1))), (1, .inl (1, 0))], ([(0, 0), ((-2147483648), 2147483647)], [], []), []), [([], none, ([(0, 0), ((-2147483648), 2147483647)], [], []), [])])
def cu_194 : List qCu := [(3, ([.inl 2, .inr (1, 1), .inr (1, 2)], [(0, .inr (.inr (some 1))), (1, .inl (1, 0)), (2, .inl (2, 0))], ([(0, 0), ((-2147483648), 2147483647), ((-8), 24), (0, 1600), (0, 1600)], [], []), [((1, 1), .inl (3, 0)), ((1, 2), .inl (4, 0))]), [(false, (0, 90)), (true, (3, 1600))])]
set_option maxRecDepth 1000000 in
theorem ck_194 : chkM qH [] [] 2 1000000 ct_194 cu_194 = true := by decide +kernel
theorem co_194 {L : List Nat}  : CtOK qH QB L ct_194 := chkM_ok QB_lasts qH_w all_nil (by decide +kernel) ck_194
/-- X11_feed -/
def ct_195 : qCt := (308, 1, false, [(1, 1), (2, 9999)], ([.inl 1, .inl 2, .inl 3, .inl 4, .inl 5], [(0, .inr (.inr (some 0))), (1, .inl (1, 0)), (2, .inl (2, 0)), (3, .inl (3, 0)), (4, .inl (4, 0)), (5, .inl (5, 0))], ([(0, 0), ((-2147483648), 2147483647), ((-2147483648), 2147483647), ((-2147483648), 2147483647), ((-2147483648), 2147483647), ((-2147483648), 2147483647)], [], []), []), [([.inl 0], some (.inl (6, 0)), ([(0, 0), ((-2147483648), 2147483647), ((-2147483648), 2147483647), ((-2147483648), 2147483647), ((-2147483648), 2147483647), ((-2147483648), 2147483647), ((-1), 1600)], [], []), [])])
def cu_195 : List qCu := []
set_option maxRecDepth 1000000 in
theorem ck_195 : chkM qH [ct_194] [] 0 1000000 ct_195 cu_195 = true := by decide +kernel
theorem co_195 {L : List Nat}  : CtOK qH QB L ct_195 := chkM_ok QB_lasts qH_w (all_cons (co_194) all_nil) (by decide +kernel) ck_195
/-- X12_thoseThat -/
def ct_196 : qCt := (1, 0, false, [], ([.inl 1], [(0, .inr (.inr (some 53))), (1, .inl (1, 0))], ([(0, 0), ((-2147483648), 2147483647)], [], []), []), [([.inl 0], some (.inl (2, 0)), ([(0, 0), ((-2147483648), 2147483647), (0, 31)], [], []), [])])
def cu_196 : List qCu := [(4, ([.inl 2, .inl 3], [(0, .inr (.inr (some 53))), (1, .inl (1, 0)), (2, .inl (2, 0)), (3, .inl (3, 0))], ([(0, 0), ((-2147483648), 2147483647), (0, 31), (0, 5)], [], []), []), [(false, (0, 90)), (true, (3, 5))])]
set_option maxRecDepth 1000000 in
theorem ck_196 : chkM qH [] [] 2 1000000 ct_196 cu_196 = true := by decide +kernel
theorem co_196 {L : List Nat}  : CtOK qH QB L ct_196 := chkM_ok QB_lasts qH_w all_nil (by decide +kernel) ck_196
/-- X12_about -/
def ct_197 : qCt := (0, 1, false, [], ([.inl 1], [(0, .inr (.inr (some 53))), (1, .inl (1, 0))], ([(0, 0), ((-2147483648), 2147483647)], [], []), []), [([.inl 0], some (.inl (2, 0)), ([(0, 0), ((-2147483648), 2147483647), ((-2147483648), 2147483647)], [], []), [])])
def cu_197 : List qCu := []
set_option maxRecDepth 1000000 in
theorem ck_197 : chkM qH [ct_196] [] 0 1000000 ct_197 cu_197 = true := by decide +kernel
theorem co_197 {L : List Nat}  : CtOK qH QB L ct_197 := chkM_ok QB_lasts qH_w (all_cons (co_196) all_nil) (by decide +kernel) ck_197
/-- X12_back -/
def ct_198 : qCt := (9, 1, false, [(53, 47), (53, 48), (78, 9999)], ([.inl 1, .inr (211, 47), .inr (211, 48)], [(0, .inr (.inr (some 53))), (1, .inl (1, 0))], ([(0, 0), ((-2147483648), 2147483647), (0, 40), (0, 41)], [], []), [((211, 47), .inl (2, 0)), ((211, 48), .inl (3, 0))]), [([], some (.inl (0, (-1))), ([(0, 0), ((-2147483648), 2147483647), (0, 40), (0, 41)], [], []), [((211, 47), .inl (2, 0)), ((211, 48), .inl (3, 0))]), ([.inl 0], some (.inl (4, 0)), ([(0, 0), (0, 2), (0, 40), (0, 41), ((-2147483648), 2147483647)], [], []), [((211, 47), .inl (0, 0)), ((211, 48), .inl (0, 0))])])
def cu_198 : List qCu := [(22, ([.inl 2], [(0, .inr (.inr (some 53))), (1, .inl (1, 0)), (2, .inl (4, 0))], ([(0, 0), (0, 2), (0, 40), (0, 41), (0, 33)], [], []), [((211, 47), .inl (2, 0)), ((211, 48), .inl (3, 0))]), [(false, (0, 90)), (true, (4, 33))])]
set_option maxRecDepth 1000000 in
theorem ck_198 : chkM qH [] [] 2 1000000 ct_198 cu_198 = true := by decide +kernel
theorem co_198 {L : List Nat}  : CtOK qH QB L ct_198 := chkM_ok QB_lasts qH_w all_nil (by decide +kernel) ck_198
/-- X12_image -/
def ct_199 : qCt := (17, 1, false, [(90, 9999), (91, 9999)], ([.inl 1], [(0, .inr (.inr (some 53))), (1, .inl (1, 0))], ([(0, 0), ((-2147483648), 2147483647)], [], []), []), [([.inl 0], some (.inl (2, 0)), ([(0, 0), ((-2147483648), 2147483647), ((-2147483648), 2147483647)], [], []), [])])
def cu_199 : List qCu := [(13, ([.inl 2], [(0, .inr (.inr (some 53))), (1, .inl (1, 0)), (2, .inl (2, 0))], ([(0, 0), (0, 2), (0, 33)], [], []), []), [(false, (0, 90)), (true, (2, 33))])]
set_option maxRecDepth 1000000 in
theorem ck_199 : chkM qH [] [] 2 1000000 ct_199 cu_199 = true := by decide +kernel
theorem co_199 {L : List Nat}  : CtOK qH QB L ct_199 := chkM_ok QB_lasts qH_w all_nil (by decide +kernel) ck_199
/-- X12_layFresh -/
def ct_200 : qCt := (33, 0, false, [(53, 39), (53, 40), (53, 41), (53, 42), (53, 43), (53, 44)], ([.inl 1], [(0, .inr (.inr (some 53))), (1, .inl (1, 0))], ([(0, 0), ((-2147483648), 2147483647)], [], []), []), [([], none, ([(0, 0), ((-2147483648), 2147483647)], [], []), [])])
def cu_200 : List qCu := []
set_option maxRecDepth 1000000 in
theorem ck_200 : chkM qH [] [] 0 1000000 ct_200 cu_200 = true := by decide +kernel
theorem co_200 {L : List Nat}  : CtOK qH QB L ct_200 := chkM_ok QB_lasts qH_w all_nil (by decide +kernel) ck_200
/-- X12_sumOf -/
def ct_201 : qCt := (26, 1, false, [], ([.inl 2], [(0, .inr (.inr (some 53))), (1, .inr (.inr (some 61))), (2, .inl (1, 0))], ([(0, 0), ((-2147483648), 2147483647)], [], []), []), [([.inl 0], some (.inl (2, 0)), ([(0, 0), ((-2147483648), 2147483647), ((-2147483648), 2147483647)], [], []), [])])
def cu_201 : List qCu := [(5, ([.inl 3, .inl 4], [(0, .inr (.inr (some 53))), (1, .inr (.inr (some 61))), (2, .inl (1, 0)), (3, .inl (2, 0)), (4, .inl (3, 0))], ([(0, 0), ((-2147483648), 2147483647), ((-2147483648), 2147483647), (0, 6)], [], []), []), [(false, (0, 90)), (true, (3, 6))])]
set_option maxRecDepth 1000000 in
theorem ck_201 : chkM qH [] [] 2 1000000 ct_201 cu_201 = true := by decide +kernel
theorem co_201 {L : List Nat}  : CtOK qH QB L ct_201 := chkM_ok QB_lasts qH_w all_nil (by decide +kernel) ck_201
/-- X12_breathe -/
def ct_202 : qCt := (32, 2, false, [(53, 39), (53, 40)], ([.inl 1], [(0, .inr (.inr (some 53))), (1, .inl (1, 0))], ([(0, 0), ((-2147483648), 2147483647)], [], []), []), [([], none, ([(0, 0), ((-2147483648), 2147483647)], [], []), [])])
def cu_202 : List qCu := []
set_option maxRecDepth 1000000 in
theorem ck_202 : chkM qH [ct_201] [] 0 1000000 ct_202 cu_202 = true := by decide +kernel
theorem co_202 {L : List Nat}  : CtOK qH QB L ct_202 := chkM_ok QB_lasts qH_w (all_cons (co_201) all_nil) (by decide +kernel) ck_202
/-- X12_sumOf -/
def ct_203 : qCt := (26, 1, false, [], ([.inl 2], [(0, .inr (.inr (some 53))), (1, .inr (.inr (some 62))), (2, .inl (1, 0))], ([(0, 0), ((-2147483648), 2147483647)], [], []), []), [([.inl 0], some (.inl (2, 0)), ([(0, 0), ((-2147483648), 2147483647), ((-2147483648), 2147483647)], [], []), [])])
def cu_203 : List qCu := [(5, ([.inl 3, .inl 4], [(0, .inr (.inr (some 53))), (1, .inr (.inr (some 62))), (2, .inl (1, 0)), (3, .inl (2, 0)), (4, .inl (3, 0))], ([(0, 0), ((-2147483648), 2147483647), ((-2147483648), 2147483647), (0, 6)], [], []), []), [(false, (0, 90)), (true, (3, 6))])]
set_option maxRecDepth 1000000 in
theorem ck_203 : chkM qH [] [] 2 1000000 ct_203 cu_203 = true := by decide +kernel
theorem co_203 {L : List Nat}  : CtOK qH QB L ct_203 := chkM_ok QB_lasts qH_w all_nil (by decide +kernel) ck_203
/-- X12_fades -/
def ct_204 : qCt := (23, 5, true, [(77, 9999)], ([], [(0, .inr (.inr (some 53)))], ([(0, 0)], [], []), []), [([.inl 0], some (.inl (1, 0)), ([(0, 0), ((-2147483648), 2147483647)], [], []), [])])
def cu_204 : List qCu := []
set_option maxRecDepth 1000000 in
theorem ck_204 : chkM qH [ct_0, ct_203] [] 0 1000000 ct_204 cu_204 = true := by decide +kernel
theorem co_204 {L : List Nat} (h0 : CtOK qH QB L ct_0) : CtOK qH QB L ct_204 := chkM_ok QB_lasts qH_w (all_cons h0 (all_cons (co_203) all_nil)) (by decide +kernel) ck_204
/-- X12_leave -/
def ct_205 : qCt := (22, 6, true, [(53, 39), (53, 41), (53, 44), (77, 9999)], ([.inl 1], [(0, .inr (.inr (some 53))), (1, .inl (1, 0))], ([(0, 0), ((-2147483648), 2147483647)], [], []), []), [([], none, ([(0, 0), ((-2147483648), 2147483647)], [], []), [])])
def cu_205 : List qCu := [(2, ([.inl 2], [(0, .inr (.inr (some 53))), (1, .inl (1, 0)), (2, .inl (2, 0))], ([(0, 0), ((-2147483648), 2147483647), (0, 2147483647)], [], []), []), [(false, (0, 90)), (true, (2, 2147483647))])]
set_option maxRecDepth 1000000 in
theorem ck_205 : chkM qH [ct_204] [] 2 1000000 ct_205 cu_205 = true := by decide +kernel
theorem co_205 {L : List Nat} (h0 : CtOK qH QB L ct_0) : CtOK qH QB L ct_205 := chkM_ok QB_lasts qH_w (all_cons (co_204 h0) all_nil) (by decide +kernel) ck_205
/-- X12_doesFit -/
def ct_206 : qCt := (21, 7, true, [(53, 39), (53, 40), (53, 41), (53, 42), (53, 43), (53, 44), (77, 9999)], ([.inl 1, .inl 2], [(0, .inr (.inr (some 53))), (1, .inl (1, 0)), (2, .inl (2, 0))], ([(0, 0), ((-2147483648), 2147483647), ((-2147483648), 2147483647)], [], []), []), [([.inl 0], some (.inl (3, 0)), ([(0, 0), ((-2147483648), 2147483647), ((-2147483648), 2147483647), (0, 1)], [], []), [])])
def cu_206 : List qCu := [(2, ([.inl 3], [(0, .inr (.inr (some 53))), (1, .inl (1, 0)), (2, .inl (2, 0)), (3, .inl (3, 0))], ([(0, 0), ((-2147483648), 2147483647), ((-2147483648), 2147483647), (0, 30)], [], []), []), [(false, (0, 90)), (true, (3, 30))])]
set_option maxRecDepth 1000000 in
theorem ck_206 : chkM qH [ct_200, ct_202, ct_205] [] 2 1000000 ct_206 cu_206 = true := by decide +kernel
theorem co_206 {L : List Nat} (h0 : CtOK qH QB L ct_0) : CtOK qH QB L ct_206 := chkM_ok QB_lasts qH_w (all_cons (co_200) (all_cons (co_202) (all_cons (co_205 h0) all_nil))) (by decide +kernel) ck_206
/-- X12_layFits -/
def ct_207 : qCt := (20, 8, true, [(53, 39), (53, 40), (53, 41), (53, 42), (53, 43), (53, 44), (53, 63), (77, 9999), (89, 9999)], ([.inl 1], [(0, .inr (.inr (some 53))), (1, .inl (1, 0))], ([(0, 0), ((-2147483648), 2147483647)], [], []), []), [([], none, ([(0, 0), ((-2147483648), 2147483647)], [], []), [])])
def cu_207 : List qCu := [(7, ([.inl 2], [(0, .inr (.inr (some 53))), (1, .inl (1, 0)), (2, .inl (2, 0))], ([(0, 0), ((-2147483648), 2147483647), (0, 6)], [], []), [((211, 63), .inl (0, 0))]), [(false, (0, 90)), (true, (2, 6)), (false, (0, 99)), (false, (0, 0))]), (28, ([.inl 2], [(0, .inr (.inr (some 53))), (1, .inl (1, 0)), (2, .inl (2, 0))], ([(0, 0), ((-2147483648), 2147483647), (0, 64)], [], []), []), [(false, (0, 89)), (true, (2, 64)), (false, (0, 99)), (false, (0, 0))]), (62, ([.inl 2, .inl 3], [(0, .inr (.inr (some 53))), (1, .inl (1, 0)), (2, .inl (2, 0)), (3, .inl (3, 0))], ([(0, 0), ((-2147483648), 2147483647), (0, 63), (0, 6)], [], []), []), [(false, (0, 89)), (true, (2, 64)), (false, (0, 88)), (true, (3, 6))])]
set_option maxRecDepth 1000000 in
theorem ck_207 : chkM qH [ct_206] [] 4 1000000 ct_207 cu_207 = true := by decide +kernel
theorem co_207 {L : List Nat} (h0 : CtOK qH QB L ct_0) : CtOK qH QB L ct_207 := chkM_ok QB_lasts qH_w (all_cons (co_206 h0) all_nil) (by decide +kernel) ck_207
/-- X12_ask -/
def ct_208 : qCt := (19, 9, true, [(53, 39), (53, 40), (53, 41), (53, 42), (53, 43), (53, 44), (53, 63), (77, 9999), (89, 9999)], ([.inl 1, .inl 2], [(0, .inr (.inr (some 53))), (1, .inl (1, 0)), (2, .inl (2, 0))], ([(0, 0), ((-2147483648), 2147483647), ((-2147483648), 2147483647)], [], []), []), [([.inl 0], some (.inl (3, 0)), ([(0, 0), ((-2147483648), 2147483647), ((-2147483648), 2147483647), ((-2147483648), 2147483647)], [], []), [])])
def cu_208 : List qCu := [(24, ([.inl 3, .inl 4, .inl 5], [(0, .inr (.inr (some 53))), (1, .inl (1, 0)), (2, .inl (2, 0)), (3, .inl (3, 0)), (4, .inl (4, 0)), (5, .inl (5, 0))], ([(0, 0), (0, 1), ((-2147483648), 2147483647), ((-1), 5), ((-2147483648), 2147483647), (0, 6)], [], []), []), [(false, (0, 90)), (true, (5, 6))])]
set_option maxRecDepth 1000000 in
theorem ck_208 : chkM qH [ct_207] [] 2 1000000 ct_208 cu_208 = true := by decide +kernel
theorem co_208 {L : List Nat} (h0 : CtOK qH QB L ct_0) : CtOK qH QB L ct_208 := chkM_ok QB_lasts qH_w (all_cons (co_207 h0) all_nil) (by decide +kernel) ck_208
/-- X12_sure -/
def ct_209 : qCt := (52, 9, true, [(53, 39), (53, 40), (53, 41), (53, 42), (53, 43), (53, 44), (53, 63), (77, 9999), (89, 9999)], ([.inl 1, .inl 2], [(0, .inr (.inr (some 53))), (1, .inl (1, 0)), (2, .inl (2, 0))], ([(0, 0), ((-2147483648), 2147483647), ((-2147483648), 2147483647)], [], []), []), [([.inl 0], some (.inl (3, 0)), ([(0, 0), ((-2147483648), 2147483647), ((-2147483648), 2147483647), ((-2), 1)], [], []), [])])
def cu_209 : List qCu := []
set_option maxRecDepth 1000000 in
theorem ck_209 : chkM qH [ct_207] [] 0 1000000 ct_209 cu_209 = true := by decide +kernel
theorem co_209 {L : List Nat} (h0 : CtOK qH QB L ct_0) : CtOK qH QB L ct_209 := chkM_ok QB_lasts qH_w (all_cons (co_207 h0) all_nil) (by decide +kernel) ck_209
/-- X12_fits -/
def ct_210 : qCt := (57, 9, true, [(53, 39), (53, 40), (53, 41), (53, 42), (53, 43), (53, 44), (53, 63), (77, 9999), (89, 9999)], ([.inl 1], [(0, .inr (.inr (some 53))), (1, .inl (1, 0))], ([(0, 0), ((-2147483648), 2147483647)], [], []), []), [([.inl 0], some (.inl (2, 0)), ([(0, 0), ((-2147483648), 2147483647), ((-2147483648), 2147483647)], [], []), [])])
def cu_210 : List qCu := []
set_option maxRecDepth 1000000 in
theorem ck_210 : chkM qH [ct_207] [] 0 1000000 ct_210 cu_210 = true := by decide +kernel
theorem co_210 {L : List Nat} (h0 : CtOK qH QB L ct_0) : CtOK qH QB L ct_210 := chkM_ok QB_lasts qH_w (all_cons (co_207 h0) all_nil) (by decide +kernel) ck_210
/-- X12_untell -/
def ct_211 : qCt := (61, 1, false, [(88, 9999)], ([.inl 1], [(0, .inr (.inr (some 53))), (1, .inl (1, 0))], ([(0, 0), ((-2147483648), 2147483647)], [], []), []), [([.inl 0], some (.inl (2, 0)), ([(0, 0), ((-2147483648), 2147483647), (0, 1)], [], []), [])])
def cu_211 : List qCu := []
set_option maxRecDepth 1000000 in
theorem ck_211 : chkM qH [] [] 0 1000000 ct_211 cu_211 = true := by decide +kernel
theorem co_211 {L : List Nat}  : CtOK qH QB L ct_211 := chkM_ok QB_lasts qH_w all_nil (by decide +kernel) ck_211
/-- X12_sniffed -/
def ct_212 : qCt := (64, 1, false, [(53, 61), (84, 9999), (85, 9999), (86, 9999), (87, 9999), (88, 9999)], ([.inl 1, .inl 2, .inl 3], [(0, .inr (.inr (some 53))), (1, .inl (1, 0)), (2, .inl (2, 0)), (3, .inl (3, 0))], ([(0, 0), ((-2147483648), 2147483647), ((-2147483648), 2147483647), (0, 1)], [], []), []), [([.inl 0], some (.inl (4, 0)), ([(0, 0), ((-2147483648), 2147483647), ((-2147483648), 2147483647), (0, 1), ((-1), 29)], [], []), [])])
def cu_212 : List qCu := []
set_option maxRecDepth 1000000 in
theorem ck_212 : chkM qH [] [] 0 1000000 ct_212 cu_212 = true := by decide +kernel
theorem co_212 {L : List Nat}  : CtOK qH QB L ct_212 := chkM_ok QB_lasts qH_w all_nil (by decide +kernel) ck_212
/-- X12_lies -/
def ct_213 : qCt := (67, 1, false, [], ([.inl 1], [(0, .inr (.inr (some 53))), (1, .inl (1, 0))], ([(0, 0), ((-2147483648), 2147483647)], [], []), []), [([.inl 0], some (.inl (2, 0)), ([(0, 0), ((-2147483648), 2147483647), ((-2147483648), 2147483647)], [], []), [])])
def cu_213 : List qCu := []
set_option maxRecDepth 1000000 in
theorem ck_213 : chkM qH [] [] 0 1000000 ct_213 cu_213 = true := by decide +kernel
theorem co_213 {L : List Nat}  : CtOK qH QB L ct_213 := chkM_ok QB_lasts qH_w all_nil (by decide +kernel) ck_213
/-- X12_longest -/
def ct_214 : qCt := (70, 7, true, [(53, 39), (53, 40), (53, 41), (53, 42), (53, 43), (53, 44), (77, 9999)], ([.inl 1], [(0, .inr (.inr (some 53))), (1, .inl (1, 0))], ([(0, 0), ((-2147483648), 2147483647)], [], []), []), [([.inl 0], some (.inl (2, 0)), ([(0, 0), ((-2147483648), 2147483647), ((-1), 5)], [], []), [])])
def cu_214 : List qCu := [(19, ([.inl 2, .inl 3, .inl 4], [(0, .inr (.inr (some 53))), (1, .inl (1, 0)), (2, .inl (2, 0)), (3, .inl (3, 0)), (4, .inl (4, 0))], ([(0, 0), (0, 60), ((-1), 5), ((-1), 2147483647), (0, 6)], [], []), []), [(false, (0, 90)), (true, (4, 6))])]
set_option maxRecDepth 1000000 in
theorem ck_214 : chkM qH [ct_200, ct_202, ct_205] [] 2 1000000 ct_214 cu_214 = true := by decide +kernel
theorem co_214 {L : List Nat} (h0 : CtOK qH QB L ct_0) : CtOK qH QB L ct_214 := chkM_ok QB_lasts qH_w (all_cons (co_200) (all_cons (co_202) (all_cons (co_205 h0) all_nil))) (by decide +kernel) ck_214
/-- X12_layAside -/
def ct_215 : qCt := (78, 0, false, [(53, 39), (53, 40), (53, 41), (53, 42), (53, 43), (53, 44)], ([.inl 1], [(0, .inr (.inr (some 53))), (1, .inl (1, 0))], ([(0, 0), (0, 4)], [], []), []), [([], none, ([(0, 0), (0, 4)], [], []), [])])
def cu_215 : List qCu := []
set_option maxRecDepth 1000000 in
theorem ck_215 : chkM qH [] [] 0 1000000 ct_215 cu_215 = true := by decide +kernel
theorem co_215 {L : List Nat}  : CtOK qH QB L ct_215 := chkM_ok QB_lasts qH_w all_nil (by decide +kernel) ck_215
/-- X12_onDay -/
def ct_216 : qCt := (76, 7, true, [(53, 39), (53, 41), (53, 44), (77, 9999)], ([.inl 1], [(0, .inr (.inr (some 53))), (1, .inl (1, 0))], ([(0, 0), (0, 4)], [], []), []), [([.inl 0], some (.inl (2, 0)), ([(0, 0), (0, 4), ((-2147483648), 2147483647)], [], []), [])])
def cu_216 : List qCu := []
set_option maxRecDepth 1000000 in
theorem ck_216 : chkM qH [ct_205] [] 0 1000000 ct_216 cu_216 = true := by decide +kernel
theorem co_216 {L : List Nat} (h0 : CtOK qH QB L ct_0) : CtOK qH QB L ct_216 := chkM_ok QB_lasts qH_w (all_cons (co_205 h0) all_nil) (by decide +kernel) ck_216
/-- X12_openedAt -/
def ct_217 : qCt := (80, 8, true, [(53, 39), (53, 40), (53, 41), (53, 42), (53, 43), (53, 44), (77, 9999)], ([.inl 1], [(0, .inr (.inr (some 53))), (1, .inl (1, 0))], ([(0, 0), (0, 4)], [], []), []), [([.inl 0], some (.inl (2, 0)), ([(0, 0), (0, 4), ((-2147483648), 2147483647)], [], []), [])])
def cu_217 : List qCu := []
set_option maxRecDepth 1000000 in
theorem ck_217 : chkM qH [ct_215, ct_216] [] 0 1000000 ct_217 cu_217 = true := by decide +kernel
theorem co_217 {L : List Nat} (h0 : CtOK qH QB L ct_0) : CtOK qH QB L ct_217 := chkM_ok QB_lasts qH_w (all_cons (co_215) (all_cons (co_216 h0) all_nil)) (by decide +kernel) ck_217
/-- X12_wouldPass -/
def ct_218 : qCt := (79, 9, true, [(53, 39), (53, 40), (53, 41), (53, 42), (53, 43), (53, 44), (77, 9999)], ([.inl 1], [(0, .inr (.inr (some 53))), (1, .inl (1, 0))], ([(0, 0), ((-2147483648), 2147483647)], [], []), []), [([], some (.inl (0, 0)), ([(0, 0), ((-2147483648), 2147483647)], [], []), []), ([], some (.inl (0, 1)), ([(0, 0), (0, 4)], [], []), [])])
def cu_218 : List qCu := []
set_option maxRecDepth 1000000 in
theorem ck_218 : chkM qH [ct_217] [] 0 1000000 ct_218 cu_218 = true := by decide +kernel
theorem co_218 {L : List Nat} (h0 : CtOK qH QB L ct_0) : CtOK qH QB L ct_218 := chkM_ok QB_lasts qH_w (all_cons (co_217 h0) all_nil) (by decide +kernel) ck_218
/-- X12_openedShaken -/
def ct_219 : qCt := (75, 8, true, [(53, 39), (53, 40), (53, 41), (53, 42), (53, 43), (53, 44), (77, 9999)], ([.inl 1], [(0, .inr (.inr (some 53))), (1, .inl (1, 0)), (2, .inl (0, 1))], ([(0, 0), (0, 4)], [], []), []), [([.inl 0], some (.inl (2, 0)), ([(0, 0), (0, 4), ((-2147483648), 2147483647)], [], []), [])])
def cu_219 : List qCu := []
set_option maxRecDepth 1000000 in
theorem ck_219 : chkM qH [ct_215, ct_216] [] 0 1000000 ct_219 cu_219 = true := by decide +kernel
theorem co_219 {L : List Nat} (h0 : CtOK qH QB L ct_0) : CtOK qH QB L ct_219 := chkM_ok QB_lasts qH_w (all_cons (co_215) (all_cons (co_216 h0) all_nil)) (by decide +kernel) ck_219
/-- X12_brittle -/
def ct_220 : qCt := (73, 10, true, [(53, 39), (53, 40), (53, 41), (53, 42), (53, 43), (53, 44), (77, 9999)], ([], [(0, .inr (.inr (some 53)))], ([(0, 0)], [], []), []), [([.inl 0], some (.inl (1, 0)), ([(0, 0), (0, 31)], [], []), [])])
def cu_220 : List qCu := [(4, ([.inl 1, .inl 2], [(0, .inr (.inr (some 53))), (1, .inl (1, 0)), (2, .inl (2, 0))], ([(0, 0), (0, 31), (0, 5)], [], []), []), [(false, (0, 90)), (true, (2, 5))])]
set_option maxRecDepth 1000000 in
theorem ck_220 : chkM qH [ct_219, ct_218] [] 2 1000000 ct_220 cu_220 = true := by decide +kernel
theorem co_220 {L : List Nat} (h0 : CtOK qH QB L ct_0) : CtOK qH QB L ct_220 := chkM_ok QB_lasts qH_w (all_cons (co_219 h0) (all_cons (co_218 h0) all_nil)) (by decide +kernel) ck_220
