/-- X12_openedLater -/
def ct_247 : qCt := (140, 8, true, [(53, 39), (53, 40), (53, 41), (53, 42), (53, 43), (53, 44), (77, 9999)], ([.inl 1, .inl 2, .inl 3], [(0, .inr (.inr (some 53))), (1, .inl (1, 0)), (2, .inl (2, 0)), (3, .inl (3, 0))], ([(0, 0), (0, 4), (0, 63), (0, 2147483646)], [], []), []), [([.inl 0], some (.inl (4, 0)), ([(0, 0), (0, 4), (0, 63), (0, 2147483646), ((-2147483648), 2147483647)], [], []), [])])
def cu_247 : List qCu := []
set_option maxRecDepth 1000000 in
theorem ck_247 : chkM qH [ct_215, ct_216, ct_205, ct_202] [] 0 1000000 ct_247 cu_247 = true := by decide +kernel
theorem co_247 {L : List Nat} (h0 : CtOK qH QB L ct_0) : CtOK qH QB L ct_247 := chkM_ok QB_lasts qH_w (all_cons (co_215) (all_cons (co_216 h0) (all_cons (co_205 h0) (all_cons (co_202) all_nil)))) (by decide +kernel) ck_247
/-- X12_ripe -/
def ct_248 : qCt := (139, 9, true, [(53, 39), (53, 40), (53, 41), (53, 42), (53, 43), (53, 44), (77, 9999)], ([.inl 1, .inl 2, .inl 3], [(0, .inr (.inr (some 53))), (1, .inl (1, 0)), (2, .inl (2, 0)), (3, .inl (3, 0))], ([(0, 0), ((-2147483648), 2147483647), ((-2147483648), 2147483647), ((-2147483648), 2147483647)], [], []), []), [([.inl 0], some (.inl (4, 0)), ([(0, 0), ((-2147483648), 2147483647), ((-2147483648), 2147483647), ((-2147483648), 2147483647), ((-1), 2147483647)], [], []), [])])
def cu_248 : List qCu := [(49, ([.inl 4, .inl 5, .inl 6], [(0, .inr (.inr (some 53))), (1, .inl (1, 0)), (2, .inl (2, 0)), (3, .inl (3, 0)), (4, .inl (4, 0)), (5, .inl (5, 0)), (6, .inl (6, 0))], ([(0, 0), (0, 4), (0, 63), (0, 1), ((-1), 2147483647), ((-1), 2147483647), (0, 2147483647)], [], []), []), [(false, (0, 90)), (true, (6, 2147483647))])]
set_option maxRecDepth 1000000 in
theorem ck_248 : chkM qH [ct_247] [] 2 1000000 ct_248 cu_248 = true := by decide +kernel
theorem co_248 {L : List Nat} (h0 : CtOK qH QB L ct_0) : CtOK qH QB L ct_248 := chkM_ok QB_lasts qH_w (all_cons (co_247 h0) all_nil) (by decide +kernel) ck_248
/-- X12_bitsOf -/
def ct_249 : qCt := (133, 0, false, [], ([.inl 0], [(0, .inl (1, 0))], ([(0, 0), (0, 63)], [], []), []), [([.inl 0], some (.inl (2, 0)), ([(0, 0), (0, 63), (0, 6)], [], []), [])])
def cu_249 : List qCu := []
set_option maxRecDepth 1000000 in
theorem ck_249 : chkM qH [] [((133, 3), 2)] 2 1000000 ct_249 cu_249 = true := by decide +kernel
theorem co_249 {L : List Nat}  : CtOK qH QB L ct_249 := chkM_ok QB_lasts qH_w all_nil (by decide +kernel) ck_249
/-- X12_mayVote -/
def ct_250 : qCt := (152, 3, false, [], ([.inl 1, .inl 2], [(0, .inr (.inr (some 53))), (1, .inl (1, 0)), (2, .inl (2, 0))], ([(0, 0), ((-2147483648), 2147483647), ((-2147483648), 2147483647)], [], []), []), [([], some (.inl (0, 0)), ([(0, 0), ((-2147483648), 2147483647), ((-2147483648), 2147483647)], [], []), []), ([], some (.inl (0, 1)), ([(0, 0), (0, 5), (0, 4)], [], []), [])])
def cu_250 : List qCu := []
set_option maxRecDepth 1000000 in
theorem ck_250 : chkM qH [] [] 0 1000000 ct_250 cu_250 = true := by decide +kernel
theorem co_250 {L : List Nat}  : CtOK qH QB L ct_250 := chkM_ok QB_lasts qH_w all_nil (by decide +kernel) ck_250
/-- X12_mayAll -/
def ct_251 : qCt := (151, 4, false, [], ([.inl 1, .inl 2, .inl 3], [(0, .inr (.inr (some 53))), (1, .inl (1, 0)), (2, .inl (2, 0)), (3, .inl (3, 0))], ([(0, 0), ((-2147483648), 2147483647), ((-2147483648), 2147483647), ((-2147483648), 2147483647)], [], []), []), [([], some (.inl (0, 0)), ([(0, 0), ((-2147483648), 2147483647), ((-2147483648), 2147483647), ((-2147483648), 2147483647)], [], []), []), ([], some (.inl (0, 1)), ([(0, 0), (0, 4), (0, 63), (0, 2147483647)], [], []), [])])
def cu_251 : List qCu := [(29, ([.inl 4], [(0, .inr (.inr (some 53))), (1, .inl (1, 0)), (2, .inl (2, 0)), (3, .inl (3, 0)), (4, .inl (4, 0))], ([(0, 0), (0, 4), (0, 63), (0, 2147483647), (0, 6)], [], []), []), [(false, (0, 90)), (true, (4, 6))])]
set_option maxRecDepth 1000000 in
theorem ck_251 : chkM qH [ct_249, ct_250] [] 2 1000000 ct_251 cu_251 = true := by decide +kernel
theorem co_251 {L : List Nat}  : CtOK qH QB L ct_251 := chkM_ok QB_lasts qH_w (all_cons (co_249) (all_cons (co_250) all_nil)) (by decide +kernel) ck_251
/-- X12_weightOf -/
def ct_252 : qCt := (149, 1, false, [], ([.inl 1, .inl 2], [(0, .inr (.inr (some 53))), (1, .inl (1, 0)), (2, .inl (2, 0))], ([(0, 0), ((-2147483648), 2147483647), ((-2147483648), 2147483647)], [], []), []), [([.inl 0], some (.inl (3, 0)), ([(0, 0), ((-2147483648), 2147483647), ((-2147483648), 2147483647), ((-2147483648), 2147483647)], [], []), [])])
def cu_252 : List qCu := [(5, ([.inl 3, .inl 4], [(0, .inr (.inr (some 53))), (1, .inl (1, 0)), (2, .inl (2, 0)), (3, .inl (3, 0)), (4, .inl (4, 0))], ([(0, 0), ((-2147483648), 2147483647), ((-2147483648), 2147483647), ((-2147483648), 2147483647), (0, 6)], [], []), []), [(false, (0, 90)), (true, (4, 6))])]
set_option maxRecDepth 1000000 in
theorem ck_252 : chkM qH [] [] 2 1000000 ct_252 cu_252 = true := by decide +kernel
theorem co_252 {L : List Nat}  : CtOK qH QB L ct_252 := chkM_ok QB_lasts qH_w all_nil (by decide +kernel) ck_252
/-- X12_openedWith -/
def ct_253 : qCt := (150, 8, true, [(53, 39), (53, 40), (53, 41), (53, 42), (53, 43), (53, 44), (77, 9999)], ([.inl 1, .inl 2], [(0, .inr (.inr (some 53))), (1, .inl (1, 0)), (2, .inl (2, 0))], ([(0, 0), (0, 4), (0, 63)], [], []), []), [([.inl 0], some (.inl (3, 0)), ([(0, 0), (0, 4), (0, 63), ((-2147483648), 2147483647)], [], []), [])])
def cu_253 : List qCu := []
set_option maxRecDepth 1000000 in
theorem ck_253 : chkM qH [ct_215, ct_216, ct_202] [] 0 1000000 ct_253 cu_253 = true := by decide +kernel
theorem co_253 {L : List Nat} (h0 : CtOK qH QB L ct_0) : CtOK qH QB L ct_253 := chkM_ok QB_lasts qH_w (all_cons (co_215) (all_cons (co_216 h0) (all_cons (co_202) all_nil))) (by decide +kernel) ck_253
/-- X12_overParts -/
def ct_254 : qCt := (148, 9, true, [(53, 39), (53, 40), (53, 41), (53, 42), (53, 43), (53, 44), (77, 9999)], ([.inl 1, .inl 2], [(0, .inr (.inr (some 53))), (1, .inl (1, 0)), (2, .inl (2, 0)), (3, .inl (0, 1))], ([(0, 0), (0, 4), (0, 63)], [], []), []), [([.inl 0], some (.inl (3, 0)), ([(0, 0), (0, 4), (0, 63), ((-2147483648), 2147483647)], [], []), [])])
def cu_254 : List qCu := [(6, ([.inl 4, .inl 5], [(0, .inr (.inr (some 53))), (1, .inl (1, 0)), (2, .inl (2, 0)), (3, .inl (0, 1)), (4, .inl (3, 0)), (5, .inl (4, 0))], ([(0, 0), (0, 4), (0, 63), ((-2147483648), 2147483647), (0, 64)], [], []), []), [(false, (0, 90)), (true, (4, 64))])]
set_option maxRecDepth 1000000 in
theorem ck_254 : chkM qH [ct_253, ct_252] [] 2 1000000 ct_254 cu_254 = true := by decide +kernel
theorem co_254 {L : List Nat} (h0 : CtOK qH QB L ct_0) : CtOK qH QB L ct_254 := chkM_ok QB_lasts qH_w (all_cons (co_253 h0) (all_cons (co_252) all_nil)) (by decide +kernel) ck_254
/-- X12_divisor -/
def ct_255 : qCt := (147, 0, false, [], ([.inl 1], [(0, .inl (0, (-727379968))), (1, .inl (1, 0))], ([(0, 0), ((-2147483648), 2147483647)], [], []), []), [([.inl 0], some (.inl (2, 0)), ([(0, 0), (1, 2147483647), (1, 2147483647)], [], []), []), ([], some (.inl (0, (-727379968))), ([(0, 0), ((-2147483648), 0)], [], []), [])])
def cu_255 : List qCu := [(4, ([], [(0, .inl (0, (-727379968))), (1, .inl (1, 0)), (2, .inl (0, (-727379968))), (3, .inl (1, 0))], ([(0, 0), ((-2147483648), 2147483647)], [], []), []), [(false, (0, 90)), (false, (1, 2147483648))]), (4, ([.inl 2, .inl 3, .inl 4], [(0, .inl (0, (-727379968))), (1, .inl (1, 0)), (2, .inl (2, 0)), (3, .inl (3, 0)), (4, .inl (4, 0))], ([(0, 0), (1, 2147483647), (1, 2147483647), ((-2147483646), 2147483646), ((-2147483646), 2147483646)], [], []), []), [(false, (0, 90)), (false, (3, 2147483648))])]
set_option maxRecDepth 1000000 in
theorem ck_255 : chkM qH [] [] 2 1000000 ct_255 cu_255 = true := by decide +kernel
theorem co_255 {L : List Nat}  : CtOK qH QB L ct_255 := chkM_ok QB_lasts qH_w all_nil (by decide +kernel) ck_255
/-- X12_divisor -/
def ct_256 : qCt := (147, 0, false, [], ([.inl 1], [(0, .inl (0, 1410065408)), (1, .inl (1, 0))], ([(0, 0), ((-2147483648), 2147483647)], [], []), []), [([.inl 0], some (.inl (2, 0)), ([(0, 0), ((-2147483648), 2147483647), (1, 2147483647)], [], []), [])])
def cu_256 : List qCu := [(4, ([], [(0, .inl (0, 1410065408)), (1, .inl (1, 0)), (2, .inl (0, 1410065408)), (3, .inl (1, 0))], ([(0, 0), ((-2147483648), 2147483647)], [], []), []), [(false, (0, 90)), (false, (1, 2147483648))]), (4, ([.inl 2, .inl 3, .inl 4], [(0, .inl (0, 1410065408)), (1, .inl (1, 0)), (2, .inl (2, 0)), (3, .inl (3, 0)), (4, .inl (4, 0))], ([(0, 0), (1, 2147483647), (1, 2147483647), (0, 1410065408), (0, 1410065408)], [], []), []), [(false, (0, 90)), (false, (3, 2147483648))])]
set_option maxRecDepth 1000000 in
theorem ck_256 : chkM qH [] [] 2 1000000 ct_256 cu_256 = true := by decide +kernel
theorem co_256 {L : List Nat}  : CtOK qH QB L ct_256 := chkM_ok QB_lasts qH_w all_nil (by decide +kernel) ck_256
/-- X12_divisor -/
def ct_257 : qCt := (147, 0, false, [], ([.inl 1], [(0, .inl (0, 100000000)), (1, .inl (1, 0))], ([(0, 0), ((-2147483648), 2147483647)], [], []), []), [([.inl 0], some (.inl (2, 0)), ([(0, 0), ((-2147483648), 2147483647), (1, 2147483647)], [], []), [])])
def cu_257 : List qCu := [(4, ([], [(0, .inl (0, 100000000)), (1, .inl (1, 0)), (2, .inl (0, 100000000)), (3, .inl (1, 0))], ([(0, 0), ((-2147483648), 2147483647)], [], []), []), [(false, (0, 90)), (false, (1, 2147483648))]), (4, ([.inl 2, .inl 3, .inl 4], [(0, .inl (0, 100000000)), (1, .inl (1, 0)), (2, .inl (2, 0)), (3, .inl (3, 0)), (4, .inl (4, 0))], ([(0, 0), (1, 2147483647), (1, 2147483647), (0, 100000000), (0, 100000000)], [], []), []), [(false, (0, 90)), (false, (3, 2147483648))])]
set_option maxRecDepth 1000000 in
theorem ck_257 : chkM qH [] [] 2 1000000 ct_257 cu_257 = true := by decide +kernel
theorem co_257 {L : List Nat}  : CtOK qH QB L ct_257 := chkM_ok QB_lasts qH_w all_nil (by decide +kernel) ck_257
/-- X12_divisor -/
def ct_258 : qCt := (147, 0, false, [], ([.inl 1], [(0, .inl (0, 1000000)), (1, .inl (1, 0))], ([(0, 0), ((-2147483648), 2147483647)], [], []), []), [([.inl 0], some (.inl (2, 0)), ([(0, 0), ((-2147483648), 2147483647), (1, 2147483647)], [], []), [])])
def cu_258 : List qCu := [(4, ([], [(0, .inl (0, 1000000)), (1, .inl (1, 0)), (2, .inl (0, 1000000)), (3, .inl (1, 0))], ([(0, 0), ((-2147483648), 2147483647)], [], []), []), [(false, (0, 90)), (false, (1, 2147483648))]), (4, ([.inl 2, .inl 3, .inl 4], [(0, .inl (0, 1000000)), (1, .inl (1, 0)), (2, .inl (2, 0)), (3, .inl (3, 0)), (4, .inl (4, 0))], ([(0, 0), (1, 2147483647), (1, 2147483647), (0, 1000000), (0, 1000000)], [], []), []), [(false, (0, 90)), (false, (3, 2147483648))])]
set_option maxRecDepth 1000000 in
theorem ck_258 : chkM qH [] [] 2 1000000 ct_258 cu_258 = true := by decide +kernel
theorem co_258 {L : List Nat}  : CtOK qH QB L ct_258 := chkM_ok QB_lasts qH_w all_nil (by decide +kernel) ck_258
/-- X12_divisor -/
def ct_259 : qCt := (147, 0, false, [], ([.inl 1], [(0, .inl (0, 10000)), (1, .inl (1, 0))], ([(0, 0), ((-2147483648), 2147483647)], [], []), []), [([.inl 0], some (.inl (2, 0)), ([(0, 0), ((-2147483648), 2147483647), (1, 2147483647)], [], []), [])])
def cu_259 : List qCu := [(4, ([], [(0, .inl (0, 10000)), (1, .inl (1, 0)), (2, .inl (0, 10000)), (3, .inl (1, 0))], ([(0, 0), ((-2147483648), 2147483647)], [], []), []), [(false, (0, 90)), (false, (1, 2147483648))]), (4, ([.inl 2, .inl 3, .inl 4], [(0, .inl (0, 10000)), (1, .inl (1, 0)), (2, .inl (2, 0)), (3, .inl (3, 0)), (4, .inl (4, 0))], ([(0, 0), (1, 2147483647), (1, 2147483647), (0, 10000), (0, 10000)], [], []), []), [(false, (0, 90)), (false, (3, 2147483648))])]
set_option maxRecDepth 1000000 in
theorem ck_259 : chkM qH [] [] 2 1000000 ct_259 cu_259 = true := by decide +kernel
theorem co_259 {L : List Nat}  : CtOK qH QB L ct_259 := chkM_ok QB_lasts qH_w all_nil (by decide +kernel) ck_259
/-- X12_divisor -/
def ct_260 : qCt := (147, 0, false, [], ([.inl 1], [(0, .inl (0, 100)), (1, .inl (1, 0))], ([(0, 0), ((-2147483648), 2147483647)], [], []), []), [([.inl 0], some (.inl (2, 0)), ([(0, 0), ((-2147483648), 2147483647), (1, 2147483647)], [], []), [])])
def cu_260 : List qCu := [(4, ([], [(0, .inl (0, 100)), (1, .inl (1, 0)), (2, .inl (0, 100)), (3, .inl (1, 0))], ([(0, 0), ((-2147483648), 2147483647)], [], []), []), [(false, (0, 90)), (false, (1, 2147483648))]), (4, ([.inl 2, .inl 3, .inl 4], [(0, .inl (0, 100)), (1, .inl (1, 0)), (2, .inl (2, 0)), (3, .inl (3, 0)), (4, .inl (4, 0))], ([(0, 0), (1, 2147483647), (1, 2147483647), (0, 100), (0, 100)], [], []), []), [(false, (0, 90)), (false, (3, 2147483648))])]
set_option maxRecDepth 1000000 in
theorem ck_260 : chkM qH [] [] 2 1000000 ct_260 cu_260 = true := by decide +kernel
theorem co_260 {L : List Nat}  : CtOK qH QB L ct_260 := chkM_ok QB_lasts qH_w all_nil (by decide +kernel) ck_260
/-- X12_divisor -/
def ct_261 : qCt := (147, 0, false, [], ([.inl 1], [(0, .inl (0, 1)), (1, .inl (1, 0))], ([(0, 0), ((-2147483648), 2147483647)], [], []), []), [([.inl 0], some (.inl (2, 0)), ([(0, 0), ((-2147483648), 2147483647), (1, 2147483647)], [], []), [])])
def cu_261 : List qCu := [(4, ([.inl 2, .inl 3], [(0, .inl (0, 1)), (1, .inl (1, 0)), (2, .inl (2, 0)), (3, .inl (3, 0))], ([(0, 0), ((-2147483648), 2147483647), (1, 1), ((-2147483648), 2147483647)], [], []), []), [(false, (0, 90)), (false, (3, 2147483648))]), (4, ([.inl 2, .inl 3, .inl 4], [(0, .inl (0, 1)), (1, .inl (1, 0)), (2, .inl (2, 0)), (3, .inl (3, 0)), (4, .inl (4, 0))], ([(0, 0), ((-2147483648), 2147483647), (1, 2147483647), (0, 1), (0, 1)], [], []), []), [(false, (0, 90)), (false, (3, 2147483648))])]
set_option maxRecDepth 1000000 in
theorem ck_261 : chkM qH [] [] 2 1000000 ct_261 cu_261 = true := by decide +kernel
theorem co_261 {L : List Nat}  : CtOK qH QB L ct_261 := chkM_ok QB_lasts qH_w all_nil (by decide +kernel) ck_261
/-- X12_mean -/
def ct_262 : qCt := (145, 10, true, [(53, 39), (53, 40), (53, 41), (53, 42), (53, 43), (53, 44), (77, 9999)], ([.inl 1, .inl 2, .inl 3], [(0, .inr (.inr (some 53))), (1, .inl (1, 0)), (2, .inl (2, 0)), (3, .inl (3, 0))], ([(0, 0), ((-2147483648), 2147483647), ((-2147483648), 2147483647), ((-2147483648), 2147483647)], [], []), []), [([.inl 0], some (.inl (4, 0)), ([(0, 0), ((-2147483648), 2147483647), ((-2147483648), 2147483647), ((-2147483648), 2147483647), ((-2147483648), 2147483647)], [], []), [])])
def cu_262 : List qCu := []
set_option maxRecDepth 1000000 in
theorem ck_262 : chkM qH [ct_249, ct_254, ct_255, ct_256, ct_257, ct_258, ct_259, ct_260, ct_261, ct_251] [((146, 7), 2)] 0 1000000 ct_262 cu_262 = true := by decide +kernel
theorem co_262 {L : List Nat} (h0 : CtOK qH QB L ct_0) : CtOK qH QB L ct_262 := chkM_ok QB_lasts qH_w (all_cons (co_249) (all_cons (co_254 h0) (all_cons (co_255) (all_cons (co_256) (all_cons (co_257) (all_cons (co_258) (all_cons (co_259) (all_cons (co_260) (all_cons (co_261) (all_cons (co_251) all_nil)))))))))) (by decide +kernel) ck_262
/-- X12_overParts -/
def ct_263 : qCt := (148, 9, true, [(53, 39), (53, 40), (53, 41), (53, 42), (53, 43), (53, 44), (77, 9999)], ([.inl 1, .inl 2], [(0, .inr (.inr (some 53))), (1, .inl (1, 0)), (2, .inl (2, 0)), (3, .inl (0, 0))], ([(0, 0), (0, 4), (0, 63)], [], []), []), [([.inl 0], some (.inl (3, 0)), ([(0, 0), (0, 4), (0, 63), ((-2147483648), 2147483647)], [], []), [])])
def cu_263 : List qCu := [(6, ([.inl 4, .inl 5], [(0, .inr (.inr (some 53))), (1, .inl (1, 0)), (2, .inl (2, 0)), (3, .inl (0, 0)), (4, .inl (3, 0)), (5, .inl (4, 0))], ([(0, 0), (0, 4), (0, 63), ((-2147483648), 2147483647), (0, 64)], [], []), []), [(false, (0, 90)), (true, (4, 64))])]
set_option maxRecDepth 1000000 in
theorem ck_263 : chkM qH [ct_253, ct_252] [] 2 1000000 ct_263 cu_263 = true := by decide +kernel
theorem co_263 {L : List Nat} (h0 : CtOK qH QB L ct_0) : CtOK qH QB L ct_263 := chkM_ok QB_lasts qH_w (all_cons (co_253 h0) (all_cons (co_252) all_nil)) (by decide +kernel) ck_263
/-- X12_odds -/
def ct_264 : qCt := (162, 10, true, [(53, 39), (53, 40), (53, 41), (53, 42), (53, 43), (53, 44), (77, 9999)], ([.inl 1, .inl 2, .inl 3], [(0, .inr (.inr (some 53))), (1, .inl (1, 0)), (2, .inl (2, 0)), (3, .inl (3, 0))], ([(0, 0), ((-2147483648), 2147483647), ((-2147483648), 2147483647), ((-2147483648), 2147483647)], [], []), []), [([.inl 0], some (.inl (4, 0)), ([(0, 0), ((-2147483648), 2147483647), ((-2147483648), 2147483647), ((-2147483648), 2147483647), ((-2147483648), 2147483647)], [], []), [])])
def cu_264 : List qCu := []
set_option maxRecDepth 1000000 in
theorem ck_264 : chkM qH [ct_249, ct_263, ct_255, ct_256, ct_257, ct_258, ct_259, ct_260, ct_261, ct_251] [((146, 7), 2)] 0 1000000 ct_264 cu_264 = true := by decide +kernel
theorem co_264 {L : List Nat} (h0 : CtOK qH QB L ct_0) : CtOK qH QB L ct_264 := chkM_ok QB_lasts qH_w (all_cons (co_249) (all_cons (co_263 h0) (all_cons (co_255) (all_cons (co_256) (all_cons (co_257) (all_cons (co_258) (all_cons (co_259) (all_cons (co_260) (all_cons (co_261) (all_cons (co_251) all_nil)))))))))) (by decide +kernel) ck_264
