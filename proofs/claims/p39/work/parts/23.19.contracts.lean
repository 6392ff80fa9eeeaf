/-- X12_law -/
def ct_265 : qCt := (165, 9, true, [(53, 39), (53, 40), (53, 41), (53, 42), (53, 43), (53, 44), (77, 9999)], ([.inl 1], [(0, .inr (.inr (some 53))), (1, .inl (1, 0))], ([(0, 0), ((-2147483648), 2147483647)], [], []), []), [([.inl 0], some (.inl (2, 0)), ([(0, 0), ((-2147483648), 2147483647), ((-2147483648), 2147483647)], [], []), [])])
def cu_265 : List qCu := [(17, ([.inl 2, .inl 3], [(0, .inr (.inr (some 53))), (1, .inl (1, 0)), (2, .inl (2, 0)), (3, .inl (3, 0))], ([(0, 0), ((-99), 99), ((-2147483648), 2147483647), (0, 5)], [], []), []), [(false, (0, 90)), (true, (3, 5))])]
set_option maxRecDepth 1000000 in
theorem ck_265 : chkM qH [ct_217] [] 2 1000000 ct_265 cu_265 = true := by decide +kernel
theorem co_265 {L : List Nat} (h0 : CtOK qH QB L ct_0) : CtOK qH QB L ct_265 := chkM_ok QB_lasts qH_w (all_cons (co_217 h0) all_nil) (by decide +kernel) ck_265
/-- X12_joint -/
def ct_266 : qCt := (168, 10, true, [(53, 39), (53, 40), (53, 41), (53, 42), (53, 43), (53, 44), (77, 9999), (78, 9999), (80, 9999)], ([.inl 1, .inl 2], [(0, .inr (.inr (some 53))), (1, .inl (1, 0)), (2, .inl (2, 0))], ([(0, 0), ((-2147483648), 2147483647), ((-2147483648), 2147483647)], [], []), []), [([.inl 0], some (.inl (3, 0)), ([(0, 0), ((-2147483648), 2147483647), ((-2147483648), 2147483647), ((-2147483648), 2147483647)], [], []), [])])
def cu_266 : List qCu := []
set_option maxRecDepth 1000000 in
theorem ck_266 : chkM qH [ct_225, ct_221] [] 0 1000000 ct_266 cu_266 = true := by decide +kernel
theorem co_266 {L : List Nat} (h0 : CtOK qH QB L ct_0) : CtOK qH QB L ct_266 := chkM_ok QB_lasts qH_w (all_cons (co_225 h0) (all_cons (co_221) all_nil)) (by decide +kernel) ck_266
/-- X12_best -/
def ct_267 : qCt := (170, 8, true, [(53, 39), (53, 40), (53, 41), (53, 42), (53, 43), (53, 44), (77, 9999)], ([.inl 1], [(0, .inr (.inr (some 53))), (1, .inl (1, 0))], ([(0, 0), ((-2147483648), 2147483647)], [], []), []), [([.inl 0], some (.inl (2, 0)), ([(0, 0), ((-2147483648), 2147483647), ((-1), 9)], [], []), [])])
def cu_267 : List qCu := [(17, ([.inl 2, .inl 3, .inl 4], [(0, .inr (.inr (some 53))), (1, .inl (1, 0)), (2, .inl (2, 0)), (3, .inl (3, 0)), (4, .inl (4, 0))], ([(0, 0), (0, 4), ((-1), 9), ((-1), 2147483647), (0, 10)], [], []), []), [(false, (0, 90)), (true, (4, 10))])]
set_option maxRecDepth 1000000 in
theorem ck_267 : chkM qH [ct_215, ct_216] [] 2 1000000 ct_267 cu_267 = true := by decide +kernel
theorem co_267 {L : List Nat} (h0 : CtOK qH QB L ct_0) : CtOK qH QB L ct_267 := chkM_ok QB_lasts qH_w (all_cons (co_215) (all_cons (co_216 h0) all_nil)) (by decide +kernel) ck_267
/-- X12_passesAlone -/
def ct_268 : qCt := (175, 8, true, [(53, 39), (53, 40), (53, 41), (53, 42), (53, 43), (53, 44), (77, 9999)], ([.inl 1, .inl 2], [(0, .inr (.inr (some 53))), (1, .inl (1, 0)), (2, .inl (2, 0))], ([(0, 0), (0, 4), (0, 63)], [], []), []), [([], some (.inl (0, 0)), ([(0, 0), (0, 4), (0, 63)], [], []), []), ([], some (.inl (0, 1)), ([(0, 0), (0, 4), (0, 63)], [], []), [])])
def cu_268 : List qCu := []
set_option maxRecDepth 1000000 in
theorem ck_268 : chkM qH [ct_216, ct_200, ct_202] [] 0 1000000 ct_268 cu_268 = true := by decide +kernel
theorem co_268 {L : List Nat} (h0 : CtOK qH QB L ct_0) : CtOK qH QB L ct_268 := chkM_ok QB_lasts qH_w (all_cons (co_216 h0) (all_cons (co_200) (all_cons (co_202) all_nil))) (by decide +kernel) ck_268
/-- X12_factorial -/
def ct_269 : qCt := (174, 0, false, [], ([.inl 0], [(0, .inl (1, 0))], ([(0, 0), (0, 6)], [], []), []), [([.inl 0], some (.inl (2, 0)), ([(0, 0), (0, 6), (1, 720)], [], []), [])])
def cu_269 : List qCu := []
set_option maxRecDepth 1000000 in
theorem ck_269 : chkM qH [] [((174, 6), 2)] 2 1000000 ct_269 cu_269 = true := by decide +kernel
theorem co_269 {L : List Nat}  : CtOK qH QB L ct_269 := chkM_ok QB_lasts qH_w all_nil (by decide +kernel) ck_269
/-- X12_divisor -/
def ct_270 : qCt := (147, 0, false, [], ([.inl 0, .inl 1], [(0, .inl (1, 0)), (1, .inl (2, 0))], ([(0, 0), (1, 720), ((-2147483648), 2147483647)], [], []), []), [([.inl 0], some (.inl (3, 0)), ([(0, 0), (1, 720), ((-2147483648), 2147483647), (1, 2147483647)], [], []), [])])
def cu_270 : List qCu := [(4, ([.inl 2, .inl 3], [(0, .inl (1, 0)), (1, .inl (2, 0)), (2, .inl (3, 0)), (3, .inl (4, 0))], ([(0, 0), (1, 720), ((-2147483648), 2147483647), (1, 2147483647), ((-2147483648), 2147483647)], [], []), []), [(false, (0, 90)), (false, (4, 2147483648))])]
set_option maxRecDepth 1000000 in
theorem ck_270 : chkM qH [] [] 2 1000000 ct_270 cu_270 = true := by decide +kernel
theorem co_270 {L : List Nat}  : CtOK qH QB L ct_270 := chkM_ok QB_lasts qH_w all_nil (by decide +kernel) ck_270
/-- X12_factorial -/
def ct_271 : qCt := (174, 0, false, [], ([.inl 0], [(0, .inl (1, 0))], ([(0, 0), ((-7), 5)], [], []), []), [([.inl 0], some (.inl (2, 0)), ([(0, 0), ((-7), 5), (1, 120)], [], []), [])])
def cu_271 : List qCu := []
set_option maxRecDepth 1000000 in
theorem ck_271 : chkM qH [] [((174, 6), 2)] 2 1000000 ct_271 cu_271 = true := by decide +kernel
theorem co_271 {L : List Nat}  : CtOK qH QB L ct_271 := chkM_ok QB_lasts qH_w all_nil (by decide +kernel) ck_271
/-- X12_power -/
def ct_272 : qCt := (173, 9, true, [(53, 39), (53, 40), (53, 41), (53, 42), (53, 43), (53, 44), (77, 9999)], ([.inl 1, .inl 2, .inl 3], [(0, .inr (.inr (some 53))), (1, .inl (1, 0)), (2, .inl (2, 0)), (3, .inl (3, 0))], ([(0, 0), ((-2147483648), 2147483647), ((-2147483648), 2147483647), ((-2147483648), 2147483647)], [], []), []), [([.inl 0], some (.inl (4, 0)), ([(0, 0), ((-2147483648), 2147483647), ((-2147483648), 2147483647), ((-2147483648), 2147483647), ((-2147483648), 2147483647)], [], []), [])])
def cu_272 : List qCu := [(33, ([.inl 4, .inl 5], [(0, .inr (.inr (some 53))), (1, .inl (1, 0)), (2, .inl (2, 0)), (3, .inl (3, 0)), (4, .inl (4, 0)), (5, .inl (5, 0))], ([(0, 0), (0, 5), (0, 4), (0, 1), ((-2147483648), 2147483647), (0, 64)], [], []), []), [(false, (0, 90)), (true, (5, 64))])]
set_option maxRecDepth 1000000 in
theorem ck_272 : chkM qH [ct_269, ct_271, ct_249, ct_268, ct_270] [] 2 1000000 ct_272 cu_272 = true := by decide +kernel
theorem co_272 {L : List Nat} (h0 : CtOK qH QB L ct_0) : CtOK qH QB L ct_272 := chkM_ok QB_lasts qH_w (all_cons (co_269) (all_cons (co_271) (all_cons (co_249) (all_cons (co_268 h0) (all_cons (co_270) all_nil))))) (by decide +kernel) ck_272
/-- X12_times -/
def ct_273 : qCt := (118, 0, false, [], ([.inl 1], [(0, .inl (0, 6)), (1, .inl (1, 0))], ([(0, 0), (0, 6)], [], []), []), [([.inl 0], some (.inl (2, 0)), ([(0, 0), (0, 6), (1, 46656)], [], []), [])])
def cu_273 : List qCu := []
set_option maxRecDepth 1000000 in
theorem ck_273 : chkM qH [] [((118, 6), 2)] 2 1000000 ct_273 cu_273 = true := by decide +kernel
theorem co_273 {L : List Nat}  : CtOK qH QB L ct_273 := chkM_ok QB_lasts qH_w all_nil (by decide +kernel) ck_273
/-- X12_layChoice -/
def ct_274 : qCt := (182, 4, false, [(83, 9999)], ([.inl 1], [(0, .inr (.inr (some 53))), (1, .inl (1, 0))], ([(0, 0), ((-2147483648), 2147483647)], [], []), []), [([.inl 0], some (.inl (2, 0)), ([(0, 0), ((-2147483648), 2147483647), ((-2147483648), 2147483647)], [], []), [])])
def cu_274 : List qCu := [(12, ([.inl 2, .inl 3, .inl 4], [(0, .inr (.inr (some 53))), (1, .inl (1, 0)), (2, .inl (2, 0)), (3, .inl (3, 0)), (4, .inl (4, 0))], ([(0, 0), ((-2147483648), 2147483647), ((-2147483648), 2147483647), ((-2147483648), 2147483647), ((-1), 5)], [], []), []), [(false, (0, 90)), (false, (4, 1))])]
set_option maxRecDepth 1000000 in
theorem ck_274 : chkM qH [ct_250] [] 2 1000000 ct_274 cu_274 = true := by decide +kernel
theorem co_274 {L : List Nat}  : CtOK qH QB L ct_274 := chkM_ok QB_lasts qH_w (all_cons (co_250) all_nil) (by decide +kernel) ck_274
/-- X12_passedByChoice -/
def ct_275 : qCt := (181, 1, false, [], ([], [(0, .inr (.inr (some 53)))], ([(0, 0)], [], []), []), [([.inl 0], some (.inl (1, 0)), ([(0, 0), ((-2147483648), 2147483647)], [], []), [])])
def cu_275 : List qCu := [(4, ([.inl 1, .inl 2], [(0, .inr (.inr (some 53))), (1, .inl (1, 0)), (2, .inl (2, 0))], ([(0, 0), ((-2147483648), 2147483647), (0, 5)], [], []), []), [(false, (0, 90)), (true, (2, 5)), (false, (0, 99)), (false, (0, 0))]), (22, ([.inl 1, .inl 2, .inl 3, .inl 4], [(0, .inr (.inr (some 53))), (1, .inl (1, 0)), (2, .inl (2, 0)), (3, .inl (3, 0)), (4, .inl (4, 0))], ([(0, 0), ((-2147483648), 2147483647), (0, 4), (0, 63), (0, 6)], [], []), []), [(false, (0, 90)), (true, (2, 5)), (false, (0, 89)), (true, (4, 6))])]
set_option maxRecDepth 1000000 in
theorem ck_275 : chkM qH [] [] 4 1000000 ct_275 cu_275 = true := by decide +kernel
theorem co_275 {L : List Nat}  : CtOK qH QB L ct_275 := chkM_ok QB_lasts qH_w all_nil (by decide +kernel) ck_275
/-- X12_plan -/
def ct_276 : qCt := (180, 9, true, [(53, 39), (53, 40), (53, 41), (53, 42), (53, 43), (53, 44), (53, 53), (77, 9999), (81, 9999), (82, 9999), (83, 9999)], ([], [(0, .inr (.inr (some 53)))], ([(0, 0)], [], []), []), [([.inl 0], some (.inl (1, 0)), ([(0, 0), ((-1), 2147483647)], [], []), [])])
def cu_276 : List qCu := [(2, ([.inl 1], [(0, .inr (.inr (some 53))), (1, .inl (1, 0))], ([(0, 0), (0, 5)], [], []), []), [(false, (0, 90)), (true, (1, 5)), (false, (0, 99)), (false, (0, 0))]), (17, ([.inl 1, .inl 2], [(0, .inr (.inr (some 53))), (1, .inl (1, 0)), (2, .inl (2, 0))], ([(0, 0), (0, 4), (0, 64)], [], []), []), [(false, (0, 90)), (true, (1, 5)), (false, (0, 89)), (true, (2, 64))]), (96, ([.inl 1, .inl 2, .inl 3], [(0, .inr (.inr (some 53))), (1, .inl (1, 0)), (2, .inl (2, 0)), (3, .inl (3, 0))], ([(0, 0), ((-1), 2147483647), (0, 2147483647), (0, 46656)], [], []), []), [(false, (0, 88)), (true, (3, 46656)), (false, (0, 99)), (false, (0, 0))]), (160, ([.inl 1, .inl 2, .inl 3, .inl 4, .inl 5, .inl 6], [(0, .inr (.inr (some 53))), (1, .inl (1, 0)), (2, .inl (2, 0)), (3, .inl (3, 0)), (4, .inl (4, 0)), (5, .inl (5, 0)), (6, .inl (6, 0))], ([(0, 0), ((-1), 2147483647), (0, 2147483647), (0, 46655), (0, 2147483647), ((-1), 2147483647), (0, 6)], [], []), []), [(false, (0, 88)), (true, (3, 46656)), (false, (0, 87)), (true, (6, 6))])]
set_option maxRecDepth 1000000 in
theorem ck_276 : chkM qH [ct_275, ct_273, ct_253, ct_274] [] 4 1000000 ct_276 cu_276 = true := by decide +kernel
theorem co_276 {L : List Nat} (h0 : CtOK qH QB L ct_0) : CtOK qH QB L ct_276 := chkM_ok QB_lasts qH_w (all_cons (co_275) (all_cons (co_273) (all_cons (co_253 h0) (all_cons (co_274) all_nil)))) (by decide +kernel) ck_276
/-- X12_openedLater -/
def ct_277 : qCt := (140, 8, true, [(53, 39), (53, 40), (53, 41), (53, 42), (53, 43), (53, 44), (77, 9999)], ([.inl 1, .inl 2, .inl 3], [(0, .inr (.inr (some 53))), (1, .inl (1, 0)), (2, .inl (2, 0)), (3, .inl (3, 0))], ([(0, 0), (0, 4), (1, 32), (0, 2147483647)], [], []), []), [([.inl 0], some (.inl (4, 0)), ([(0, 0), (0, 4), (1, 32), (0, 2147483647), ((-2147483648), 2147483647)], [], []), [])])
def cu_277 : List qCu := []
set_option maxRecDepth 1000000 in
theorem ck_277 : chkM qH [ct_215, ct_216, ct_205, ct_202] [] 0 1000000 ct_277 cu_277 = true := by decide +kernel
theorem co_277 {L : List Nat} (h0 : CtOK qH QB L ct_0) : CtOK qH QB L ct_277 := chkM_ok QB_lasts qH_w (all_cons (co_215) (all_cons (co_216 h0) (all_cons (co_205 h0) (all_cons (co_202) all_nil)))) (by decide +kernel) ck_277
/-- X12_latest -/
def ct_278 : qCt := (188, 9, true, [(53, 39), (53, 40), (53, 41), (53, 42), (53, 43), (53, 44), (77, 9999)], ([.inl 1, .inl 2], [(0, .inr (.inr (some 53))), (1, .inl (1, 0)), (2, .inl (2, 0))], ([(0, 0), ((-2147483648), 2147483647), ((-2147483648), 2147483647)], [], []), []), [([.inl 0], some (.inl (3, 0)), ([(0, 0), ((-2147483648), 2147483647), ((-2147483648), 2147483647), ((-1), 2147483647)], [], []), [])])
def cu_278 : List qCu := [(70, ([.inl 3, .inl 4], [(0, .inr (.inr (some 53))), (1, .inl (1, 0)), (2, .inl (2, 0)), (3, .inl (3, 0)), (4, .inl (4, 0))], ([(0, 0), (0, 5), (0, 4), (0, 1), ((-2147483648), 2147483647)], [], []), []), [(false, (0, 90)), (false, (4, 2147483648))])]
set_option maxRecDepth 1000000 in
theorem ck_278 : chkM qH [ct_277] [] 2 1000000 ct_278 cu_278 = true := by decide +kernel
theorem co_278 {L : List Nat} (h0 : CtOK qH QB L ct_0) : CtOK qH QB L ct_278 := chkM_ok QB_lasts qH_w (all_cons (co_277 h0) all_nil) (by decide +kernel) ck_278
/-- X12_muster -/
def ct_279 : qCt := (191, 9, true, [(53, 39), (53, 40), (53, 41), (53, 42), (53, 43), (53, 44), (77, 9999)], ([.inl 1, .inl 2], [(0, .inr (.inr (some 53))), (1, .inl (1, 0)), (2, .inl (2, 0))], ([(0, 0), ((-2147483648), 2147483647), ((-2147483648), 2147483647)], [], []), []), [([.inl 0], some (.inl (3, 0)), ([(0, 0), ((-2147483648), 2147483647), ((-2147483648), 2147483647), ((-1), 2147483647)], [], []), [])])
def cu_279 : List qCu := [(27, ([.inl 4, .inl 5], [(0, .inr (.inr (some 53))), (1, .inl (1, 0)), (2, .inl (2, 0)), (3, .inl (0, (-1))), (4, .inl (3, 0)), (5, .inl (4, 0))], ([(0, 0), (0, 4), (0, 1), (0, 63), (0, 6)], [], []), []), [(false, (0, 90)), (true, (4, 6))]), (64, ([.inl 3, .inl 4, .inl 5], [(0, .inr (.inr (some 53))), (1, .inl (1, 0)), (2, .inl (2, 0)), (3, .inl (3, 0)), (4, .inl (4, 0)), (5, .inl (5, 0))], ([(0, 0), (0, 4), (0, 1), ((-1), 2147483647), (0, 63), (0, 64)], [], []), []), [(false, (0, 89)), (true, (5, 64))])]
set_option maxRecDepth 1000000 in
theorem ck_279 : chkM qH [ct_249, ct_253, ct_1, ct_250] [] 2 1000000 ct_279 cu_279 = true := by decide +kernel
theorem co_279 {L : List Nat} (h0 : CtOK qH QB L ct_0) (h1 : CtOK qH QB L ct_1) : CtOK qH QB L ct_279 := chkM_ok QB_lasts qH_w (all_cons (co_249) (all_cons (co_253 h0) (all_cons h1 (all_cons (co_250) all_nil)))) (by decide +kernel) ck_279
/-- X12_pass -/
def ct_280 : qCt := (194, 10, true, [(53, 39), (53, 40), (53, 41), (53, 42), (53, 43), (53, 44), (77, 9999)], ([], [(0, .inr (.inr (some 53)))], ([(0, 0)], [], []), []), [([.inl 0], some (.inl (1, 0)), ([(0, 0), (0, 31)], [], []), [])])
def cu_280 : List qCu := [(4, ([.inl 1, .inl 2], [(0, .inr (.inr (some 53))), (1, .inl (1, 0)), (2, .inl (2, 0))], ([(0, 0), (0, 31), (0, 5)], [], []), []), [(false, (0, 90)), (true, (2, 5))])]
set_option maxRecDepth 1000000 in
theorem ck_280 : chkM qH [ct_218] [] 2 1000000 ct_280 cu_280 = true := by decide +kernel
theorem co_280 {L : List Nat} (h0 : CtOK qH QB L ct_0) : CtOK qH QB L ct_280 := chkM_ok QB_lasts qH_w (all_cons (co_218 h0) all_nil) (by decide +kernel) ck_280
/-- X12_dull -/
def ct_281 : qCt := (197, 7, true, [(53, 39), (53, 40), (53, 41), (53, 42), (53, 43), (53, 44), (77, 9999)], ([.inl 1], [(0, .inr (.inr (some 53))), (1, .inl (1, 0))], ([(0, 0), ((-2147483648), 2147483647)], [], []), []), [([.inl 0], some (.inl (2, 0)), ([(0, 0), ((-2147483648), 2147483647), ((-1), 60)], [], []), [])])
def cu_281 : List qCu := [(17, ([.inl 2], [(0, .inr (.inr (some 53))), (1, .inl (1, 0)), (2, .inl (2, 0))], ([(0, 0), (0, 4), (0, 61)], [], []), []), [(false, (0, 90)), (true, (2, 61))])]
set_option maxRecDepth 1000000 in
theorem ck_281 : chkM qH [ct_215, ct_205] [] 2 1000000 ct_281 cu_281 = true := by decide +kernel
theorem co_281 {L : List Nat} (h0 : CtOK qH QB L ct_0) : CtOK qH QB L ct_281 := chkM_ok QB_lasts qH_w (all_cons (co_215) (all_cons (co_205 h0) all_nil)) (by decide +kernel) ck_281
/-- X12_will -/
def ct_282 : qCt := (200, 7, true, [(53, 39), (53, 40), (53, 41), (53, 42), (53, 43), (53, 44), (77, 9999)], ([.inl 1, .inl 2], [(0, .inr (.inr (some 53))), (1, .inl (1, 0)), (2, .inl (2, 0))], ([(0, 0), ((-2147483648), 2147483647), ((-2147483648), 2147483647)], [], []), []), [([.inl 0], some (.inl (3, 0)), ([(0, 0), ((-2147483648), 2147483647), ((-2147483648), 2147483647), ((-2147483648), 2147483647)], [], []), [])])
def cu_282 : List qCu := []
set_option maxRecDepth 1000000 in
theorem ck_282 : chkM qH [ct_215, ct_205] [] 0 1000000 ct_282 cu_282 = true := by decide +kernel
theorem co_282 {L : List Nat} (h0 : CtOK qH QB L ct_0) : CtOK qH QB L ct_282 := chkM_ok QB_lasts qH_w (all_cons (co_215) (all_cons (co_205 h0) all_nil)) (by decide +kernel) ck_282
/-- X12_keepAct -/
def ct_283 : qCt := (211, 0, false, [(53, 47), (53, 48), (79, 9999)], ([.inr (211, 47), .inr (211, 48)], [(0, .inr (.inr (some 53)))], ([(0, 0), (0, 40), (0, 41)], [], []), [((211, 47), .inl (1, 0)), ((211, 48), .inl (2, 0))]), [([.inr (211, 47)], none, ([(0, 0), (0, 40), (0, 41), (1, 40)], [], []), [((211, 47), .inl (3, 0)), ((211, 48), .inl (0, 0))])])
def cu_283 : List qCu := [(11, ([.inl 1], [(0, .inr (.inr (some 53))), (1, .inl (3, 0))], ([(0, 0), (40, 40), (0, 41), (0, 1320)], [], []), [((211, 47), .inl (1, 0)), ((211, 48), .inl (2, 0))]), [(false, (0, 90)), (true, (3, 1320))]), (51, ([.inl 1, .inr (211, 47)], [(0, .inr (.inr (some 53))), (1, .inl (3, 0))], ([(0, 0), (0, 40), (0, 41), (0, 33), (0, 39)], [], []), [((211, 47), .inl (4, 0)), ((211, 48), .inl (2, 0))]), [(false, (0, 89)), (true, (3, 33))])]
set_option maxRecDepth 1000000 in
theorem ck_283 : chkM qH [] [] 2 1000000 ct_283 cu_283 = true := by decide +kernel
theorem co_283 {L : List Nat}  : CtOK qH QB L ct_283 := chkM_ok QB_lasts qH_w all_nil (by decide +kernel) ck_283
/-- X12_day -/
def ct_284 : qCt := (210, 8, true, [(53, 39), (53, 40), (53, 41), (53, 42), (53, 43), (53, 44), (53, 47), (53, 48), (77, 9999), (78, 9999), (79, 9999)], ([.inr (211, 47), .inr (211, 48)], [(0, .inr (.inr (some 53)))], ([(0, 0), (0, 40), (0, 41)], [], []), [((211, 47), .inl (1, 0)), ((211, 48), .inl (2, 0))]), [([], some (.inl (0, (-1))), ([(0, 0), (0, 40), (0, 41)], [], []), [((211, 47), .inl (1, 0)), ((211, 48), .inl (2, 0))]), ([.inl 0, .inr (211, 47)], some (.inl (3, 0)), ([(0, 0), (0, 40), (0, 41), (0, 31), (1, 40)], [], []), [((211, 47), .inl (4, 0)), ((211, 48), .inl (0, 0))])])
def cu_284 : List qCu := []
set_option maxRecDepth 1000000 in
theorem ck_284 : chkM qH [ct_230, ct_283] [] 0 1000000 ct_284 cu_284 = true := by decide +kernel
theorem co_284 {L : List Nat} (h0 : CtOK qH QB L ct_0) : CtOK qH QB L ct_284 := chkM_ok QB_lasts qH_w (all_cons (co_230 h0) (all_cons (co_283) all_nil)) (by decide +kernel) ck_284
/-- X12_join -/
def ct_285 : qCt := (216, 4, false, [(53, 47), (53, 48), (78, 9999), (79, 9999)], ([.inl 1, .inl 2, .inr (211, 47), .inr (211, 48)], [(0, .inr (.inr (some 53))), (1, .inl (1, 0)), (2, .inl (2, 0))], ([(0, 0), ((-2147483648), 2147483647), ((-2147483648), 2147483647), (0, 40), (0, 41)], [], []), [((211, 47), .inl (3, 0)), ((211, 48), .inl (4, 0))]), [([], some (.inl (0, (-1))), ([(0, 0), ((-2147483648), 2147483647), ((-2147483648), 2147483647), (0, 40), (0, 41)], [], []), [((211, 47), .inl (3, 0)), ((211, 48), .inl (4, 0))]), ([.inl 0, .inr (211, 47)], some (.inl (5, 0)), ([(0, 0), (0, 4), (0, 4), (0, 40), (0, 41), ((-2147483648), 2147483647), (1, 40)], [], []), [((211, 47), .inl (6, 0)), ((211, 48), .inl (0, 0))])])
def cu_285 : List qCu := []
set_option maxRecDepth 1000000 in
theorem ck_285 : chkM qH [ct_224, ct_283, ct_221] [] 0 1000000 ct_285 cu_285 = true := by decide +kernel
theorem co_285 {L : List Nat}  : CtOK qH QB L ct_285 := chkM_ok QB_lasts qH_w (all_cons (co_224) (all_cons (co_283) (all_cons (co_221) all_nil))) (by decide +kernel) ck_285
/-- X12_shelve -/
def ct_286 : qCt := (219, 3, false, [(53, 47), (53, 48), (78, 9999), (79, 9999)], ([.inl 1, .inl 2, .inr (211, 47), .inr (211, 48)], [(0, .inr (.inr (some 53))), (1, .inl (1, 0)), (2, .inl (2, 0))], ([(0, 0), ((-2147483648), 2147483647), ((-2147483648), 2147483647), (0, 40), (0, 41)], [], []), [((211, 47), .inl (3, 0)), ((211, 48), .inl (4, 0))]), [([], some (.inl (0, (-1))), ([(0, 0), ((-2147483648), 2147483647), ((-2147483648), 2147483647), (0, 40), (0, 41)], [], []), [((211, 47), .inl (3, 0)), ((211, 48), .inl (4, 0))]), ([.inl 0, .inr (211, 47)], some (.inl (5, 0)), ([(0, 0), (0, 4), (0, 9), (0, 40), (0, 41), ((-2147483648), 2147483647), (1, 40)], [], []), [((211, 47), .inl (6, 0)), ((211, 48), .inl (0, 0))])])
def cu_286 : List qCu := []
set_option maxRecDepth 1000000 in
theorem ck_286 : chkM qH [ct_283] [] 0 1000000 ct_286 cu_286 = true := by decide +kernel
theorem co_286 {L : List Nat}  : CtOK qH QB L ct_286 := chkM_ok QB_lasts qH_w (all_cons (co_283) all_nil) (by decide +kernel) ck_286
/-- X12_shake -/
def ct_287 : qCt := (221, 4, false, [(53, 47), (53, 48), (78, 9999), (79, 9999)], ([.inl 1, .inr (211, 47), .inr (211, 48)], [(0, .inr (.inr (some 53))), (1, .inl (1, 0))], ([(0, 0), ((-2147483648), 2147483647), (0, 40), (0, 41)], [], []), [((211, 47), .inl (2, 0)), ((211, 48), .inl (3, 0))]), [([], some (.inl (0, (-1))), ([(0, 0), ((-2147483648), 2147483647), (0, 40), (0, 41)], [], []), [((211, 47), .inl (2, 0)), ((211, 48), .inl (3, 0))]), ([.inl 0, .inr (211, 47)], some (.inl (4, 0)), ([(0, 0), (0, 4), (0, 40), (0, 41), ((-2147483648), 2147483647), (1, 40)], [], []), [((211, 47), .inl (5, 0)), ((211, 48), .inl (0, 0))])])
def cu_287 : List qCu := []
set_option maxRecDepth 1000000 in
theorem ck_287 : chkM qH [ct_283, ct_233] [] 0 1000000 ct_287 cu_287 = true := by decide +kernel
theorem co_287 {L : List Nat}  : CtOK qH QB L ct_287 := chkM_ok QB_lasts qH_w (all_cons (co_283) (all_cons (co_233) all_nil)) (by decide +kernel) ck_287
/-- X12_vote -/
def ct_288 : qCt := (223, 4, false, [(53, 47), (53, 48), (78, 9999), (79, 9999)], ([.inl 1, .inl 2, .inr (211, 47), .inr (211, 48)], [(0, .inr (.inr (some 53))), (1, .inl (1, 0)), (2, .inl (2, 0))], ([(0, 0), ((-2147483648), 2147483647), ((-2147483648), 2147483647), (0, 40), (0, 41)], [], []), [((211, 47), .inl (3, 0)), ((211, 48), .inl (4, 0))]), [([], some (.inl (0, (-1))), ([(0, 0), ((-2147483648), 2147483647), ((-2147483648), 2147483647), (0, 40), (0, 41)], [], []), [((211, 47), .inl (3, 0)), ((211, 48), .inl (4, 0))]), ([.inl 0, .inr (211, 47)], some (.inl (5, 0)), ([(0, 0), (0, 5), (0, 4), (0, 40), (0, 41), ((-2147483648), 2147483647), (1, 40)], [], []), [((211, 47), .inl (6, 0)), ((211, 48), .inl (0, 0))])])
def cu_288 : List qCu := []
set_option maxRecDepth 1000000 in
theorem ck_288 : chkM qH [ct_283, ct_250] [] 0 1000000 ct_288 cu_288 = true := by decide +kernel
theorem co_288 {L : List Nat}  : CtOK qH QB L ct_288 := chkM_ok QB_lasts qH_w (all_cons (co_283) (all_cons (co_250) all_nil)) (by decide +kernel) ck_288
/-- X12_bill -/
def ct_289 : qCt := (226, 10, true, [(53, 39), (53, 40), (53, 41), (53, 42), (53, 43), (53, 44), (77, 9999)], ([.inl 1, .inl 2], [(0, .inr (.inr (some 53))), (1, .inl (1, 0)), (2, .inl (2, 0))], ([(0, 0), ((-2147483648), 2147483647), ((-2147483648), 2147483647)], [], []), []), [([.inl 0], some (.inl (3, 0)), ([(0, 0), ((-2147483648), 2147483647), ((-2147483648), 2147483647), ((-2147483648), 2147483647)], [], []), [])])
def cu_289 : List qCu := []
set_option maxRecDepth 1000000 in
theorem ck_289 : chkM qH [ct_204, ct_215, ct_218, ct_203] [] 0 1000000 ct_289 cu_289 = true := by decide +kernel
theorem co_289 {L : List Nat} (h0 : CtOK qH QB L ct_0) : CtOK qH QB L ct_289 := chkM_ok QB_lasts qH_w (all_cons (co_204 h0) (all_cons (co_215) (all_cons (co_218 h0) (all_cons (co_203) all_nil)))) (by decide +kernel) ck_289
/-- X12_breathedInto -/
def ct_290 : qCt := (231, 1, false, [], ([.inl 1], [(0, .inr (.inr (some 53))), (1, .inl (1, 0))], ([(0, 0), ((-2147483648), 2147483647)], [], []), []), [([.inl 0], some (.inl (2, 0)), ([(0, 0), ((-2147483648), 2147483647), (0, 31)], [], []), [])])
def cu_290 : List qCu := [(4, ([.inl 2, .inl 3], [(0, .inr (.inr (some 53))), (1, .inl (1, 0)), (2, .inl (2, 0)), (3, .inl (3, 0))], ([(0, 0), ((-2147483648), 2147483647), (0, 31), (0, 5)], [], []), []), [(false, (0, 90)), (true, (3, 5))])]
set_option maxRecDepth 1000000 in
theorem ck_290 : chkM qH [] [] 2 1000000 ct_290 cu_290 = true := by decide +kernel
theorem co_290 {L : List Nat}  : CtOK qH QB L ct_290 := chkM_ok QB_lasts qH_w all_nil (by decide +kernel) ck_290
/-- X12_mayVoteFor -/
def ct_291 : qCt := (232, 4, false, [], ([.inl 1], [(0, .inr (.inr (some 53))), (1, .inl (1, 0))], ([(0, 0), ((-2147483648), 2147483647)], [], []), []), [([.inl 0], some (.inl (2, 0)), ([(0, 0), ((-2147483648), 2147483647), (0, 31)], [], []), [])])
def cu_291 : List qCu := [(4, ([.inl 2, .inl 3], [(0, .inr (.inr (some 53))), (1, .inl (1, 0)), (2, .inl (2, 0)), (3, .inl (3, 0))], ([(0, 0), ((-2147483648), 2147483647), (0, 31), (0, 5)], [], []), []), [(false, (0, 90)), (true, (3, 5))])]
set_option maxRecDepth 1000000 in
theorem ck_291 : chkM qH [ct_250] [] 2 1000000 ct_291 cu_291 = true := by decide +kernel
theorem co_291 {L : List Nat}  : CtOK qH QB L ct_291 := chkM_ok QB_lasts qH_w (all_cons (co_250) all_nil) (by decide +kernel) ck_291
/-- X12_member -/
def ct_292 : qCt := (230, 5, false, [], ([.inl 1, .inl 2], [(0, .inr (.inr (some 53))), (1, .inl (1, 0)), (2, .inl (2, 0))], ([(0, 0), ((-2147483648), 2147483647), ((-2147483648), 2147483647)], [], []), []), [([.inl 0], some (.inl (3, 0)), ([(0, 0), ((-2147483648), 2147483647), ((-2147483648), 2147483647), ((-2147483648), 2147483647)], [], []), [])])
def cu_292 : List qCu := []
set_option maxRecDepth 1000000 in
theorem ck_292 : chkM qH [ct_290, ct_291] [] 0 1000000 ct_292 cu_292 = true := by decide +kernel
theorem co_292 {L : List Nat}  : CtOK qH QB L ct_292 := chkM_ok QB_lasts qH_w (all_cons (co_290) (all_cons (co_291) all_nil)) (by decide +kernel) ck_292
/-- X12_fault -/
def ct_293 : qCt := (236, 0, false, [], ([.inl 1], [(0, .inr (.inr (some 53))), (1, .inl (1, 0))], ([(0, 0), ((-2147483648), 2147483647)], [], []), []), [([.inl 0], some (.inl (2, 0)), ([(0, 0), ((-2147483648), 2147483647), ((-2147483648), 2147483647)], [], []), [])])
def cu_293 : List qCu := []
set_option maxRecDepth 1000000 in
theorem ck_293 : chkM qH [] [] 0 1000000 ct_293 cu_293 = true := by decide +kernel
theorem co_293 {L : List Nat}  : CtOK qH QB L ct_293 := chkM_ok QB_lasts qH_w all_nil (by decide +kernel) ck_293
/-- X12_startAnew -/
def ct_294 : qCt := (239, 0, false, [(53, 47), (53, 48), (53, 53), (53, 61), (78, 9999), (91, 9999)], ([.inr (211, 47), .inr (211, 48)], [(0, .inr (.inr (some 53)))], ([(0, 0), (0, 40), (0, 41)], [], []), [((211, 47), .inl (1, 0)), ((211, 48), .inl (2, 0))]), [([], none, ([(0, 0), (0, 40), (0, 41)], [], []), [((211, 47), .inl (0, 0)), ((211, 48), .inl (0, 0))])])
def cu_294 : List qCu := [(2, ([.inl 1], [(0, .inr (.inr (some 53))), (1, .inl (3, 0))], ([(0, 0), (0, 40), (0, 41), (0, 33)], [], []), [((211, 47), .inl (1, 0)), ((211, 48), .inl (2, 0))]), [(false, (0, 90)), (true, (3, 33))]), (23, ([.inl 1], [(0, .inr (.inr (some 53))), (1, .inl (3, 0))], ([(0, 0), (0, 40), (0, 41), (0, 5)], [], []), [((211, 47), .inl (1, 0)), ((211, 48), .inl (2, 0))]), [(false, (0, 89)), (true, (3, 5))]), (102, ([.inl 1], [(0, .inr (.inr (some 53))), (1, .inl (3, 0))], ([(0, 0), (0, 40), (0, 41), (0, 3)], [], []), [((211, 47), .inl (0, 0)), ((211, 48), .inl (0, 0)), ((211, 53), .inl (0, 0)), ((211, 61), .inl (0, 0))]), [(false, (0, 88)), (true, (3, 3))])]
set_option maxRecDepth 1000000 in
theorem ck_294 : chkM qH [] [] 2 1000000 ct_294 cu_294 = true := by decide +kernel
theorem co_294 {L : List Nat}  : CtOK qH QB L ct_294 := chkM_ok QB_lasts qH_w all_nil (by decide +kernel) ck_294
/-- X12_house -/
def ct_295 : qCt := (238, 10, false, [(53, 2), (53, 3), (53, 4), (53, 5), (53, 6), (53, 7), (53, 8), (53, 9), (53, 10), (53, 33), (53, 34), (53, 35), (53, 36), (53, 37), (53, 38), (53, 47), (53, 48), (53, 53), (53, 61), (55, 9999), (56, 9999), (57, 9999), (58, 9999), (59, 9999), (60, 9999), (61, 9999), (62, 9999), (63, 9999), (64, 9999), (65, 9999), (66, 9999), (67, 9999), (68, 9999), (69, 9999), (70, 9999), (71, 9999), (72, 9999), (73, 9999), (74, 9999), (75, 9999), (76, 9999), (78, 9999), (91, 9999)], ([.inr (211, 47), .inr (211, 48)], [(0, .inr (.inr (some 53)))], ([(0, 0), (0, 40), (0, 41)], [], []), [((211, 47), .inl (1, 0)), ((211, 48), .inl (2, 0))]), [([], some (.inl (0, (-1))), ([(0, 0), (0, 40), (0, 41)], [], []), [((211, 47), .inl (1, 0)), ((211, 48), .inl (2, 0))]), ([.inl 0], some (.inl (3, 0)), ([(0, 0), (0, 40), (0, 41), (0, 6)], [], []), [((211, 47), .inl (0, 0)), ((211, 48), .inl (0, 0))])])
/-- X12_end -/
def ct_296 : qCt := (305, 0, false, [(53, 2)], ([.inl 1], [(0, .inr (.inr (some 53))), (1, .inl (1, 0))], ([(0, 0), ((-2147483648), 2147483647)], [], []), []), [([.inl 0], some (.inl (2, 0)), ([(0, 0), ((-2147483648), 2147483647), ((-1), 1600)], [], []), [])])
def cu_296 : List qCu := []
set_option maxRecDepth 1000000 in
theorem ck_296 : chkM qH [] [] 0 1000000 ct_296 cu_296 = true := by decide +kernel
theorem co_296 {L : List Nat}  : CtOK qH QB L ct_296 := chkM_ok QB_lasts qH_w all_nil (by decide +kernel) ck_296
/-- X12_feed -/
def ct_297 : qCt := (307, 0, false, [(53, 2), (54, 9999)], ([.inl 1, .inl 2, .inl 3, .inl 4, .inl 5], [(0, .inr (.inr (some 53))), (1, .inl (1, 0)), (2, .inl (2, 0)), (3, .inl (3, 0)), (4, .inl (4, 0)), (5, .inl (5, 0))], ([(0, 0), ((-2147483648), 2147483647), ((-2147483648), 2147483647), ((-2147483648), 2147483647), ((-2147483648), 2147483647), ((-2147483648), 2147483647)], [], []), []), [([.inl 0], some (.inl (6, 0)), ([(0, 0), ((-2147483648), 2147483647), ((-2147483648), 2147483647), ((-2147483648), 2147483647), ((-2147483648), 2147483647), ((-2147483648), 2147483647), ((-1), 1600)], [], []), [])])
def cu_297 : List qCu := [(18, ([.inl 6, .inr (211, 2)], [(0, .inr (.inr (some 53))), (1, .inl (1, 0)), (2, .inl (2, 0)), (3, .inl (3, 0)), (4, .inl (4, 0)), (5, .inl (5, 0)), (6, .inl (6, 0))], ([(0, 0), ((-2147483648), 2147483647), ((-2147483648), 2147483647), ((-2147483648), 2147483647), ((-2147483648), 2147483647), ((-2147483648), 2147483647), (0, 20), (0, 1580)], [], []), [((211, 2), .inl (7, 0))]), [(false, (0, 90)), (true, (6, 20))])]
set_option maxRecDepth 1000000 in
theorem ck_297 : chkM qH [] [] 2 1000000 ct_297 cu_297 = true := by decide +kernel
theorem co_297 {L : List Nat}  : CtOK qH QB L ct_297 := chkM_ok QB_lasts qH_w all_nil (by decide +kernel) ck_297
/-- X12_exchange -/
def ct_298 : qCt := (204, 0, false, [(78, 9999), (79, 9999)], ([], [(0, .inr (.inr (some 53)))], ([(0, 0)], [], []), []), [([], none, ([(0, 0)], [], []), [])])
def cu_298 : List qCu := [(2, ([.inl 1], [(0, .inr (.inr (some 53))), (1, .inl (1, 0))], ([(0, 0), (0, 33)], [], []), []), [(false, (0, 90)), (true, (1, 33))])]
set_option maxRecDepth 1000000 in
theorem ck_298 : chkM qH [] [] 2 1000000 ct_298 cu_298 = true := by decide +kernel
theorem co_298 {L : List Nat}  : CtOK qH QB L ct_298 := chkM_ok QB_lasts qH_w all_nil (by decide +kernel) ck_298
