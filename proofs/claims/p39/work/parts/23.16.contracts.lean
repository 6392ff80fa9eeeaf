/-- X12_canJoin -/
def ct_221 : qCt := (99, 3, false, [], ([.inl 1, .inl 2], [(0, .inr (.inr (some 53))), (1, .inl (1, 0)), (2, .inl (2, 0))], ([(0, 0), ((-2147483648), 2147483647), ((-2147483648), 2147483647)], [], []), []), [([], some (.inl (0, 0)), ([(0, 0), ((-2147483648), 2147483647), ((-2147483648), 2147483647)], [], []), []), ([], some (.inl (0, 1)), ([(0, 0), (0, 4), (0, 4)], [], []), [])])
def cu_221 : List qCu := []
set_option maxRecDepth 1000000 in
theorem ck_221 : chkM qH [] [] 0 1000000 ct_221 cu_221 = true := by decide +kernel
theorem co_221 {L : List Nat}  : CtOK qH QB L ct_221 := chkM_ok QB_lasts qH_w all_nil (by decide +kernel) ck_221
/-- X12_keepNow -/
def ct_222 : qCt := (98, 0, false, [(80, 9999)], ([], [(0, .inr (.inr (some 53)))], ([(0, 0)], [], []), []), [([], none, ([(0, 0)], [], []), [])])
def cu_222 : List qCu := [(2, ([.inl 1], [(0, .inr (.inr (some 53))), (1, .inl (1, 0))], ([(0, 0), (0, 33)], [], []), []), [(false, (0, 90)), (true, (1, 33))])]
set_option maxRecDepth 1000000 in
theorem ck_222 : chkM qH [] [] 2 1000000 ct_222 cu_222 = true := by decide +kernel
theorem co_222 {L : List Nat}  : CtOK qH QB L ct_222 := chkM_ok QB_lasts qH_w all_nil (by decide +kernel) ck_222
/-- X12_bringBack -/
def ct_223 : qCt := (96, 0, false, [(78, 9999)], ([], [(0, .inr (.inr (some 53)))], ([(0, 0)], [], []), []), [([], none, ([(0, 0)], [], []), [])])
def cu_223 : List qCu := [(2, ([.inl 1], [(0, .inr (.inr (some 53))), (1, .inl (1, 0))], ([(0, 0), (0, 33)], [], []), []), [(false, (0, 90)), (true, (1, 33))])]
set_option maxRecDepth 1000000 in
theorem ck_223 : chkM qH [] [] 2 1000000 ct_223 cu_223 = true := by decide +kernel
theorem co_223 {L : List Nat}  : CtOK qH QB L ct_223 := chkM_ok QB_lasts qH_w all_nil (by decide +kernel) ck_223
/-- X12_joinBoth -/
def ct_224 : qCt := (97, 1, false, [(78, 9999)], ([.inl 1, .inl 2], [(0, .inr (.inr (some 53))), (1, .inl (1, 0)), (2, .inl (2, 0))], ([(0, 0), (0, 4), (0, 4)], [], []), []), [([], none, ([(0, 0), (0, 4), (0, 4)], [], []), [])])
def cu_224 : List qCu := []
set_option maxRecDepth 1000000 in
theorem ck_224 : chkM qH [] [] 0 1000000 ct_224 cu_224 = true := by decide +kernel
theorem co_224 {L : List Nat}  : CtOK qH QB L ct_224 := chkM_ok QB_lasts qH_w all_nil (by decide +kernel) ck_224
/-- X12_joined -/
def ct_225 : qCt := (95, 9, true, [(53, 39), (53, 40), (53, 41), (53, 42), (53, 43), (53, 44), (77, 9999), (78, 9999), (80, 9999)], ([.inl 1, .inl 2], [(0, .inr (.inr (some 53))), (1, .inl (1, 0)), (2, .inl (2, 0))], ([(0, 0), (0, 4), (0, 4)], [], []), []), [([.inl 0], some (.inl (3, 0)), ([(0, 0), (0, 4), (0, 4), ((-2147483648), 2147483647)], [], []), [])])
def cu_225 : List qCu := []
set_option maxRecDepth 1000000 in
theorem ck_225 : chkM qH [ct_222, ct_223, ct_217, ct_224] [] 0 1000000 ct_225 cu_225 = true := by decide +kernel
theorem co_225 {L : List Nat} (h0 : CtOK qH QB L ct_0) : CtOK qH QB L ct_225 := chkM_ok QB_lasts qH_w (all_cons (co_222) (all_cons (co_223) (all_cons (co_217 h0) (all_cons (co_224) all_nil)))) (by decide +kernel) ck_225
/-- X12_matches -/
def ct_226 : qCt := (94, 10, true, [(53, 39), (53, 40), (53, 41), (53, 42), (53, 43), (53, 44), (77, 9999), (78, 9999), (80, 9999)], ([], [(0, .inr (.inr (some 53)))], ([(0, 0)], [], []), []), [([.inl 0], some (.inl (1, 0)), ([(0, 0), ((-2147483648), 2147483647)], [], []), [])])
def cu_226 : List qCu := [(4, ([.inl 1, .inl 2], [(0, .inr (.inr (some 53))), (1, .inl (1, 0)), (2, .inl (2, 0))], ([(0, 0), ((-2147483648), 2147483647), (0, 5)], [], []), []), [(false, (0, 90)), (true, (2, 5)), (false, (0, 99)), (false, (0, 0))]), (19, ([.inl 1, .inl 2, .inl 3], [(0, .inr (.inr (some 53))), (1, .inl (1, 0)), (2, .inl (2, 0)), (3, .inl (3, 0))], ([(0, 0), ((-2147483648), 2147483647), (0, 4), (0, 5)], [], []), []), [(false, (0, 90)), (true, (2, 5)), (false, (0, 89)), (true, (3, 5))])]
set_option maxRecDepth 1000000 in
theorem ck_226 : chkM qH [ct_225, ct_218, ct_221] [] 4 1000000 ct_226 cu_226 = true := by decide +kernel
theorem co_226 {L : List Nat} (h0 : CtOK qH QB L ct_0) : CtOK qH QB L ct_226 := chkM_ok QB_lasts qH_w (all_cons (co_225 h0) (all_cons (co_218 h0) (all_cons (co_221) all_nil))) (by decide +kernel) ck_226
/-- X12_richest -/
def ct_227 : qCt := (107, 3, false, [], ([], [(0, .inr (.inr (some 53)))], ([(0, 0)], [], []), []), [([.inl 0], some (.inl (1, 0)), ([(0, 0), ((-1), 4)], [], []), [])])
def cu_227 : List qCu := [(4, ([.inl 1, .inl 2], [(0, .inr (.inr (some 53))), (1, .inl (1, 0)), (2, .inl (2, 0))], ([(0, 0), ((-1), 4), (0, 5)], [], []), []), [(false, (0, 90)), (true, (2, 5))])]
set_option maxRecDepth 1000000 in
theorem ck_227 : chkM qH [] [] 2 1000000 ct_227 cu_227 = true := by decide +kernel
theorem co_227 {L : List Nat}  : CtOK qH QB L ct_227 := chkM_ok QB_lasts qH_w all_nil (by decide +kernel) ck_227
/-- X12_wasted -/
def ct_228 : qCt := (110, 10, true, [(53, 39), (53, 40), (53, 41), (53, 42), (53, 43), (53, 44), (77, 9999)], ([], [(0, .inr (.inr (some 53)))], ([(0, 0)], [], []), []), [([.inl 0], some (.inl (1, 0)), ([(0, 0), ((-2147483648), 2147483647)], [], []), [])])
def cu_228 : List qCu := [(4, ([.inl 1, .inl 2], [(0, .inr (.inr (some 53))), (1, .inl (1, 0)), (2, .inl (2, 0))], ([(0, 0), ((-2147483648), 2147483647), (0, 5)], [], []), []), [(false, (0, 90)), (true, (2, 5))])]
set_option maxRecDepth 1000000 in
theorem ck_228 : chkM qH [ct_218] [] 2 1000000 ct_228 cu_228 = true := by decide +kernel
theorem co_228 {L : List Nat} (h0 : CtOK qH QB L ct_0) : CtOK qH QB L ct_228 := chkM_ok QB_lasts qH_w (all_cons (co_218 h0) all_nil) (by decide +kernel) ck_228
/-- X12_times -/
def ct_229 : qCt := (118, 0, false, [], ([.inl 1], [(0, .inl (0, 6)), (1, .inl (1, 0))], ([(0, 0), (1, 3)], [], []), []), [([.inl 0], some (.inl (2, 0)), ([(0, 0), (1, 3), (6, 216)], [], []), [])])
def cu_229 : List qCu := []
set_option maxRecDepth 1000000 in
theorem ck_229 : chkM qH [] [((118, 6), 2)] 2 1000000 ct_229 cu_229 = true := by decide +kernel
theorem co_229 {L : List Nat}  : CtOK qH QB L ct_229 := chkM_ok QB_lasts qH_w all_nil (by decide +kernel) ck_229
/-- X12_goDay -/
def ct_230 : qCt := (116, 7, true, [(53, 39), (53, 40), (53, 41), (53, 42), (53, 43), (53, 44), (77, 9999), (78, 9999)], ([], [(0, .inr (.inr (some 53)))], ([(0, 0)], [], []), []), [([.inl 0], some (.inl (1, 0)), ([(0, 0), (0, 31)], [], []), [])])
def cu_230 : List qCu := [(4, ([.inl 1, .inl 2], [(0, .inr (.inr (some 53))), (1, .inl (1, 0)), (2, .inl (2, 0))], ([(0, 0), (0, 31), (0, 5)], [], []), []), [(false, (0, 90)), (true, (2, 5))])]
set_option maxRecDepth 1000000 in
theorem ck_230 : chkM qH [ct_215, ct_205] [] 2 1000000 ct_230 cu_230 = true := by decide +kernel
theorem co_230 {L : List Nat} (h0 : CtOK qH QB L ct_0) : CtOK qH QB L ct_230 := chkM_ok QB_lasts qH_w (all_cons (co_215) (all_cons (co_205 h0) all_nil)) (by decide +kernel) ck_230
/-- X12_times -/
def ct_231 : qCt := (118, 0, false, [], ([.inl 1], [(0, .inl (0, 6)), (1, .inl (1, 0))], ([(0, 0), ((-2), 2)], [], []), []), [([.inl 0], some (.inl (2, 0)), ([(0, 0), ((-2), 2), (1, 36)], [], []), [])])
def cu_231 : List qCu := []
set_option maxRecDepth 1000000 in
theorem ck_231 : chkM qH [] [((118, 6), 2)] 2 1000000 ct_231 cu_231 = true := by decide +kernel
theorem co_231 {L : List Nat}  : CtOK qH QB L ct_231 := chkM_ok QB_lasts qH_w all_nil (by decide +kernel) ck_231
/-- X12_forced -/
def ct_232 : qCt := (114, 10, true, [(53, 39), (53, 40), (53, 41), (53, 42), (53, 43), (53, 44), (77, 9999)], ([], [(0, .inr (.inr (some 53)))], ([(0, 0)], [], []), []), [([.inl 0], some (.inl (1, 0)), ([(0, 0), ((-2147483648), 2147483647)], [], []), [])])
def cu_232 : List qCu := [(4, ([.inl 1, .inl 2], [(0, .inr (.inr (some 53))), (1, .inl (1, 0)), (2, .inl (2, 0))], ([(0, 0), ((-2147483648), 2147483647), (0, 5)], [], []), []), [(false, (0, 90)), (true, (2, 5))])]
set_option maxRecDepth 1000000 in
theorem ck_232 : chkM qH [ct_218] [] 2 1000000 ct_232 cu_232 = true := by decide +kernel
theorem co_232 {L : List Nat} (h0 : CtOK qH QB L ct_0) : CtOK qH QB L ct_232 := chkM_ok QB_lasts qH_w (all_cons (co_218 h0) all_nil) (by decide +kernel) ck_232
/-- X12_canShake -/
def ct_233 : qCt := (117, 3, false, [], ([.inl 1], [(0, .inr (.inr (some 53))), (1, .inl (1, 0))], ([(0, 0), ((-2147483648), 2147483647)], [], []), []), [([], some (.inl (0, 0)), ([(0, 0), ((-2147483648), 2147483647)], [], []), []), ([], some (.inl (0, 1)), ([(0, 0), (0, 4)], [], []), [])])
def cu_233 : List qCu := []
set_option maxRecDepth 1000000 in
theorem ck_233 : chkM qH [] [] 0 1000000 ct_233 cu_233 = true := by decide +kernel
theorem co_233 {L : List Nat}  : CtOK qH QB L ct_233 := chkM_ok QB_lasts qH_w all_nil (by decide +kernel) ck_233
/-- X12_shakeAll -/
def ct_234 : qCt := (115, 8, true, [(53, 39), (53, 40), (53, 41), (53, 42), (53, 43), (53, 44), (77, 9999), (78, 9999), (83, 9999)], ([.inl 1, .inl 2], [(0, .inr (.inr (some 53))), (1, .inl (1, 0)), (2, .inl (2, 0))], ([(0, 0), (0, 215), (1, 3)], [], []), []), [([.inl 0], some (.inl (3, 0)), ([(0, 0), (0, 215), (1, 3), ((-2147483648), 2147483647)], [], []), [])])
def cu_234 : List qCu := [(5, ([.inl 3, .inl 4], [(0, .inr (.inr (some 53))), (1, .inl (1, 0)), (2, .inl (2, 0)), (3, .inl (3, 0)), (4, .inl (4, 0))], ([(0, 0), (0, 215), (1, 3), ((-2147483648), 2147483647), (0, 3)], [], []), []), [(false, (0, 90)), (true, (4, 3))])]
set_option maxRecDepth 1000000 in
theorem ck_234 : chkM qH [ct_230, ct_231, ct_233] [] 2 1000000 ct_234 cu_234 = true := by decide +kernel
theorem co_234 {L : List Nat} (h0 : CtOK qH QB L ct_0) : CtOK qH QB L ct_234 := chkM_ok QB_lasts qH_w (all_cons (co_230 h0) (all_cons (co_231) (all_cons (co_233) all_nil))) (by decide +kernel) ck_234
/-- X12_sabotage -/
def ct_235 : qCt := (113, 11, true, [(53, 39), (53, 40), (53, 41), (53, 42), (53, 43), (53, 44), (53, 53), (77, 9999), (78, 9999), (80, 9999), (82, 9999), (83, 9999)], ([.inl 1], [(0, .inr (.inr (some 53))), (1, .inl (1, 0))], ([(0, 0), ((-2147483648), 2147483647)], [], []), []), [([.inl 0], some (.inl (2, 0)), ([(0, 0), ((-2147483648), 2147483647), ((-1), 2147483647)], [], []), [])])
def cu_235 : List qCu := [(23, ([.inl 2, .inl 3, .inl 4, .inr (211, 53)], [(0, .inr (.inr (some 53))), (1, .inl (1, 0)), (2, .inl (2, 0)), (3, .inl (3, 0)), (4, .inl (4, 0))], ([(0, 0), (1, 3), ((-1), 2147483647), (0, 2147483647), (0, 216), (0, 3)], [], []), [((211, 53), .inl (5, 0))]), [(false, (0, 90)), (true, (4, 216)), (false, (0, 99)), (false, (0, 0))]), (105, ([.inl 2, .inl 3, .inl 4, .inl 5, .inl 6, .inl 7, .inr (211, 53)], [(0, .inr (.inr (some 53))), (1, .inl (1, 0)), (2, .inl (2, 0)), (3, .inl (3, 0)), (4, .inl (4, 0)), (5, .inl (5, 0)), (6, .inl (6, 0)), (7, .inl (7, 0))], ([(0, 0), (1, 3), (0, 2147483647), (0, 2147483647), (0, 215), (0, 2147483647), (0, 2147483647), (0, 3), (0, 3)], [], []), [((211, 53), .inl (8, 0))]), [(false, (0, 90)), (true, (4, 216)), (false, (0, 89)), (true, (7, 3))])]
set_option maxRecDepth 1000000 in
theorem ck_235 : chkM qH [ct_222, ct_223, ct_232, ct_229, ct_234] [] 4 1000000 ct_235 cu_235 = true := by decide +kernel
theorem co_235 {L : List Nat} (h0 : CtOK qH QB L ct_0) : CtOK qH QB L ct_235 := chkM_ok QB_lasts qH_w (all_cons (co_222) (all_cons (co_223) (all_cons (co_232 h0) (all_cons (co_229) (all_cons (co_234 h0) all_nil))))) (by decide +kernel) ck_235
/-- X12_openedShaken -/
def ct_236 : qCt := (75, 8, true, [(53, 39), (53, 40), (53, 41), (53, 42), (53, 43), (53, 44), (77, 9999)], ([.inl 1, .inl 2], [(0, .inr (.inr (some 53))), (1, .inl (1, 0)), (2, .inl (2, 0))], ([(0, 0), (0, 4), (0, 20)], [], []), []), [([.inl 0], some (.inl (3, 0)), ([(0, 0), (0, 4), (0, 20), ((-2147483648), 2147483647)], [], []), [])])
def cu_236 : List qCu := []
set_option maxRecDepth 1000000 in
theorem ck_236 : chkM qH [ct_215, ct_216] [] 0 1000000 ct_236 cu_236 = true := by decide +kernel
theorem co_236 {L : List Nat} (h0 : CtOK qH QB L ct_0) : CtOK qH QB L ct_236 := chkM_ok QB_lasts qH_w (all_cons (co_215) (all_cons (co_216 h0) all_nil)) (by decide +kernel) ck_236
/-- X12_spoil -/
def ct_237 : qCt := (127, 9, true, [(53, 39), (53, 40), (53, 41), (53, 42), (53, 43), (53, 44), (77, 9999)], ([.inl 1], [(0, .inr (.inr (some 53))), (1, .inl (1, 0))], ([(0, 0), ((-2147483648), 2147483647)], [], []), []), [([.inl 0], some (.inl (2, 0)), ([(0, 0), ((-2147483648), 2147483647), ((-1), 20)], [], []), [])])
def cu_237 : List qCu := [(12, ([.inl 2], [(0, .inr (.inr (some 53))), (1, .inl (1, 0)), (2, .inl (2, 0))], ([(0, 0), (0, 4), (0, 21)], [], []), []), [(false, (0, 90)), (true, (2, 21))])]
set_option maxRecDepth 1000000 in
theorem ck_237 : chkM qH [ct_236] [] 2 1000000 ct_237 cu_237 = true := by decide +kernel
theorem co_237 {L : List Nat} (h0 : CtOK qH QB L ct_0) : CtOK qH QB L ct_237 := chkM_ok QB_lasts qH_w (all_cons (co_236 h0) all_nil) (by decide +kernel) ck_237
/-- X12_openedByQueue -/
def ct_238 : qCt := (131, 8, true, [(53, 39), (53, 40), (53, 41), (53, 42), (53, 43), (53, 44), (77, 9999)], ([.inl 1], [(0, .inr (.inr (some 53))), (1, .inl (1, 0))], ([(0, 0), (0, 4)], [], []), []), [([.inl 0], some (.inl (2, 0)), ([(0, 0), (0, 4), ((-2147483648), 2147483647)], [], []), [])])
def cu_238 : List qCu := [(7, ([.inl 2], [(0, .inr (.inr (some 53))), (1, .inl (1, 0)), (2, .inl (2, 0))], ([(0, 0), (0, 4), (0, 6)], [], []), []), [(false, (0, 90)), (true, (2, 6))])]
set_option maxRecDepth 1000000 in
theorem ck_238 : chkM qH [ct_215, ct_216, ct_202, ct_205] [] 2 1000000 ct_238 cu_238 = true := by decide +kernel
theorem co_238 {L : List Nat} (h0 : CtOK qH QB L ct_0) : CtOK qH QB L ct_238 := chkM_ok QB_lasts qH_w (all_cons (co_215) (all_cons (co_216 h0) (all_cons (co_202) (all_cons (co_205 h0) all_nil)))) (by decide +kernel) ck_238
/-- X12_times -/
def ct_239 : qCt := (118, 0, false, [], ([.inl 0, .inl 1], [(0, .inl (1, 0)), (1, .inl (2, 0))], ([(0, 0), (2, 2), ((-30), 2)], [], []), []), [([.inl 0], some (.inl (3, 0)), ([(0, 0), (2, 2), ((-30), 2), (1, 4)], [], []), [])])
def cu_239 : List qCu := []
set_option maxRecDepth 1000000 in
theorem ck_239 : chkM qH [] [((118, 6), 2)] 2 1000000 ct_239 cu_239 = true := by decide +kernel
theorem co_239 {L : List Nat}  : CtOK qH QB L ct_239 := chkM_ok QB_lasts qH_w all_nil (by decide +kernel) ck_239
/-- X12_times -/
def ct_240 : qCt := (118, 0, false, [], ([.inl 0, .inl 1], [(0, .inl (1, 0)), (1, .inl (2, 0))], ([(0, 0), (1, 1), ((-31), 1)], [], []), []), [([], some (.inl (0, 1)), ([(0, 0), (1, 1), ((-31), 1)], [], []), [])])
def cu_240 : List qCu := []
set_option maxRecDepth 1000000 in
theorem ck_240 : chkM qH [] [((118, 6), 2)] 2 1000000 ct_240 cu_240 = true := by decide +kernel
theorem co_240 {L : List Nat}  : CtOK qH QB L ct_240 := chkM_ok QB_lasts qH_w all_nil (by decide +kernel) ck_240
/-- X12_times -/
def ct_241 : qCt := (118, 0, false, [], ([.inl 0, .inl 1], [(0, .inl (1, 0)), (1, .inl (2, 0))], ([(0, 0), (0, 0), ((-32), 0)], [], []), []), [([], some (.inl (0, 1)), ([(0, 0), (0, 0), ((-32), 0)], [], []), [])])
def cu_241 : List qCu := []
set_option maxRecDepth 1000000 in
theorem ck_241 : chkM qH [] [((118, 6), 2)] 2 1000000 ct_241 cu_241 = true := by decide +kernel
theorem co_241 {L : List Nat}  : CtOK qH QB L ct_241 := chkM_ok QB_lasts qH_w all_nil (by decide +kernel) ck_241
/-- X12_times -/
def ct_242 : qCt := (118, 0, false, [], ([.inl 0, .inl 1], [(0, .inl (1, 0)), (1, .inl (2, 0))], ([(0, 0), (6, 6), ((-32), 6)], [], []), []), [([.inl 0], some (.inl (3, 0)), ([(0, 0), (6, 6), ((-32), 6), (1, 46656)], [], []), [])])
def cu_242 : List qCu := []
set_option maxRecDepth 1000000 in
theorem ck_242 : chkM qH [] [((118, 6), 2)] 2 1000000 ct_242 cu_242 = true := by decide +kernel
theorem co_242 {L : List Nat}  : CtOK qH QB L ct_242 := chkM_ok QB_lasts qH_w all_nil (by decide +kernel) ck_242
/-- X12_times -/
def ct_243 : qCt := (118, 0, false, [], ([.inl 0, .inl 1], [(0, .inl (1, 0)), (1, .inl (2, 0))], ([(0, 0), (5, 5), ((-32), 5)], [], []), []), [([.inl 0], some (.inl (3, 0)), ([(0, 0), (5, 5), ((-32), 5), (1, 3125)], [], []), [])])
def cu_243 : List qCu := []
set_option maxRecDepth 1000000 in
theorem ck_243 : chkM qH [] [((118, 6), 2)] 2 1000000 ct_243 cu_243 = true := by decide +kernel
theorem co_243 {L : List Nat}  : CtOK qH QB L ct_243 := chkM_ok QB_lasts qH_w all_nil (by decide +kernel) ck_243
/-- X12_times -/
def ct_244 : qCt := (118, 0, false, [], ([.inl 0, .inl 1], [(0, .inl (1, 0)), (1, .inl (2, 0))], ([(0, 0), (4, 4), ((-32), 4)], [], []), []), [([.inl 0], some (.inl (3, 0)), ([(0, 0), (4, 4), ((-32), 4), (1, 256)], [], []), [])])
def cu_244 : List qCu := []
set_option maxRecDepth 1000000 in
theorem ck_244 : chkM qH [] [((118, 6), 2)] 2 1000000 ct_244 cu_244 = true := by decide +kernel
theorem co_244 {L : List Nat}  : CtOK qH QB L ct_244 := chkM_ok QB_lasts qH_w all_nil (by decide +kernel) ck_244
/-- X12_times -/
def ct_245 : qCt := (118, 0, false, [], ([.inl 0, .inl 1], [(0, .inl (1, 0)), (1, .inl (2, 0))], ([(0, 0), (3, 3), ((-32), 3)], [], []), []), [([.inl 0], some (.inl (3, 0)), ([(0, 0), (3, 3), ((-32), 3), (1, 27)], [], []), [])])
def cu_245 : List qCu := []
set_option maxRecDepth 1000000 in
theorem ck_245 : chkM qH [] [((118, 6), 2)] 2 1000000 ct_245 cu_245 = true := by decide +kernel
theorem co_245 {L : List Nat}  : CtOK qH QB L ct_245 := chkM_ok QB_lasts qH_w all_nil (by decide +kernel) ck_245
