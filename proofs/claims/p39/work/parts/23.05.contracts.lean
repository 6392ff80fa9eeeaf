/-- X6_get -/
def ct_15 : qCt := (7, 1, false, [], ([.inl 1, .inl 2], [(0, .inr (.inr (some 28))), (1, .inl (1, 0)), (2, .inl (2, 0))], ([(0, 0), ((-2147483648), 2147483647), ((-2147483648), 2147483647)], [], []), []), [([.inl 0], some (.inl (3, 0)), ([(0, 0), ((-2147483648), 2147483647), ((-2147483648), 2147483647), ((-2147483648), 2147483647)], [], []), [])])
def cu_15 : List qCu := []
set_option maxRecDepth 1000000 in
theorem ck_15 : chkM qH [] [] 0 1000000 ct_15 cu_15 = true := by decide +kernel
theorem co_15 {L : List Nat}  : CtOK qH QB L ct_15 := chkM_ok QB_lasts qH_w all_nil (by decide +kernel) ck_15
/-- X1_billsOfFate -/
def ct_16 : qCt := (6, 2, false, [], ([.inl 1], [(0, .inr (.inr (some 35))), (1, .inl (1, 0))], ([(0, 0), ((-2147483648), 2147483647)], [], []), []), [([.inl 0], some (.inl (2, 0)), ([(0, 0), ((-2147483648), 2147483647), (0, 31)], [], []), [])])
def cu_16 : List qCu := [(4, ([.inl 2, .inl 3], [(0, .inr (.inr (some 35))), (1, .inl (1, 0)), (2, .inl (2, 0)), (3, .inl (3, 0))], ([(0, 0), ((-2147483648), 2147483647), (0, 31), (0, 5)], [], []), []), [(false, (0, 90)), (true, (3, 5))])]
set_option maxRecDepth 1000000 in
theorem ck_16 : chkM qH [ct_15] [] 2 1000000 ct_16 cu_16 = true := by decide +kernel
theorem co_16 {L : List Nat}  : CtOK qH QB L ct_16 := chkM_ok QB_lasts qH_w (all_cons (co_15) all_nil) (by decide +kernel) ck_16
/-- X11_about -/
def ct_17 : qCt := (3, 3, false, [], ([.inl 1], [(0, .inr (.inr (some 0))), (1, .inl (1, 0))], ([(0, 0), ((-2147483648), 2147483647)], [], []), []), [([.inl 0], some (.inl (2, 0)), ([(0, 0), ((-2147483648), 2147483647), ((-2147483648), 2147483647)], [], []), [])])
def cu_17 : List qCu := []
set_option maxRecDepth 1000000 in
theorem ck_17 : chkM qH [ct_16] [] 0 1000000 ct_17 cu_17 = true := by decide +kernel
theorem co_17 {L : List Nat}  : CtOK qH QB L ct_17 := chkM_ok QB_lasts qH_w (all_cons (co_16) all_nil) (by decide +kernel) ck_17
/-- X6_copyFrom -/
def ct_18 : qCt := (13, 0, false, [(28, 1), (28, 2), (28, 3), (29, 9999)], ([], [(0, .inr (.inr (some 28))), (1, .inr (.inr (some 28)))], ([(0, 0)], [], []), []), [([], none, ([(0, 0)], [], []), [])])
def cu_18 : List qCu := []
set_option maxRecDepth 1000000 in
theorem ck_18 : chkM qH [] [] 0 1000000 ct_18 cu_18 = true := by decide +kernel
theorem co_18 {L : List Nat}  : CtOK qH QB L ct_18 := chkM_ok QB_lasts qH_w all_nil (by decide +kernel) ck_18
/-- X0_slot -/
def ct_19 : qCt := (14, 1, false, [], ([], [(0, .inr (.inr (some 32))), (1, .inl (0, 0))], ([(0, 0)], [], []), []), [([], some (.inr (.inr (some 28))), ([(0, 0)], [], []), [])])
def cu_19 : List qCu := []
set_option maxRecDepth 1000000 in
theorem ck_19 : chkM qH [] [] 0 1000000 ct_19 cu_19 = true := by decide +kernel
theorem co_19 {L : List Nat}  : CtOK qH QB L ct_19 := chkM_ok QB_lasts qH_w all_nil (by decide +kernel) ck_19
/-- X11_back -/
def ct_20 : qCt := (11, 3, false, [(28, 1), (28, 2), (28, 3), (29, 9999), (32, 1), (32, 2), (32, 3)], ([.inl 1], [(0, .inr (.inr (some 0))), (1, .inl (1, 0))], ([(0, 0), ((-2147483648), 2147483647)], [], []), []), [([.inl 0], some (.inl (2, 0)), ([(0, 0), ((-2147483648), 2147483647), ((-2147483648), 2147483647)], [], []), [])])
def cu_20 : List qCu := []
set_option maxRecDepth 1000000 in
theorem ck_20 : chkM qH [ct_18, ct_19] [] 0 1000000 ct_20 cu_20 = true := by decide +kernel
theorem co_20 {L : List Nat}  : CtOK qH QB L ct_20 := chkM_ok QB_lasts qH_w (all_cons (co_18) (all_cons (co_19) all_nil)) (by decide +kernel) ck_20
/-- X11_image -/
def ct_21 : qCt := (18, 1, false, [(28, 1), (28, 2), (28, 3), (29, 9999), (31, 9999)], ([.inl 1], [(0, .inr (.inr (some 0))), (1, .inl (1, 0))], ([(0, 0), ((-2147483648), 2147483647)], [], []), []), [([.inl 0], some (.inl (2, 0)), ([(0, 0), ((-2147483648), 2147483647), ((-2147483648), 2147483647)], [], []), [])])
def cu_21 : List qCu := []
set_option maxRecDepth 1000000 in
theorem ck_21 : chkM qH [ct_18] [] 0 1000000 ct_21 cu_21 = true := by decide +kernel
theorem co_21 {L : List Nat}  : CtOK qH QB L ct_21 := chkM_ok QB_lasts qH_w (all_cons (co_18) all_nil) (by decide +kernel) ck_21
/-- X5_sumOf -/
def ct_22 : qCt := (48, 0, false, [], ([.inl 1], [(0, .inr (.inr (some 4))), (1, .inl (1, 0))], ([(0, 0), ((-2147483648), 2147483647)], [], []), []), [([.inl 0], some (.inl (2, 0)), ([(0, 0), ((-2147483648), 2147483647), ((-2147483648), 2147483647)], [], []), [])])
def cu_22 : List qCu := [(4, ([.inl 2, .inl 3], [(0, .inr (.inr (some 4))), (1, .inl (1, 0)), (2, .inl (2, 0)), (3, .inl (3, 0))], ([(0, 0), ((-2147483648), 2147483647), ((-2147483648), 2147483647), (0, 6)], [], []), []), [(false, (0, 90)), (true, (3, 6))])]
set_option maxRecDepth 1000000 in
theorem ck_22 : chkM qH [] [] 2 1000000 ct_22 cu_22 = true := by decide +kernel
theorem co_22 {L : List Nat}  : CtOK qH QB L ct_22 := chkM_ok QB_lasts qH_w all_nil (by decide +kernel) ck_22
/-- X10_breathe -/
def ct_23 : qCt := (49, 2, false, [(34, 1), (34, 2)], ([.inl 1], [(0, .inr (.inr (some 34))), (1, .inl (1, 0))], ([(0, 0), ((-2147483648), 2147483647)], [], []), []), [([], none, ([(0, 0), ((-2147483648), 2147483647)], [], []), [])])
def cu_23 : List qCu := []
set_option maxRecDepth 1000000 in
theorem ck_23 : chkM qH [ct_22] [] 0 1000000 ct_23 cu_23 = true := by decide +kernel
theorem co_23 {L : List Nat}  : CtOK qH QB L ct_23 := chkM_ok QB_lasts qH_w (all_cons (co_22) all_nil) (by decide +kernel) ck_23
/-- X5_sumOf -/
def ct_24 : qCt := (48, 0, false, [], ([.inl 1], [(0, .inr (.inr (some 5))), (1, .inl (1, 0))], ([(0, 0), ((-2147483648), 2147483647)], [], []), []), [([.inl 0], some (.inl (2, 0)), ([(0, 0), ((-2147483648), 2147483647), ((-2147483648), 2147483647)], [], []), [])])
def cu_24 : List qCu := [(4, ([.inl 2, .inl 3], [(0, .inr (.inr (some 5))), (1, .inl (1, 0)), (2, .inl (2, 0)), (3, .inl (3, 0))], ([(0, 0), ((-2147483648), 2147483647), ((-2147483648), 2147483647), (0, 6)], [], []), []), [(false, (0, 90)), (true, (3, 6))])]
set_option maxRecDepth 1000000 in
theorem ck_24 : chkM qH [] [] 2 1000000 ct_24 cu_24 = true := by decide +kernel
theorem co_24 {L : List Nat}  : CtOK qH QB L ct_24 := chkM_ok QB_lasts qH_w all_nil (by decide +kernel) ck_24
/-- X4_value -/
def ct_25 : qCt := (45, 1, false, [(12, 9999), (13, 9999)], ([.inl 1, .inl 2, .inl 3, .inl 4, .inl 5, .inl 6], [(0, .inr (.inr (some 9))), (1, .inl (1, 0)), (2, .inl (2, 0)), (3, .inl (3, 0)), (4, .inl (4, 0)), (5, .inl (5, 0)), (6, .inl (6, 0))], ([(0, 0), ((-2147483648), 2147483647), ((-2147483648), 2147483647), ((-2147483648), 2147483647), ((-2147483648), 2147483647), ((-2147483648), 2147483647), ((-2147483648), 2147483647)], [], []), []), [([.inl 0], some (.inl (7, 0)), ([(0, 0), ((-2147483648), 2147483647), ((-2147483648), 2147483647), ((-2147483648), 2147483647), ((-2147483648), 2147483647), ((-2147483648), 2147483647), ((-2147483648), 2147483647), ((-2147483648), 2147483647)], [], []), [])])
def cu_25 : List qCu := [(51, ([.inl 7, .inl 8], [(0, .inr (.inr (some 9))), (1, .inl (1, 0)), (2, .inl (2, 0)), (3, .inl (3, 0)), (4, .inl (4, 0)), (5, .inl (5, 0)), (6, .inl (6, 0)), (7, .inl (7, 0)), (8, .inl (8, 0))], ([(0, 0), ((-2147483648), 2147483647), ((-2147483648), 2147483647), ((-2147483648), 2147483647), ((-2147483648), 2147483647), ((-2147483648), 2147483647), ((-2147483648), 2147483647), (0, 30), (0, 269)], [], []), [((13, 0), .inl (1, 0)), ((13, 1), .inl (2, 0)), ((13, 2), .inl (3, 0)), ((13, 3), .inl (4, 0)), ((13, 4), .inl (5, 0)), ((13, 5), .inl (6, 0))]), [(false, (0, 90)), (true, (8, 269))])]
set_option maxRecDepth 1000000 in
theorem ck_25 : chkM qH [] [((46, 105), 1), ((46, 117), 1), ((46, 162), 1), ((46, 166), 1), ((46, 176), 1), ((46, 180), 1)] 2 1000000 ct_25 cu_25 = true := by decide +kernel
theorem co_25 {L : List Nat}  : CtOK qH QB L ct_25 := chkM_ok QB_lasts qH_w all_nil (by decide +kernel) ck_25
/-- X10_fading -/
def ct_26 : qCt := (43, 2, false, [(12, 9999), (13, 9999)], ([], [(0, .inr (.inr (some 34)))], ([(0, 0)], [], []), []), [([.inl 0], some (.inl (1, 0)), ([(0, 0), (0, 2147483647)], [], []), [])])
def cu_26 : List qCu := []
set_option maxRecDepth 1000000 in
theorem ck_26 : chkM qH [ct_24, ct_25] [] 0 1000000 ct_26 cu_26 = true := by decide +kernel
theorem co_26 {L : List Nat}  : CtOK qH QB L ct_26 := chkM_ok QB_lasts qH_w (all_cons (co_24) (all_cons (co_25) all_nil)) (by decide +kernel) ck_26
/-- X10_rest -/
def ct_27 : qCt := (42, 3, false, [(12, 9999), (13, 9999), (34, 1), (34, 3), (34, 6)], ([.inl 1], [(0, .inr (.inr (some 34))), (1, .inl (1, 0))], ([(0, 0), ((-2147483648), 2147483647)], [], []), []), [([], none, ([(0, 0), ((-2147483648), 2147483647)], [], []), [])])
def cu_27 : List qCu := [(2, ([.inl 2], [(0, .inr (.inr (some 34))), (1, .inl (1, 0)), (2, .inl (2, 0))], ([(0, 0), ((-2147483648), 2147483647), (0, 2147483647)], [], []), []), [(false, (0, 90)), (true, (2, 2147483647))])]
set_option maxRecDepth 1000000 in
theorem ck_27 : chkM qH [ct_26] [] 2 1000000 ct_27 cu_27 = true := by decide +kernel
theorem co_27 {L : List Nat}  : CtOK qH QB L ct_27 := chkM_ok QB_lasts qH_w (all_cons (co_26) all_nil) (by decide +kernel) ck_27
/-- X7_fadeStrangeJars -/
def ct_28 : qCt := (41, 4, false, [(12, 9999), (13, 9999), (34, 1), (34, 2), (34, 3), (34, 4), (34, 5), (34, 6), (45, 8), (52, 9999)], ([], [(0, .inr (.inr (some 45)))], ([(0, 0)], [], []), []), [([], none, ([(0, 0)], [], []), [])])
def cu_28 : List qCu := [(2, ([.inl 1], [(0, .inr (.inr (some 45))), (1, .inl (1, 0))], ([(0, 0), (0, 64)], [], []), []), [(false, (0, 90)), (true, (1, 64)), (false, (0, 99)), (false, (0, 0))]), (41, ([.inl 1, .inl 2], [(0, .inr (.inr (some 45))), (1, .inl (1, 0)), (2, .inl (2, 0))], ([(0, 0), (0, 63), (0, 21)], [], []), []), [(false, (0, 90)), (true, (1, 64)), (false, (0, 89)), (true, (2, 21))])]
set_option maxRecDepth 1000000 in
theorem ck_28 : chkM qH [ct_23, ct_27] [] 4 1000000 ct_28 cu_28 = true := by decide +kernel
theorem co_28 {L : List Nat}  : CtOK qH QB L ct_28 := chkM_ok QB_lasts qH_w (all_cons (co_23) (all_cons (co_27) all_nil)) (by decide +kernel) ck_28
/-- X7_agrees -/
def ct_29 : qCt := (40, 0, false, [], ([.inl 1, .inl 2], [(0, .inr (.inr (some 45))), (1, .inl (1, 0)), (2, .inl (2, 0))], ([(0, 0), ((-2147483648), 2147483647), ((-2147483648), 2147483647)], [], []), []), [([.inl 0], some (.inl (3, 0)), ([(0, 0), ((-2147483648), 2147483647), ((-2147483648), 2147483647), (0, 1)], [], []), [])])
def cu_29 : List qCu := [(2, ([.inl 3], [(0, .inr (.inr (some 45))), (1, .inl (1, 0)), (2, .inl (2, 0)), (3, .inl (3, 0))], ([(0, 0), ((-2147483648), 2147483647), ((-2147483648), 2147483647), (0, 30)], [], []), []), [(false, (0, 90)), (true, (3, 30))])]
set_option maxRecDepth 1000000 in
theorem ck_29 : chkM qH [] [] 2 1000000 ct_29 cu_29 = true := by decide +kernel
theorem co_29 {L : List Nat}  : CtOK qH QB L ct_29 := chkM_ok QB_lasts qH_w all_nil (by decide +kernel) ck_29
/-- X7_fitting -/
def ct_30 : qCt := (39, 5, false, [(12, 9999), (13, 9999), (34, 1), (34, 2), (34, 3), (34, 4), (34, 5), (34, 6), (45, 8), (52, 9999)], ([.inl 1], [(0, .inr (.inr (some 45))), (1, .inl (1, 0))], ([(0, 0), ((-2147483648), 2147483647)], [], []), []), [([.inl 0], some (.inr (.inl (2, 0))), ([(0, 0), ((-2147483648), 2147483647), (0, 18446744073709551615)], [], []), [])])
def cu_30 : List qCu := [(16, ([.inl 2, .inl 4], [(0, .inr (.inr (some 45))), (1, .inl (1, 0)), (2, .inr (.inl (2, 0))), (4, .inl (3, 0))], ([(0, 0), ((-2147483648), 2147483647), (0, 18446744073709551615), (0, 64)], [], []), []), [(false, (0, 90)), (true, (3, 64))])]
set_option maxRecDepth 1000000 in
theorem ck_30 : chkM qH [ct_28, ct_29] [] 2 1000000 ct_30 cu_30 = true := by decide +kernel
theorem co_30 {L : List Nat}  : CtOK qH QB L ct_30 := chkM_ok QB_lasts qH_w (all_cons (co_28) (all_cons (co_29) all_nil)) (by decide +kernel) ck_30
/-- X7_countWith -/
def ct_31 : qCt := (38, 0, false, [], ([.inl 0, .inl 2], [(0, .inr (.inl (1, 0))), (2, .inl (2, 0))], ([(0, 0), (0, 18446744073709551615), ((-2147483648), 2147483647)], [], []), []), [([.inl 0], some (.inl (3, 0)), ([(0, 0), (0, 18446744073709551615), ((-2147483648), 2147483647), ((-2147483648), 2147483647)], [], []), [])])
def cu_31 : List qCu := [(5, ([.inl 0, .inl 3, .inl 4], [(0, .inr (.inl (3, 0))), (2, .inl (2, 0)), (3, .inl (4, 0)), (4, .inl (5, 0))], ([(0, 0), (0, 18446744073709551615), ((-2147483648), 2147483647), (0, 18446744073709551615), ((-2147483648), 2147483647), (0, 64)], [], []), []), [(false, (0, 90)), (true, (5, 64))])]
set_option maxRecDepth 1000000 in
theorem ck_31 : chkM qH [] [] 2 1000000 ct_31 cu_31 = true := by decide +kernel
theorem co_31 {L : List Nat}  : CtOK qH QB L ct_31 := chkM_ok QB_lasts qH_w all_nil (by decide +kernel) ck_31
/-- X7_nextToAsk -/
def ct_32 : qCt := (35, 6, false, [(12, 9999), (13, 9999), (34, 1), (34, 2), (34, 3), (34, 4), (34, 5), (34, 6), (45, 8), (52, 9999)], ([.inl 1, .inl 2], [(0, .inr (.inr (some 45))), (1, .inl (1, 0)), (2, .inl (2, 0))], ([(0, 0), ((-2147483648), 2147483647), ((-2147483648), 2147483647)], [], []), []), [([.inl 0], some (.inl (3, 0)), ([(0, 0), ((-2147483648), 2147483647), ((-2147483648), 2147483647), ((-2147483648), 2147483647)], [], []), [])])
def cu_32 : List qCu := [(15, ([.inl 3, .inl 5, .inl 6, .inl 7], [(0, .inr (.inr (some 45))), (1, .inl (1, 0)), (2, .inl (2, 0)), (3, .inr (.inl (3, 0))), (5, .inl (4, 0)), (6, .inl (5, 0)), (7, .inl (6, 0))], ([(0, 0), ((-2147483648), 2147483647), ((-2147483648), 2147483647), (0, 18446744073709551615), ((-1), 5), ((-2147483648), 2147483647), (0, 6)], [], []), []), [(false, (0, 90)), (true, (6, 6))])]
set_option maxRecDepth 1000000 in
theorem ck_32 : chkM qH [ct_30, ct_31] [] 2 1000000 ct_32 cu_32 = true := by decide +kernel
theorem co_32 {L : List Nat}  : CtOK qH QB L ct_32 := chkM_ok QB_lasts qH_w (all_cons (co_30) (all_cons (co_31) all_nil)) (by decide +kernel) ck_32
/-- X11_ask -/
def ct_33 : qCt := (34, 7, false, [(12, 9999), (13, 9999), (34, 1), (34, 2), (34, 3), (34, 4), (34, 5), (34, 6), (45, 8), (52, 9999)], ([.inl 1, .inl 2], [(0, .inr (.inr (some 0))), (1, .inl (1, 0)), (2, .inl (2, 0))], ([(0, 0), ((-2147483648), 2147483647), ((-2147483648), 2147483647)], [], []), []), [([.inl 0], some (.inl (3, 0)), ([(0, 0), ((-2147483648), 2147483647), ((-2147483648), 2147483647), ((-2147483648), 2147483647)], [], []), [])])
def cu_33 : List qCu := []
set_option maxRecDepth 1000000 in
theorem ck_33 : chkM qH [ct_32] [] 0 1000000 ct_33 cu_33 = true := by decide +kernel
theorem co_33 {L : List Nat}  : CtOK qH QB L ct_33 := chkM_ok QB_lasts qH_w (all_cons (co_32) all_nil) (by decide +kernel) ck_33
/-- X11_sure -/
def ct_34 : qCt := (54, 7, false, [(12, 9999), (13, 9999), (34, 1), (34, 2), (34, 3), (34, 4), (34, 5), (34, 6), (45, 8), (52, 9999)], ([.inl 1, .inl 2], [(0, .inr (.inr (some 0))), (1, .inl (1, 0)), (2, .inl (2, 0))], ([(0, 0), ((-2147483648), 2147483647), ((-2147483648), 2147483647)], [], []), []), [([.inl 0], some (.inl (3, 0)), ([(0, 0), ((-2147483648), 2147483647), ((-2147483648), 2147483647), ((-2), 1)], [], []), [])])
def cu_34 : List qCu := []
set_option maxRecDepth 1000000 in
theorem ck_34 : chkM qH [ct_30, ct_31] [] 0 1000000 ct_34 cu_34 = true := by decide +kernel
theorem co_34 {L : List Nat}  : CtOK qH QB L ct_34 := chkM_ok QB_lasts qH_w (all_cons (co_30) (all_cons (co_31) all_nil)) (by decide +kernel) ck_34
/-- X11_fits -/
def ct_35 : qCt := (58, 6, false, [(12, 9999), (13, 9999), (34, 1), (34, 2), (34, 3), (34, 4), (34, 5), (34, 6), (45, 8), (52, 9999)], ([.inl 1], [(0, .inr (.inr (some 0))), (1, .inl (1, 0))], ([(0, 0), ((-2147483648), 2147483647)], [], []), []), [([.inl 0], some (.inl (2, 0)), ([(0, 0), ((-2147483648), 2147483647), (0, 127)], [], []), [])])
def cu_35 : List qCu := []
set_option maxRecDepth 1000000 in
theorem ck_35 : chkM qH [ct_30] [] 0 1000000 ct_35 cu_35 = true := by decide +kernel
theorem co_35 {L : List Nat}  : CtOK qH QB L ct_35 := chkM_ok QB_lasts qH_w (all_cons (co_30) all_nil) (by decide +kernel) ck_35
/-- X11_untell -/
def ct_36 : qCt := (62, 1, false, [(50, 9999)], ([.inl 1], [(0, .inr (.inr (some 0))), (1, .inl (1, 0))], ([(0, 0), ((-2147483648), 2147483647)], [], []), []), [([.inl 0], some (.inl (2, 0)), ([(0, 0), ((-2147483648), 2147483647), (0, 1)], [], []), [])])
def cu_36 : List qCu := []
set_option maxRecDepth 1000000 in
theorem ck_36 : chkM qH [] [] 0 1000000 ct_36 cu_36 = true := by decide +kernel
theorem co_36 {L : List Nat}  : CtOK qH QB L ct_36 := chkM_ok QB_lasts qH_w all_nil (by decide +kernel) ck_36
/-- X11_sniffed -/
def ct_37 : qCt := (65, 1, false, [(45, 9), (46, 9999), (47, 9999), (48, 9999), (49, 9999), (50, 9999)], ([.inl 1, .inl 2, .inl 3], [(0, .inr (.inr (some 0))), (1, .inl (1, 0)), (2, .inl (2, 0)), (3, .inl (3, 0))], ([(0, 0), ((-2147483648), 2147483647), ((-2147483648), 2147483647), (0, 1)], [], []), []), [([.inl 0], some (.inl (4, 0)), ([(0, 0), ((-2147483648), 2147483647), ((-2147483648), 2147483647), (0, 1), ((-1), 29)], [], []), [])])
def cu_37 : List qCu := []
set_option maxRecDepth 1000000 in
theorem ck_37 : chkM qH [] [] 0 1000000 ct_37 cu_37 = true := by decide +kernel
theorem co_37 {L : List Nat}  : CtOK qH QB L ct_37 := chkM_ok QB_lasts qH_w all_nil (by decide +kernel) ck_37
/-- X11_lies -/
def ct_38 : qCt := (68, 1, false, [], ([.inl 1], [(0, .inr (.inr (some 0))), (1, .inl (1, 0))], ([(0, 0), ((-2147483648), 2147483647)], [], []), []), [([.inl 0], some (.inl (2, 0)), ([(0, 0), ((-2147483648), 2147483647), ((-2147483648), 2147483647)], [], []), [])])
def cu_38 : List qCu := []
set_option maxRecDepth 1000000 in
theorem ck_38 : chkM qH [] [] 0 1000000 ct_38 cu_38 = true := by decide +kernel
theorem co_38 {L : List Nat}  : CtOK qH QB L ct_38 := chkM_ok QB_lasts qH_w all_nil (by decide +kernel) ck_38
/-- X1_longestLasting -/
def ct_39 : qCt := (72, 4, false, [(12, 9999), (13, 9999), (34, 1), (34, 2), (34, 3), (34, 4), (34, 5), (34, 6)], ([.inl 1], [(0, .inr (.inr (some 35))), (1, .inl (1, 0))], ([(0, 0), ((-2147483648), 2147483647)], [], []), []), [([.inl 0], some (.inl (2, 0)), ([(0, 0), ((-2147483648), 2147483647), ((-1), 5)], [], []), [])])
def cu_39 : List qCu := [(24, ([.inl 2, .inl 3, .inl 4, .inl 5], [(0, .inr (.inr (some 35))), (1, .inl (1, 0)), (2, .inl (2, 0)), (3, .inl (3, 0)), (4, .inl (4, 0)), (5, .inl (5, 0))], ([(0, 0), ((-2147483648), 2147483647), ((-1), 5), ((-2147483648), 2147483647), (0, 1), (0, 6)], [], []), []), [(false, (0, 90)), (true, (5, 6))])]
set_option maxRecDepth 1000000 in
theorem ck_39 : chkM qH [ct_23, ct_27] [] 2 1000000 ct_39 cu_39 = true := by decide +kernel
theorem co_39 {L : List Nat}  : CtOK qH QB L ct_39 := chkM_ok QB_lasts qH_w (all_cons (co_23) (all_cons (co_27) all_nil)) (by decide +kernel) ck_39
/-- X11_longest -/
def ct_40 : qCt := (71, 5, false, [(12, 9999), (13, 9999), (34, 1), (34, 2), (34, 3), (34, 4), (34, 5), (34, 6)], ([.inl 1], [(0, .inr (.inr (some 0))), (1, .inl (1, 0))], ([(0, 0), ((-2147483648), 2147483647)], [], []), []), [([.inl 0], some (.inl (2, 0)), ([(0, 0), ((-2147483648), 2147483647), ((-1), 5)], [], []), [])])
def cu_40 : List qCu := []
set_option maxRecDepth 1000000 in
theorem ck_40 : chkM qH [ct_39] [] 0 1000000 ct_40 cu_40 = true := by decide +kernel
theorem co_40 {L : List Nat}  : CtOK qH QB L ct_40 := chkM_ok QB_lasts qH_w (all_cons (co_39) all_nil) (by decide +kernel) ck_40
/-- X1_isKept -/
def ct_41 : qCt := (93, 2, false, [], ([.inl 1], [(0, .inr (.inr (some 35))), (1, .inl (1, 0))], ([(0, 0), ((-2147483648), 2147483647)], [], []), []), [([], some (.inl (0, 0)), ([(0, 0), ((-2147483648), 2147483647)], [], []), []), ([], some (.inl (0, 1)), ([(0, 0), (0, 4)], [], []), [])])
def cu_41 : List qCu := []
set_option maxRecDepth 1000000 in
theorem ck_41 : chkM qH [ct_15] [] 0 1000000 ct_41 cu_41 = true := by decide +kernel
theorem co_41 {L : List Nat}  : CtOK qH QB L ct_41 := chkM_ok QB_lasts qH_w (all_cons (co_15) all_nil) (by decide +kernel) ck_41
/-- X10_take -/
def ct_42 : qCt := (90, 2, false, [(34, 1), (34, 2), (34, 3), (34, 4), (34, 5), (34, 6)], ([.inl 2], [(0, .inr (.inr (some 34))), (1, .inr (.inr (some 28))), (2, .inl (1, 0))], ([(0, 0), ((-2147483648), 2147483647)], [], []), []), [([], none, ([(0, 0), ((-2147483648), 2147483647)], [], []), [])])
def cu_42 : List qCu := []
set_option maxRecDepth 1000000 in
theorem ck_42 : chkM qH [ct_15] [] 0 1000000 ct_42 cu_42 = true := by decide +kernel
theorem co_42 {L : List Nat}  : CtOK qH QB L ct_42 := chkM_ok QB_lasts qH_w (all_cons (co_15) all_nil) (by decide +kernel) ck_42
/-- X1_volumeByBreathing -/
def ct_43 : qCt := (92, 4, false, [(12, 9999), (13, 9999), (34, 1), (34, 2), (34, 3), (34, 4), (34, 5), (34, 6)], ([.inl 1, .inl 2, .inl 3], [(0, .inr (.inr (some 35))), (1, .inl (1, 0)), (2, .inl (2, 0)), (3, .inl (3, 0))], ([(0, 0), ((-2147483648), 2147483647), ((-2147483648), 2147483647), ((-2147483648), 2147483647)], [], []), []), [([.inl 0], some (.inl (4, 0)), ([(0, 0), ((-2147483648), 2147483647), ((-2147483648), 2147483647), ((-2147483648), 2147483647), ((-2147483648), 2147483647)], [], []), [])])
def cu_43 : List qCu := []
set_option maxRecDepth 1000000 in
theorem ck_43 : chkM qH [ct_42, ct_27, ct_23] [] 0 1000000 ct_43 cu_43 = true := by decide +kernel
theorem co_43 {L : List Nat}  : CtOK qH QB L ct_43 := chkM_ok QB_lasts qH_w (all_cons (co_42) (all_cons (co_27) (all_cons (co_23) all_nil))) (by decide +kernel) ck_43
/-- X1_wouldPass -/
def ct_44 : qCt := (91, 5, false, [(12, 9999), (13, 9999), (34, 1), (34, 2), (34, 3), (34, 4), (34, 5), (34, 6)], ([.inl 1], [(0, .inr (.inr (some 35))), (1, .inl (1, 0))], ([(0, 0), ((-2147483648), 2147483647)], [], []), []), [([], some (.inl (0, 0)), ([(0, 0), ((-2147483648), 2147483647)], [], []), []), ([], some (.inl (0, 1)), ([(0, 0), (0, 4)], [], []), [])])
def cu_44 : List qCu := []
set_option maxRecDepth 1000000 in
theorem ck_44 : chkM qH [ct_41, ct_43] [] 0 1000000 ct_44 cu_44 = true := by decide +kernel
theorem co_44 {L : List Nat}  : CtOK qH QB L ct_44 := chkM_ok QB_lasts qH_w (all_cons (co_41) (all_cons (co_43) all_nil)) (by decide +kernel) ck_44
/-- X1_volumeByShaking -/
def ct_45 : qCt := (87, 4, false, [(12, 9999), (13, 9999), (34, 1), (34, 2), (34, 3), (34, 4), (34, 5), (34, 6)], ([.inl 1, .inl 2], [(0, .inr (.inr (some 35))), (1, .inl (1, 0)), (2, .inl (2, 0))], ([(0, 0), ((-2147483648), 2147483647), ((-2147483648), 2147483647)], [], []), []), [([.inl 0], some (.inl (3, 0)), ([(0, 0), ((-2147483648), 2147483647), ((-2147483648), 2147483647), ((-2147483648), 2147483647)], [], []), [])])
def cu_45 : List qCu := []
set_option maxRecDepth 1000000 in
theorem ck_45 : chkM qH [ct_42, ct_27] [] 0 1000000 ct_45 cu_45 = true := by decide +kernel
theorem co_45 {L : List Nat}  : CtOK qH QB L ct_45 := chkM_ok QB_lasts qH_w (all_cons (co_42) (all_cons (co_27) all_nil)) (by decide +kernel) ck_45
/-- X1_brittleBills -/
def ct_46 : qCt := (84, 6, false, [(12, 9999), (13, 9999), (34, 1), (34, 2), (34, 3), (34, 4), (34, 5), (34, 6)], ([], [(0, .inr (.inr (some 35)))], ([(0, 0)], [], []), []), [([.inl 0], some (.inl (1, 0)), ([(0, 0), (0, 31)], [], []), [])])
def cu_46 : List qCu := [(4, ([.inl 1, .inl 2], [(0, .inr (.inr (some 35))), (1, .inl (1, 0)), (2, .inl (2, 0))], ([(0, 0), (0, 31), (0, 5)], [], []), []), [(false, (0, 90)), (true, (2, 5))])]
set_option maxRecDepth 1000000 in
theorem ck_46 : chkM qH [ct_44, ct_45] [] 2 1000000 ct_46 cu_46 = true := by decide +kernel
theorem co_46 {L : List Nat}  : CtOK qH QB L ct_46 := chkM_ok QB_lasts qH_w (all_cons (co_44) (all_cons (co_45) all_nil)) (by decide +kernel) ck_46
/-- X11_brittle -/
def ct_47 : qCt := (83, 7, false, [(12, 9999), (13, 9999), (34, 1), (34, 2), (34, 3), (34, 4), (34, 5), (34, 6)], ([], [(0, .inr (.inr (some 0)))], ([(0, 0)], [], []), []), [([.inl 0], some (.inl (1, 0)), ([(0, 0), (0, 31)], [], []), [])])
def cu_47 : List qCu := []
set_option maxRecDepth 1000000 in
theorem ck_47 : chkM qH [ct_46] [] 0 1000000 ct_47 cu_47 = true := by decide +kernel
theorem co_47 {L : List Nat}  : CtOK qH QB L ct_47 := chkM_ok QB_lasts qH_w (all_cons (co_46) all_nil) (by decide +kernel) ck_47
/-- X6_isEmpty -/
def ct_48 : qCt := (106, 2, false, [], ([.inl 1], [(0, .inr (.inr (some 28))), (1, .inl (1, 0))], ([(0, 0), ((-2147483648), 2147483647)], [], []), []), [([], some (.inl (0, 0)), ([(0, 0), ((-2147483648), 2147483647)], [], []), []), ([], some (.inl (0, 1)), ([(0, 0), ((-2147483648), 2147483647)], [], []), [])])
def cu_48 : List qCu := []
set_option maxRecDepth 1000000 in
theorem ck_48 : chkM qH [ct_15] [] 0 1000000 ct_48 cu_48 = true := by decide +kernel
theorem co_48 {L : List Nat}  : CtOK qH QB L ct_48 := chkM_ok QB_lasts qH_w (all_cons (co_15) all_nil) (by decide +kernel) ck_48
/-- X1_mayJoin -/
def ct_49 : qCt := (105, 3, false, [], ([.inl 1, .inl 2], [(0, .inr (.inr (some 35))), (1, .inl (1, 0)), (2, .inl (2, 0))], ([(0, 0), ((-2147483648), 2147483647), ((-2147483648), 2147483647)], [], []), []), [([], some (.inl (0, 0)), ([(0, 0), ((-2147483648), 2147483647), ((-2147483648), 2147483647)], [], []), []), ([], some (.inl (0, 1)), ([(0, 0), (0, 4), (0, 4)], [], []), [])])
def cu_49 : List qCu := []
set_option maxRecDepth 1000000 in
theorem ck_49 : chkM qH [ct_41, ct_48] [] 0 1000000 ct_49 cu_49 = true := by decide +kernel
theorem co_49 {L : List Nat}  : CtOK qH QB L ct_49 := chkM_ok QB_lasts qH_w (all_cons (co_41) (all_cons (co_48) all_nil)) (by decide +kernel) ck_49
/-- X10_pourIn -/
def ct_50 : qCt := (104, 2, false, [(34, 1), (34, 2), (34, 3), (34, 5)], ([.inl 2], [(0, .inr (.inr (some 34))), (1, .inr (.inr (some 28))), (2, .inl (1, 0))], ([(0, 0), ((-2147483648), 2147483647)], [], []), []), [([], none, ([(0, 0), ((-2147483648), 2147483647)], [], []), [])])
def cu_50 : List qCu := []
set_option maxRecDepth 1000000 in
theorem ck_50 : chkM qH [ct_15] [] 0 1000000 ct_50 cu_50 = true := by decide +kernel
theorem co_50 {L : List Nat}  : CtOK qH QB L ct_50 := chkM_ok QB_lasts qH_w (all_cons (co_15) all_nil) (by decide +kernel) ck_50
/-- X1_jointVolume -/
def ct_51 : qCt := (103, 4, false, [(12, 9999), (13, 9999), (34, 1), (34, 2), (34, 3), (34, 4), (34, 5), (34, 6)], ([.inl 1, .inl 2], [(0, .inr (.inr (some 35))), (1, .inl (1, 0)), (2, .inl (2, 0))], ([(0, 0), ((-2147483648), 2147483647), ((-2147483648), 2147483647)], [], []), []), [([.inl 0], some (.inl (3, 0)), ([(0, 0), ((-2147483648), 2147483647), ((-2147483648), 2147483647), ((-2147483648), 2147483647)], [], []), [])])
def cu_51 : List qCu := []
set_option maxRecDepth 1000000 in
theorem ck_51 : chkM qH [ct_42, ct_50, ct_27] [] 0 1000000 ct_51 cu_51 = true := by decide +kernel
theorem co_51 {L : List Nat}  : CtOK qH QB L ct_51 := chkM_ok QB_lasts qH_w (all_cons (co_42) (all_cons (co_50) (all_cons (co_27) all_nil))) (by decide +kernel) ck_51
/-- X1_countMatches -/
def ct_52 : qCt := (102, 6, false, [(12, 9999), (13, 9999), (34, 1), (34, 2), (34, 3), (34, 4), (34, 5), (34, 6)], ([], [(0, .inr (.inr (some 35)))], ([(0, 0)], [], []), []), [([.inl 0], some (.inl (1, 0)), ([(0, 0), ((-2147483648), 2147483647)], [], []), [])])
def cu_52 : List qCu := [(4, ([.inl 1, .inl 2], [(0, .inr (.inr (some 35))), (1, .inl (1, 0)), (2, .inl (2, 0))], ([(0, 0), ((-2147483648), 2147483647), (0, 5)], [], []), []), [(false, (0, 90)), (true, (2, 5)), (false, (0, 99)), (false, (0, 0))]), (17, ([.inl 1, .inl 2, .inl 3, .inr (3, 7)], [(0, .inr (.inr (some 35))), (1, .inl (1, 0)), (2, .inl (2, 0)), (3, .inl (3, 0))], ([(0, 0), ((-2147483648), 2147483647), (0, 4), (0, 5), (1, 5)], [], []), [((3, 7), .inl (4, 0))]), [(false, (0, 90)), (true, (2, 5)), (false, (0, 89)), (true, (3, 5))])]
set_option maxRecDepth 1000000 in
theorem ck_52 : chkM qH [ct_44, ct_49, ct_51] [] 4 1000000 ct_52 cu_52 = true := by decide +kernel
theorem co_52 {L : List Nat}  : CtOK qH QB L ct_52 := chkM_ok QB_lasts qH_w (all_cons (co_44) (all_cons (co_49) (all_cons (co_51) all_nil))) (by decide +kernel) ck_52
/-- X11_matches -/
def ct_53 : qCt := (101, 7, false, [(12, 9999), (13, 9999), (34, 1), (34, 2), (34, 3), (34, 4), (34, 5), (34, 6)], ([], [(0, .inr (.inr (some 0)))], ([(0, 0)], [], []), []), [([.inl 0], some (.inl (1, 0)), ([(0, 0), ((-2147483648), 2147483647)], [], []), [])])
def cu_53 : List qCu := []
set_option maxRecDepth 1000000 in
theorem ck_53 : chkM qH [ct_52] [] 0 1000000 ct_53 cu_53 = true := by decide +kernel
theorem co_53 {L : List Nat}  : CtOK qH QB L ct_53 := chkM_ok QB_lasts qH_w (all_cons (co_52) all_nil) (by decide +kernel) ck_53
/-- X1_richestKept -/
def ct_54 : qCt := (109, 3, false, [], ([], [(0, .inr (.inr (some 35)))], ([(0, 0)], [], []), []), [([.inl 0], some (.inl (1, 0)), ([(0, 0), ((-1), 4)], [], []), [])])
def cu_54 : List qCu := [(6, ([.inl 1, .inl 2, .inl 3], [(0, .inr (.inr (some 35))), (1, .inl (1, 0)), (2, .inl (2, 0)), (3, .inl (3, 0))], ([(0, 0), ((-1), 4), ((-1), 2147483647), (0, 5)], [], []), []), [(false, (0, 90)), (true, (3, 5))])]
set_option maxRecDepth 1000000 in
theorem ck_54 : chkM qH [ct_41, ct_15] [] 2 1000000 ct_54 cu_54 = true := by decide +kernel
theorem co_54 {L : List Nat}  : CtOK qH QB L ct_54 := chkM_ok QB_lasts qH_w (all_cons (co_41) (all_cons (co_15) all_nil)) (by decide +kernel) ck_54
/-- X11_richest -/
def ct_55 : qCt := (108, 4, false, [], ([], [(0, .inr (.inr (some 0)))], ([(0, 0)], [], []), []), [([.inl 0], some (.inl (1, 0)), ([(0, 0), ((-1), 4)], [], []), [])])
def cu_55 : List qCu := []
set_option maxRecDepth 1000000 in
theorem ck_55 : chkM qH [ct_54] [] 0 1000000 ct_55 cu_55 = true := by decide +kernel
theorem co_55 {L : List Nat}  : CtOK qH QB L ct_55 := chkM_ok QB_lasts qH_w (all_cons (co_54) all_nil) (by decide +kernel) ck_55
/-- X1_volumeWasted -/
def ct_56 : qCt := (112, 6, false, [(12, 9999), (13, 9999), (34, 1), (34, 2), (34, 3), (34, 4), (34, 5), (34, 6)], ([], [(0, .inr (.inr (some 35)))], ([(0, 0)], [], []), []), [([.inl 0], some (.inl (1, 0)), ([(0, 0), ((-2147483648), 2147483647)], [], []), [])])
def cu_56 : List qCu := [(4, ([.inl 1, .inl 2], [(0, .inr (.inr (some 35))), (1, .inl (1, 0)), (2, .inl (2, 0))], ([(0, 0), ((-2147483648), 2147483647), (0, 5)], [], []), []), [(false, (0, 90)), (true, (2, 5))])]
set_option maxRecDepth 1000000 in
theorem ck_56 : chkM qH [ct_41, ct_44, ct_15] [] 2 1000000 ct_56 cu_56 = true := by decide +kernel
theorem co_56 {L : List Nat}  : CtOK qH QB L ct_56 := chkM_ok QB_lasts qH_w (all_cons (co_41) (all_cons (co_44) (all_cons (co_15) all_nil))) (by decide +kernel) ck_56
/-- X11_wasted -/
def ct_57 : qCt := (111, 7, false, [(12, 9999), (13, 9999), (34, 1), (34, 2), (34, 3), (34, 4), (34, 5), (34, 6)], ([], [(0, .inr (.inr (some 0)))], ([(0, 0)], [], []), []), [([.inl 0], some (.inl (1, 0)), ([(0, 0), ((-2147483648), 2147483647)], [], []), [])])
def cu_57 : List qCu := []
set_option maxRecDepth 1000000 in
theorem ck_57 : chkM qH [ct_56] [] 0 1000000 ct_57 cu_57 = true := by decide +kernel
theorem co_57 {L : List Nat}  : CtOK qH QB L ct_57 := chkM_ok QB_lasts qH_w (all_cons (co_56) all_nil) (by decide +kernel) ck_57
/-- X3_fillShaken -/
def ct_58 : qCt := (125, 4, false, [(12, 9999), (13, 9999), (34, 1), (34, 2), (34, 3), (34, 4), (34, 5), (34, 6), (41, 9999), (42, 9999)], ([.inl 1, .inl 2], [(0, .inr (.inr (some 37))), (1, .inl (1, 0)), (2, .inl (2, 0))], ([(0, 0), (0, 4), (1, 3)], [], []), []), [([], none, ([(0, 0), (0, 4), (1, 3)], [], []), [])])
def cu_58 : List qCu := [(28, ([.inl 3], [(0, .inr (.inr (some 37))), (1, .inl (1, 0)), (2, .inl (2, 0)), (3, .inl (3, 0))], ([(0, 0), (0, 4), (1, 3), (0, 8)], [], []), []), [(false, (0, 90)), (true, (3, 8)), (false, (0, 99)), (false, (0, 0))]), (68, ([.inl 3, .inl 4, .inl 5], [(0, .inr (.inr (some 37))), (1, .inl (1, 0)), (2, .inl (2, 0)), (3, .inl (3, 0)), (4, .inl (4, 0)), (5, .inl (5, 0))], ([(0, 0), (0, 4), (1, 3), (0, 7), (0, 1), (0, 3)], [], []), []), [(false, (0, 90)), (true, (3, 8)), (false, (0, 89)), (true, (5, 3))])]
set_option maxRecDepth 1000000 in
theorem ck_58 : chkM qH [ct_41, ct_48, ct_42, ct_27] [] 4 1000000 ct_58 cu_58 = true := by decide +kernel
theorem co_58 {L : List Nat}  : CtOK qH QB L ct_58 := chkM_ok QB_lasts qH_w (all_cons (co_41) (all_cons (co_48) (all_cons (co_42) (all_cons (co_27) all_nil)))) (by decide +kernel) ck_58
/-- J7_fill_53178 -/
def ct_59 : qCt := (124, 0, false, [(40, 9999)], ([.inl 1], [(0, .inr (.inr (some 40))), (1, .inl (1, 0))], ([(0, 0), ((-2147483648), 2147483647)], [], []), []), [([], none, ([(0, 0), ((-2147483648), 2147483647)], [], []), [])])
def cu_59 : List qCu := [(5, ([.inl 2], [(0, .inr (.inr (some 40))), (1, .inl (1, 0)), (2, .inl (2, 0)), (3, .inl (0, 5))], ([(0, 0), ((-2147483648), 2147483647), (0, 5)], [], []), []), [(false, (0, 90)), (true, (2, 5))])]
set_option maxRecDepth 1000000 in
theorem ck_59 : chkM qH [] [] 2 1000000 ct_59 cu_59 = true := by decide +kernel
theorem co_59 {L : List Nat}  : CtOK qH QB L ct_59 := chkM_ok QB_lasts qH_w all_nil (by decide +kernel) ck_59
/-- X3_countForced -/
def ct_60 : qCt := (123, 0, false, [], ([], [(0, .inr (.inr (some 37)))], ([(0, 0)], [], []), []), [([.inl 0], some (.inl (1, 0)), ([(0, 0), ((-2147483648), 2147483647)], [], []), [])])
def cu_60 : List qCu := [(4, ([.inl 1, .inl 2], [(0, .inr (.inr (some 37))), (1, .inl (1, 0)), (2, .inl (2, 0))], ([(0, 0), ((-2147483648), 2147483647), (0, 5)], [], []), []), [(false, (0, 90)), (true, (2, 5))])]
set_option maxRecDepth 1000000 in
theorem ck_60 : chkM qH [] [] 2 1000000 ct_60 cu_60 = true := by decide +kernel
theorem co_60 {L : List Nat}  : CtOK qH QB L ct_60 := chkM_ok QB_lasts qH_w all_nil (by decide +kernel) ck_60
