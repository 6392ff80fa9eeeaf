/-- X3_extendPlan -/
def ct_99 : qCt := (185, 3, false, [(37, 5), (37, 10), (37, 11), (38, 9999), (39, 9999), (40, 9999)], ([.inl 2], [(0, .inr (.inr (some 37))), (1, .inl (0, 5)), (2, .inl (1, 0))], ([(0, 0), ((-2147483648), 2147483647)], [], []), []), [([], none, ([(0, 0), ((-2147483648), 2147483647)], [], []), [])])
def cu_99 : List qCu := [(60, ([.inl 3, .inr (3, 6), .inr (127, 5)], [(0, .inr (.inr (some 37))), (1, .inl (0, 5)), (2, .inl (1, 0)), (3, .inl (2, 0))], ([(0, 0), ((-2147483648), 2147483647), (0, 5), (6, 6), ((-1), 4)], [], []), [((3, 6), .inl (3, 0)), ((127, 5), .inl (4, 0))]), [(false, (0, 90)), (true, (2, 5))])]
set_option maxRecDepth 1000000 in
theorem ck_99 : chkM qH [ct_60, ct_98] [] 2 1000000 ct_99 cu_99 = true := by decide +kernel
theorem co_99 {L : List Nat}  : CtOK qH QB L ct_99 := chkM_ok QB_lasts qH_w (all_cons (co_60) (all_cons (co_98) all_nil)) (by decide +kernel) ck_99
/-- X3_extendPlan -/
def ct_100 : qCt := (185, 4, false, [(37, 5), (37, 10), (37, 11), (38, 9999), (39, 9999), (40, 9999)], ([.inl 2], [(0, .inr (.inr (some 37))), (1, .inl (0, 4)), (2, .inl (1, 0))], ([(0, 0), ((-2147483648), 2147483647)], [], []), []), [([], none, ([(0, 0), ((-2147483648), 2147483647)], [], []), [])])
def cu_100 : List qCu := [(60, ([.inl 3, .inr (3, 6)], [(0, .inr (.inr (some 37))), (1, .inl (0, 4)), (2, .inl (1, 0)), (3, .inl (2, 0))], ([(0, 0), ((-2147483648), 2147483647), (0, 5), (5, 6)], [], []), [((3, 6), .inl (3, 0))]), [(false, (0, 90)), (true, (2, 5))])]
set_option maxRecDepth 1000000 in
theorem ck_100 : chkM qH [ct_60, ct_99] [] 2 1000000 ct_100 cu_100 = true := by decide +kernel
theorem co_100 {L : List Nat}  : CtOK qH QB L ct_100 := chkM_ok QB_lasts qH_w (all_cons (co_60) (all_cons (co_99) all_nil)) (by decide +kernel) ck_100
/-- X3_extendPlan -/
def ct_101 : qCt := (185, 5, false, [(37, 5), (37, 10), (37, 11), (38, 9999), (39, 9999), (40, 9999)], ([.inl 2], [(0, .inr (.inr (some 37))), (1, .inl (0, 3)), (2, .inl (1, 0))], ([(0, 0), ((-2147483648), 2147483647)], [], []), []), [([], none, ([(0, 0), ((-2147483648), 2147483647)], [], []), [])])
def cu_101 : List qCu := [(60, ([.inl 3, .inr (3, 6)], [(0, .inr (.inr (some 37))), (1, .inl (0, 3)), (2, .inl (1, 0)), (3, .inl (2, 0))], ([(0, 0), ((-2147483648), 2147483647), (0, 5), (4, 6)], [], []), [((3, 6), .inl (3, 0))]), [(false, (0, 90)), (true, (2, 5))])]
set_option maxRecDepth 1000000 in
theorem ck_101 : chkM qH [ct_60, ct_100] [] 2 1000000 ct_101 cu_101 = true := by decide +kernel
theorem co_101 {L : List Nat}  : CtOK qH QB L ct_101 := chkM_ok QB_lasts qH_w (all_cons (co_60) (all_cons (co_100) all_nil)) (by decide +kernel) ck_101
/-- X3_extendPlan -/
def ct_102 : qCt := (185, 6, false, [(37, 5), (37, 10), (37, 11), (38, 9999), (39, 9999), (40, 9999)], ([.inl 2], [(0, .inr (.inr (some 37))), (1, .inl (0, 2)), (2, .inl (1, 0))], ([(0, 0), ((-2147483648), 2147483647)], [], []), []), [([], none, ([(0, 0), ((-2147483648), 2147483647)], [], []), [])])
def cu_102 : List qCu := [(60, ([.inl 3, .inr (3, 6)], [(0, .inr (.inr (some 37))), (1, .inl (0, 2)), (2, .inl (1, 0)), (3, .inl (2, 0))], ([(0, 0), ((-2147483648), 2147483647), (0, 5), (3, 6)], [], []), [((3, 6), .inl (3, 0))]), [(false, (0, 90)), (true, (2, 5))])]
set_option maxRecDepth 1000000 in
theorem ck_102 : chkM qH [ct_60, ct_101] [] 2 1000000 ct_102 cu_102 = true := by decide +kernel
theorem co_102 {L : List Nat}  : CtOK qH QB L ct_102 := chkM_ok QB_lasts qH_w (all_cons (co_60) (all_cons (co_101) all_nil)) (by decide +kernel) ck_102
/-- X3_extendPlan -/
def ct_103 : qCt := (185, 7, false, [(37, 5), (37, 10), (37, 11), (38, 9999), (39, 9999), (40, 9999)], ([.inl 2], [(0, .inr (.inr (some 37))), (1, .inl (0, 1)), (2, .inl (1, 0))], ([(0, 0), ((-2147483648), 2147483647)], [], []), []), [([], none, ([(0, 0), ((-2147483648), 2147483647)], [], []), [])])
def cu_103 : List qCu := [(60, ([.inl 3, .inr (3, 6)], [(0, .inr (.inr (some 37))), (1, .inl (0, 1)), (2, .inl (1, 0)), (3, .inl (2, 0))], ([(0, 0), ((-2147483648), 2147483647), (0, 5), (2, 6)], [], []), [((3, 6), .inl (3, 0))]), [(false, (0, 90)), (true, (2, 5))])]
set_option maxRecDepth 1000000 in
theorem ck_103 : chkM qH [ct_60, ct_102] [] 2 1000000 ct_103 cu_103 = true := by decide +kernel
theorem co_103 {L : List Nat}  : CtOK qH QB L ct_103 := chkM_ok QB_lasts qH_w (all_cons (co_60) (all_cons (co_102) all_nil)) (by decide +kernel) ck_103
/-- X3_extendPlan -/
def ct_104 : qCt := (185, 8, false, [(37, 5), (37, 10), (37, 11), (38, 9999), (39, 9999), (40, 9999)], ([.inl 2], [(0, .inr (.inr (some 37))), (1, .inl (0, 0)), (2, .inl (1, 0))], ([(0, 0), ((-2147483648), 2147483647)], [], []), []), [([], none, ([(0, 0), ((-2147483648), 2147483647)], [], []), [])])
def cu_104 : List qCu := [(60, ([.inl 3, .inr (3, 6)], [(0, .inr (.inr (some 37))), (1, .inl (0, 0)), (2, .inl (1, 0)), (3, .inl (2, 0))], ([(0, 0), ((-2147483648), 2147483647), (0, 5), (1, 6)], [], []), [((3, 6), .inl (3, 0))]), [(false, (0, 90)), (true, (2, 5))])]
set_option maxRecDepth 1000000 in
theorem ck_104 : chkM qH [ct_60, ct_103] [] 2 1000000 ct_104 cu_104 = true := by decide +kernel
theorem co_104 {L : List Nat}  : CtOK qH QB L ct_104 := chkM_ok QB_lasts qH_w (all_cons (co_60) (all_cons (co_103) all_nil)) (by decide +kernel) ck_104
/-- X3_choosePlan -/
def ct_105 : qCt := (184, 9, false, [(12, 9999), (13, 9999), (34, 1), (34, 2), (34, 3), (34, 4), (34, 5), (34, 6), (37, 5), (37, 10), (37, 11), (37, 12), (38, 9999), (39, 9999), (40, 9999), (41, 9999), (42, 9999)], ([], [(0, .inr (.inr (some 37)))], ([(0, 0)], [], []), []), [([.inl 0], some (.inl (1, 0)), ([(0, 0), ((-2147483648), 2147483647)], [], []), [])])
def cu_105 : List qCu := [(15, ([.inl 1], [(0, .inr (.inr (some 37))), (1, .inl (1, 0))], ([(0, 0), (0, 5)], [], []), []), [(false, (0, 90)), (true, (1, 5))])]
set_option maxRecDepth 1000000 in
theorem ck_105 : chkM qH [ct_59, ct_97, ct_78, ct_104] [] 2 1000000 ct_105 cu_105 = true := by decide +kernel
theorem co_105 {L : List Nat}  : CtOK qH QB L ct_105 := chkM_ok QB_lasts qH_w (all_cons (co_59) (all_cons (co_97) (all_cons (co_78) (all_cons (co_104) all_nil)))) (by decide +kernel) ck_105
/-- X11_plan -/
def ct_106 : qCt := (183, 10, false, [(12, 9999), (13, 9999), (34, 1), (34, 2), (34, 3), (34, 4), (34, 5), (34, 6), (37, 5), (37, 10), (37, 11), (37, 12), (38, 9999), (39, 9999), (40, 9999), (41, 9999), (42, 9999)], ([], [(0, .inr (.inr (some 0)))], ([(0, 0)], [], []), []), [([.inl 0], some (.inl (1, 0)), ([(0, 0), ((-2147483648), 2147483647)], [], []), [])])
def cu_106 : List qCu := []
set_option maxRecDepth 1000000 in
theorem ck_106 : chkM qH [ct_105] [] 0 1000000 ct_106 cu_106 = true := by decide +kernel
theorem co_106 {L : List Nat}  : CtOK qH QB L ct_106 := chkM_ok QB_lasts qH_w (all_cons (co_105) all_nil) (by decide +kernel) ck_106
/-- X1_latestVote -/
def ct_107 : qCt := (190, 5, false, [(12, 9999), (13, 9999), (34, 1), (34, 2), (34, 3), (34, 4), (34, 5), (34, 6)], ([.inl 1, .inl 2], [(0, .inr (.inr (some 35))), (1, .inl (1, 0)), (2, .inl (2, 0))], ([(0, 0), ((-2147483648), 2147483647), ((-2147483648), 2147483647)], [], []), []), [([.inl 0], some (.inl (3, 0)), ([(0, 0), ((-2147483648), 2147483647), ((-2147483648), 2147483647), ((-1), 2147483647)], [], []), [])])
def cu_107 : List qCu := [(69, ([.inl 4, .inl 5, .inr (3, 6)], [(0, .inr (.inr (some 35))), (1, .inl (1, 0)), (2, .inl (2, 0)), (3, .inl (0, 0)), (4, .inl (3, 0)), (5, .inl (4, 0))], ([(0, 0), (0, 5), (0, 4), (0, 1), ((-2147483648), 2147483647), (1, 6)], [], []), [((3, 6), .inl (5, 0))]), [(false, (0, 90)), (false, (4, 2147483648))])]
set_option maxRecDepth 1000000 in
theorem ck_107 : chkM qH [ct_41, ct_15, ct_43] [] 2 1000000 ct_107 cu_107 = true := by decide +kernel
theorem co_107 {L : List Nat}  : CtOK qH QB L ct_107 := chkM_ok QB_lasts qH_w (all_cons (co_41) (all_cons (co_15) (all_cons (co_43) all_nil))) (by decide +kernel) ck_107
/-- X11_latest -/
def ct_108 : qCt := (189, 6, false, [(12, 9999), (13, 9999), (34, 1), (34, 2), (34, 3), (34, 4), (34, 5), (34, 6)], ([.inl 1, .inl 2], [(0, .inr (.inr (some 0))), (1, .inl (1, 0)), (2, .inl (2, 0))], ([(0, 0), ((-2147483648), 2147483647), ((-2147483648), 2147483647)], [], []), []), [([.inl 0], some (.inl (3, 0)), ([(0, 0), ((-2147483648), 2147483647), ((-2147483648), 2147483647), ((-1), 2147483647)], [], []), [])])
def cu_108 : List qCu := []
set_option maxRecDepth 1000000 in
theorem ck_108 : chkM qH [ct_107] [] 0 1000000 ct_108 cu_108 = true := by decide +kernel
theorem co_108 {L : List Nat}  : CtOK qH QB L ct_108 := chkM_ok QB_lasts qH_w (all_cons (co_107) all_nil) (by decide +kernel) ck_108
/-- X1_fewestSaviours -/
def ct_109 : qCt := (193, 5, false, [(12, 9999), (13, 9999), (34, 1), (34, 2), (34, 3), (34, 4), (34, 5), (34, 6)], ([.inl 1], [(0, .inr (.inr (some 35))), (1, .inl (1, 0))], ([(0, 0), ((-2147483648), 2147483647)], [], []), []), [([.inl 0], some (.inl (2, 0)), ([(0, 0), ((-2147483648), 2147483647), ((-1), 63)], [], []), [])])
def cu_109 : List qCu := [(11, ([.inl 2, .inl 3, .inl 4], [(0, .inr (.inr (some 35))), (1, .inl (1, 0)), (2, .inl (2, 0)), (3, .inl (3, 0)), (4, .inl (4, 0))], ([(0, 0), ((-2147483648), 2147483647), ((-1), 63), (0, 63), (0, 64)], [], []), []), [(false, (0, 90)), (true, (4, 64))])]
set_option maxRecDepth 1000000 in
theorem ck_109 : chkM qH [ct_78, ct_41, ct_43] [] 2 1000000 ct_109 cu_109 = true := by decide +kernel
theorem co_109 {L : List Nat}  : CtOK qH QB L ct_109 := chkM_ok QB_lasts qH_w (all_cons (co_78) (all_cons (co_41) (all_cons (co_43) all_nil))) (by decide +kernel) ck_109
/-- X11_muster -/
def ct_110 : qCt := (192, 6, false, [(12, 9999), (13, 9999), (34, 1), (34, 2), (34, 3), (34, 4), (34, 5), (34, 6)], ([.inl 1, .inl 2], [(0, .inr (.inr (some 0))), (1, .inl (1, 0)), (2, .inl (2, 0))], ([(0, 0), ((-2147483648), 2147483647), ((-2147483648), 2147483647)], [], []), []), [([.inl 0], some (.inl (3, 0)), ([(0, 0), ((-2147483648), 2147483647), ((-2147483648), 2147483647), ((-1), 63)], [], []), [])])
def cu_110 : List qCu := []
set_option maxRecDepth 1000000 in
theorem ck_110 : chkM qH [ct_109] [] 0 1000000 ct_110 cu_110 = true := by decide +kernel
theorem co_110 {L : List Nat}  : CtOK qH QB L ct_110 := chkM_ok QB_lasts qH_w (all_cons (co_109) all_nil) (by decide +kernel) ck_110
/-- X1_passing -/
def ct_111 : qCt := (196, 6, false, [(12, 9999), (13, 9999), (34, 1), (34, 2), (34, 3), (34, 4), (34, 5), (34, 6)], ([], [(0, .inr (.inr (some 35)))], ([(0, 0)], [], []), []), [([.inl 0], some (.inl (1, 0)), ([(0, 0), (0, 31)], [], []), [])])
def cu_111 : List qCu := [(4, ([.inl 1, .inl 2], [(0, .inr (.inr (some 35))), (1, .inl (1, 0)), (2, .inl (2, 0))], ([(0, 0), (0, 31), (0, 5)], [], []), []), [(false, (0, 90)), (true, (2, 5))])]
set_option maxRecDepth 1000000 in
theorem ck_111 : chkM qH [ct_44] [] 2 1000000 ct_111 cu_111 = true := by decide +kernel
theorem co_111 {L : List Nat}  : CtOK qH QB L ct_111 := chkM_ok QB_lasts qH_w (all_cons (co_44) all_nil) (by decide +kernel) ck_111
/-- X11_pass -/
def ct_112 : qCt := (195, 7, false, [(12, 9999), (13, 9999), (34, 1), (34, 2), (34, 3), (34, 4), (34, 5), (34, 6)], ([], [(0, .inr (.inr (some 0)))], ([(0, 0)], [], []), []), [([.inl 0], some (.inl (1, 0)), ([(0, 0), (0, 31)], [], []), [])])
def cu_112 : List qCu := []
set_option maxRecDepth 1000000 in
theorem ck_112 : chkM qH [ct_111] [] 0 1000000 ct_112 cu_112 = true := by decide +kernel
theorem co_112 {L : List Nat}  : CtOK qH QB L ct_112 := chkM_ok QB_lasts qH_w (all_cons (co_111) all_nil) (by decide +kernel) ck_112
/-- X1_daysTillDull -/
def ct_113 : qCt := (199, 4, false, [(12, 9999), (13, 9999), (34, 1), (34, 2), (34, 3), (34, 4), (34, 5), (34, 6)], ([.inl 1], [(0, .inr (.inr (some 35))), (1, .inl (1, 0))], ([(0, 0), ((-2147483648), 2147483647)], [], []), []), [([.inl 0], some (.inl (2, 0)), ([(0, 0), ((-2147483648), 2147483647), ((-1), 60)], [], []), [])])
def cu_113 : List qCu := [(24, ([.inl 2], [(0, .inr (.inr (some 35))), (1, .inl (1, 0)), (2, .inl (2, 0))], ([(0, 0), (0, 4), (0, 61)], [], []), []), [(false, (0, 90)), (true, (2, 61))])]
set_option maxRecDepth 1000000 in
theorem ck_113 : chkM qH [ct_41, ct_42, ct_27] [] 2 1000000 ct_113 cu_113 = true := by decide +kernel
theorem co_113 {L : List Nat}  : CtOK qH QB L ct_113 := chkM_ok QB_lasts qH_w (all_cons (co_41) (all_cons (co_42) (all_cons (co_27) all_nil))) (by decide +kernel) ck_113
/-- X11_dull -/
def ct_114 : qCt := (198, 5, false, [(12, 9999), (13, 9999), (34, 1), (34, 2), (34, 3), (34, 4), (34, 5), (34, 6)], ([.inl 1], [(0, .inr (.inr (some 0))), (1, .inl (1, 0))], ([(0, 0), ((-2147483648), 2147483647)], [], []), []), [([.inl 0], some (.inl (2, 0)), ([(0, 0), ((-2147483648), 2147483647), ((-1), 60)], [], []), [])])
def cu_114 : List qCu := []
set_option maxRecDepth 1000000 in
theorem ck_114 : chkM qH [ct_113] [] 0 1000000 ct_114 cu_114 = true := by decide +kernel
theorem co_114 {L : List Nat}  : CtOK qH QB L ct_114 := chkM_ok QB_lasts qH_w (all_cons (co_113) all_nil) (by decide +kernel) ck_114
/-- X11_will -/
def ct_115 : qCt := (201, 5, false, [(12, 9999), (13, 9999), (34, 1), (34, 2), (34, 3), (34, 4), (34, 5), (34, 6)], ([.inl 1, .inl 2], [(0, .inr (.inr (some 0))), (1, .inl (1, 0)), (2, .inl (2, 0))], ([(0, 0), ((-2147483648), 2147483647), ((-2147483648), 2147483647)], [], []), []), [([.inl 0], some (.inl (3, 0)), ([(0, 0), ((-2147483648), 2147483647), ((-2147483648), 2147483647), ((-2147483648), 2147483647)], [], []), [])])
def cu_115 : List qCu := []
set_option maxRecDepth 1000000 in
theorem ck_115 : chkM qH [ct_41, ct_42, ct_27] [] 0 1000000 ct_115 cu_115 = true := by decide +kernel
theorem co_115 {L : List Nat}  : CtOK qH QB L ct_115 := chkM_ok QB_lasts qH_w (all_cons (co_41) (all_cons (co_42) (all_cons (co_27) all_nil))) (by decide +kernel) ck_115
/-- X0_slot -/
def ct_116 : qCt := (14, 1, false, [], ([.inl 1], [(0, .inr (.inr (some 32))), (1, .inl (1, 0))], ([(0, 0), (1, 40)], [], []), []), [([], some (.inr (.inr (some 28))), ([(0, 0), (1, 40)], [], []), [])])
def cu_116 : List qCu := []
set_option maxRecDepth 1000000 in
theorem ck_116 : chkM qH [] [] 0 1000000 ct_116 cu_116 = true := by decide +kernel
theorem co_116 {L : List Nat}  : CtOK qH QB L ct_116 := chkM_ok QB_lasts qH_w all_nil (by decide +kernel) ck_116
/-- X11_redo -/
def ct_117 : qCt := (205, 3, false, [(28, 1), (28, 2), (28, 3), (29, 9999), (32, 2)], ([], [(0, .inr (.inr (some 0)))], ([(0, 0)], [], []), []), [([.inl 0], some (.inl (1, 0)), ([(0, 0), (0, 1)], [], []), [])])
def cu_117 : List qCu := []
set_option maxRecDepth 1000000 in
theorem ck_117 : chkM qH [ct_18, ct_116] [] 0 1000000 ct_117 cu_117 = true := by decide +kernel
theorem co_117 {L : List Nat}  : CtOK qH QB L ct_117 := chkM_ok QB_lasts qH_w (all_cons (co_18) (all_cons (co_116) all_nil)) (by decide +kernel) ck_117
/-- X0_slot -/
def ct_118 : qCt := (14, 1, false, [], ([.inl 1], [(0, .inr (.inr (some 32))), (1, .inl (1, 0))], ([(0, 0), (0, 39)], [], []), []), [([], some (.inr (.inr (some 28))), ([(0, 0), (0, 39)], [], []), [])])
def cu_118 : List qCu := []
set_option maxRecDepth 1000000 in
theorem ck_118 : chkM qH [] [] 0 1000000 ct_118 cu_118 = true := by decide +kernel
theorem co_118 {L : List Nat}  : CtOK qH QB L ct_118 := chkM_ok QB_lasts qH_w all_nil (by decide +kernel) ck_118
/-- X11_undo -/
def ct_119 : qCt := (208, 3, false, [(28, 1), (28, 2), (28, 3), (29, 9999), (32, 2)], ([], [(0, .inr (.inr (some 0)))], ([(0, 0)], [], []), []), [([.inl 0], some (.inl (1, 0)), ([(0, 0), (0, 1)], [], []), [])])
def cu_119 : List qCu := []
set_option maxRecDepth 1000000 in
theorem ck_119 : chkM qH [ct_18, ct_118] [] 0 1000000 ct_119 cu_119 = true := by decide +kernel
theorem co_119 {L : List Nat}  : CtOK qH QB L ct_119 := chkM_ok QB_lasts qH_w (all_cons (co_18) (all_cons (co_118) all_nil)) (by decide +kernel) ck_119
/-- X6_put -/
def ct_120 : qCt := (214, 1, false, [(29, 9999)], ([.inl 1, .inl 2, .inl 3], [(0, .inr (.inr (some 28))), (1, .inl (1, 0)), (2, .inl (2, 0)), (3, .inl (3, 0))], ([(0, 0), ((-2147483648), 2147483647), ((-2147483648), 2147483647), ((-2147483648), 2147483647)], [], []), []), [([], none, ([(0, 0), ((-2147483648), 2147483647), ((-2147483648), 2147483647), ((-2147483648), 2147483647)], [], []), [])])
def cu_120 : List qCu := []
set_option maxRecDepth 1000000 in
theorem ck_120 : chkM qH [] [] 0 1000000 ct_120 cu_120 = true := by decide +kernel
theorem co_120 {L : List Nat}  : CtOK qH QB L ct_120 := chkM_ok QB_lasts qH_w all_nil (by decide +kernel) ck_120
/-- X10_putBack -/
def ct_121 : qCt := (215, 2, false, [(29, 9999)], ([.inl 2], [(0, .inr (.inr (some 34))), (1, .inr (.inr (some 28))), (2, .inl (1, 0))], ([(0, 0), ((-2147483648), 2147483647)], [], []), []), [([], none, ([(0, 0), ((-2147483648), 2147483647)], [], []), [])])
def cu_121 : List qCu := []
set_option maxRecDepth 1000000 in
theorem ck_121 : chkM qH [ct_120] [] 0 1000000 ct_121 cu_121 = true := by decide +kernel
theorem co_121 {L : List Nat}  : CtOK qH QB L ct_121 := chkM_ok QB_lasts qH_w (all_cons (co_120) all_nil) (by decide +kernel) ck_121
/-- X0_keep -/
def ct_122 : qCt := (213, 2, false, [(28, 1), (28, 2), (28, 3), (29, 9999), (32, 1), (32, 2), (32, 3)], ([], [(0, .inr (.inr (some 32))), (1, .inr (.inr (some 28)))], ([(0, 0)], [], []), []), [([], none, ([(0, 0)], [], []), [])])
def cu_122 : List qCu := []
set_option maxRecDepth 1000000 in
theorem ck_122 : chkM qH [ct_18, ct_116] [] 0 1000000 ct_122 cu_122 = true := by decide +kernel
theorem co_122 {L : List Nat}  : CtOK qH QB L ct_122 := chkM_ok QB_lasts qH_w (all_cons (co_18) (all_cons (co_116) all_nil)) (by decide +kernel) ck_122
/-- X11_day -/
def ct_123 : qCt := (212, 4, false, [(12, 9999), (13, 9999), (28, 1), (28, 2), (28, 3), (29, 9999), (32, 1), (32, 2), (32, 3), (34, 1), (34, 2), (34, 3), (34, 4), (34, 5), (34, 6)], ([], [(0, .inr (.inr (some 0)))], ([(0, 0)], [], []), []), [([.inl 0], some (.inl (1, 0)), ([(0, 0), ((-1), 31)], [], []), [])])
def cu_123 : List qCu := [(29, ([.inl 1, .inl 2, .inl 3], [(0, .inr (.inr (some 0))), (1, .inl (1, 0)), (2, .inl (2, 0)), (3, .inl (3, 0))], ([(0, 0), ((-2147483648), 2147483647), (0, 31), (0, 5)], [], []), []), [(false, (0, 90)), (true, (3, 5))])]
set_option maxRecDepth 1000000 in
theorem ck_123 : chkM qH [ct_122, ct_41, ct_42, ct_27, ct_121, ct_120] [] 2 1000000 ct_123 cu_123 = true := by decide +kernel
theorem co_123 {L : List Nat}  : CtOK qH QB L ct_123 := chkM_ok QB_lasts qH_w (all_cons (co_122) (all_cons (co_41) (all_cons (co_42) (all_cons (co_27) (all_cons (co_121) (all_cons (co_120) all_nil)))))) (by decide +kernel) ck_123
/-- X6_empty -/
def ct_124 : qCt := (218, 2, false, [(29, 9999)], ([.inl 1], [(0, .inr (.inr (some 28))), (1, .inl (1, 0))], ([(0, 0), ((-2147483648), 2147483647)], [], []), []), [([], none, ([(0, 0), ((-2147483648), 2147483647)], [], []), [])])
def cu_124 : List qCu := []
set_option maxRecDepth 1000000 in
theorem ck_124 : chkM qH [ct_120] [] 0 1000000 ct_124 cu_124 = true := by decide +kernel
theorem co_124 {L : List Nat}  : CtOK qH QB L ct_124 := chkM_ok QB_lasts qH_w (all_cons (co_120) all_nil) (by decide +kernel) ck_124
/-- X11_join -/
def ct_125 : qCt := (217, 4, false, [(28, 1), (28, 2), (28, 3), (29, 9999), (32, 1), (32, 2), (32, 3), (34, 1), (34, 2), (34, 3), (34, 4), (34, 5), (34, 6)], ([.inl 1, .inl 2], [(0, .inr (.inr (some 0))), (1, .inl (1, 0)), (2, .inl (2, 0))], ([(0, 0), ((-2147483648), 2147483647), ((-2147483648), 2147483647)], [], []), []), [([.inl 0], some (.inl (3, 0)), ([(0, 0), ((-2147483648), 2147483647), ((-2147483648), 2147483647), ((-2147483648), 2147483647)], [], []), [])])
def cu_125 : List qCu := []
set_option maxRecDepth 1000000 in
theorem ck_125 : chkM qH [ct_122, ct_42, ct_50, ct_121, ct_124, ct_49, ct_15] [] 0 1000000 ct_125 cu_125 = true := by decide +kernel
theorem co_125 {L : List Nat}  : CtOK qH QB L ct_125 := chkM_ok QB_lasts qH_w (all_cons (co_122) (all_cons (co_42) (all_cons (co_50) (all_cons (co_121) (all_cons (co_124) (all_cons (co_49) (all_cons (co_15) all_nil))))))) (by decide +kernel) ck_125
/-- X11_shelve -/
def ct_126 : qCt := (220, 3, false, [(28, 1), (28, 2), (28, 3), (29, 9999), (32, 1), (32, 2), (32, 3)], ([.inl 1, .inl 2], [(0, .inr (.inr (some 0))), (1, .inl (1, 0)), (2, .inl (2, 0))], ([(0, 0), ((-2147483648), 2147483647), ((-2147483648), 2147483647)], [], []), []), [([.inl 0], some (.inl (3, 0)), ([(0, 0), ((-2147483648), 2147483647), ((-2147483648), 2147483647), ((-2147483648), 2147483647)], [], []), [])])
def cu_126 : List qCu := []
set_option maxRecDepth 1000000 in
theorem ck_126 : chkM qH [ct_122, ct_41, ct_15, ct_120] [] 0 1000000 ct_126 cu_126 = true := by decide +kernel
theorem co_126 {L : List Nat}  : CtOK qH QB L ct_126 := chkM_ok QB_lasts qH_w (all_cons (co_122) (all_cons (co_41) (all_cons (co_15) (all_cons (co_120) all_nil)))) (by decide +kernel) ck_126
/-- X11_shake -/
def ct_127 : qCt := (222, 3, false, [(28, 1), (28, 2), (28, 3), (29, 9999), (32, 1), (32, 2), (32, 3)], ([.inl 1], [(0, .inr (.inr (some 0))), (1, .inl (1, 0))], ([(0, 0), ((-2147483648), 2147483647)], [], []), []), [([.inl 0], some (.inl (2, 0)), ([(0, 0), ((-2147483648), 2147483647), ((-2147483648), 98)], [], []), [])])
def cu_127 : List qCu := []
set_option maxRecDepth 1000000 in
theorem ck_127 : chkM qH [ct_122, ct_41, ct_48, ct_15, ct_120] [] 0 1000000 ct_127 cu_127 = true := by decide +kernel
theorem co_127 {L : List Nat}  : CtOK qH QB L ct_127 := chkM_ok QB_lasts qH_w (all_cons (co_122) (all_cons (co_41) (all_cons (co_48) (all_cons (co_15) (all_cons (co_120) all_nil))))) (by decide +kernel) ck_127
/-- X1_mayVote -/
def ct_128 : qCt := (225, 4, false, [], ([.inl 1, .inl 2], [(0, .inr (.inr (some 35))), (1, .inl (1, 0)), (2, .inl (2, 0))], ([(0, 0), ((-2147483648), 2147483647), ((-2147483648), 2147483647)], [], []), []), [([], some (.inl (0, 0)), ([(0, 0), ((-2147483648), 2147483647), ((-2147483648), 2147483647)], [], []), []), ([], some (.inl (0, 1)), ([(0, 0), (0, 5), ((-2147483648), 2147483647)], [], []), [])])
def cu_128 : List qCu := []
set_option maxRecDepth 1000000 in
theorem ck_128 : chkM qH [ct_78] [] 0 1000000 ct_128 cu_128 = true := by decide +kernel
theorem co_128 {L : List Nat}  : CtOK qH QB L ct_128 := chkM_ok QB_lasts qH_w (all_cons (co_78) all_nil) (by decide +kernel) ck_128
/-- X11_vote -/
def ct_129 : qCt := (224, 5, false, [(28, 1), (28, 2), (28, 3), (29, 9999), (32, 1), (32, 2), (32, 3), (34, 1), (34, 2), (34, 3), (34, 4), (34, 5), (34, 6)], ([.inl 1, .inl 2], [(0, .inr (.inr (some 0))), (1, .inl (1, 0)), (2, .inl (2, 0))], ([(0, 0), ((-2147483648), 2147483647), ((-2147483648), 2147483647)], [], []), []), [([.inl 0], some (.inl (3, 0)), ([(0, 0), ((-2147483648), 2147483647), ((-2147483648), 2147483647), ((-2147483648), 2147483647)], [], []), [])])
def cu_129 : List qCu := []
set_option maxRecDepth 1000000 in
theorem ck_129 : chkM qH [ct_122, ct_42, ct_23, ct_121, ct_128, ct_15] [] 0 1000000 ct_129 cu_129 = true := by decide +kernel
theorem co_129 {L : List Nat}  : CtOK qH QB L ct_129 := chkM_ok QB_lasts qH_w (all_cons (co_122) (all_cons (co_42) (all_cons (co_23) (all_cons (co_121) (all_cons (co_128) (all_cons (co_15) all_nil)))))) (by decide +kernel) ck_129
/-- X11_bill -/
def ct_130 : qCt := (228, 6, false, [(12, 9999), (13, 9999), (34, 1), (34, 2), (34, 3), (34, 4), (34, 5), (34, 6)], ([.inl 1, .inl 2], [(0, .inr (.inr (some 0))), (1, .inl (1, 0)), (2, .inl (2, 0))], ([(0, 0), ((-2147483648), 2147483647), ((-2147483648), 2147483647)], [], []), []), [([.inl 0], some (.inl (3, 0)), ([(0, 0), ((-2147483648), 2147483647), ((-2147483648), 2147483647), ((-2147483648), 2147483647)], [], []), [])])
def cu_130 : List qCu := []
set_option maxRecDepth 1000000 in
theorem ck_130 : chkM qH [ct_26, ct_44, ct_42, ct_41, ct_24, ct_15] [] 0 1000000 ct_130 cu_130 = true := by decide +kernel
theorem co_130 {L : List Nat}  : CtOK qH QB L ct_130 := chkM_ok QB_lasts qH_w (all_cons (co_26) (all_cons (co_44) (all_cons (co_42) (all_cons (co_41) (all_cons (co_24) (all_cons (co_15) all_nil)))))) (by decide +kernel) ck_130
/-- X1_billsHolding -/
def ct_131 : qCt := (234, 2, false, [], ([.inl 1], [(0, .inr (.inr (some 35))), (1, .inl (1, 0))], ([(0, 0), ((-2147483648), 2147483647)], [], []), []), [([.inl 0], some (.inl (2, 0)), ([(0, 0), ((-2147483648), 2147483647), ((-2147483648), 2147483647)], [], []), [])])
def cu_131 : List qCu := [(4, ([.inl 2, .inl 3], [(0, .inr (.inr (some 35))), (1, .inl (1, 0)), (2, .inl (2, 0)), (3, .inl (3, 0))], ([(0, 0), ((-2147483648), 2147483647), ((-2147483648), 2147483647), (0, 5)], [], []), []), [(false, (0, 90)), (true, (3, 5))])]
set_option maxRecDepth 1000000 in
theorem ck_131 : chkM qH [ct_15] [] 2 1000000 ct_131 cu_131 = true := by decide +kernel
theorem co_131 {L : List Nat}  : CtOK qH QB L ct_131 := chkM_ok QB_lasts qH_w (all_cons (co_15) all_nil) (by decide +kernel) ck_131
/-- X1_billsOpenTo -/
def ct_132 : qCt := (235, 5, false, [], ([.inl 1], [(0, .inr (.inr (some 35))), (1, .inl (1, 0))], ([(0, 0), ((-2147483648), 2147483647)], [], []), []), [([.inl 0], some (.inl (2, 0)), ([(0, 0), ((-2147483648), 2147483647), (0, 31)], [], []), [])])
def cu_132 : List qCu := [(4, ([.inl 2, .inl 3], [(0, .inr (.inr (some 35))), (1, .inl (1, 0)), (2, .inl (2, 0)), (3, .inl (3, 0))], ([(0, 0), ((-2147483648), 2147483647), (0, 31), (0, 5)], [], []), []), [(false, (0, 90)), (true, (3, 5))])]
set_option maxRecDepth 1000000 in
theorem ck_132 : chkM qH [ct_128] [] 2 1000000 ct_132 cu_132 = true := by decide +kernel
theorem co_132 {L : List Nat}  : CtOK qH QB L ct_132 := chkM_ok QB_lasts qH_w (all_cons (co_128) all_nil) (by decide +kernel) ck_132
/-- X11_member -/
def ct_133 : qCt := (233, 6, false, [], ([.inl 1, .inl 2], [(0, .inr (.inr (some 0))), (1, .inl (1, 0)), (2, .inl (2, 0))], ([(0, 0), ((-2147483648), 2147483647), ((-2147483648), 2147483647)], [], []), []), [([.inl 0], some (.inl (3, 0)), ([(0, 0), ((-2147483648), 2147483647), ((-2147483648), 2147483647), ((-2147483648), 2147483647)], [], []), [])])
def cu_133 : List qCu := []
set_option maxRecDepth 1000000 in
theorem ck_133 : chkM qH [ct_131, ct_132, ct_24, ct_22] [] 0 1000000 ct_133 cu_133 = true := by decide +kernel
theorem co_133 {L : List Nat}  : CtOK qH QB L ct_133 := chkM_ok QB_lasts qH_w (all_cons (co_131) (all_cons (co_132) (all_cons (co_24) (all_cons (co_22) all_nil)))) (by decide +kernel) ck_133
/-- X11_fault -/
def ct_134 : qCt := (237, 0, false, [], ([.inl 1], [(0, .inr (.inr (some 0))), (1, .inl (1, 0))], ([(0, 0), ((-2147483648), 2147483647)], [], []), []), [([.inl 0], some (.inl (2, 0)), ([(0, 0), ((-2147483648), 2147483647), ((-2147483648), 2147483647)], [], []), [])])
def cu_134 : List qCu := []
set_option maxRecDepth 1000000 in
theorem ck_134 : chkM qH [] [] 0 1000000 ct_134 cu_134 = true := by decide +kernel
theorem co_134 {L : List Nat}  : CtOK qH QB L ct_134 := chkM_ok QB_lasts qH_w all_nil (by decide +kernel) ck_134
/-- X9_tokenOf -/
def ct_135 : qCt := (285, 0, false, [], ([.inl 0], [(0, .inr (.inl (1, 0)))], ([(0, 0), (0, 18446744073709551615)], [], []), []), [([.inl 0], some (.inl (2, 0)), ([(0, 0), (0, 18446744073709551615), ((-2147483648), 2147483647)], [], []), [])])
def cu_135 : List qCu := [(9, ([.inl 0, .inl 2, .inl 3, .inl 5], [(0, .inr (.inl (2, 0))), (2, .inl (3, 0)), (3, .inr (.inl (4, 0))), (5, .inl (5, 0))], ([(0, 0), (0, 18446744073709551615), (0, 18446744073709551615), ((-2147483648), 2147483647), (0, 18446744073709551615), (0, 96)], [], []), []), [(false, (0, 90)), (true, (5, 96))])]
set_option maxRecDepth 1000000 in
theorem ck_135 : chkM qH [] [] 2 1000000 ct_135 cu_135 = true := by decide +kernel
theorem co_135 {L : List Nat}  : CtOK qH QB L ct_135 := chkM_ok QB_lasts qH_w all_nil (by decide +kernel) ck_135
