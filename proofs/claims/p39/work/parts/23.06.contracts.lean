/-- X3_weighSabotage -/
def ct_61 : qCt := (121, 1, false, [(37, 5), (37, 10), (37, 11), (38, 9999), (39, 9999), (40, 9999)], ([.inl 1, .inl 2], [(0, .inr (.inr (some 37))), (1, .inl (1, 0)), (2, .inl (2, 0))], ([(0, 0), (0, 2147483646), (1, 3)], [], []), []), [([], none, ([(0, 0), (0, 2147483646), (1, 3)], [], []), [])])
def cu_61 : List qCu := [(18, ([.inl 3, .inl 4, .inl 5], [(0, .inr (.inr (some 37))), (1, .inl (1, 0)), (2, .inl (2, 0)), (3, .inl (3, 0)), (4, .inl (4, 0)), (5, .inl (5, 0))], ([(0, 0), (0, 2147483646), (1, 3), ((-2147483648), 2147483647), (0, 2147483646), ((-1), 2)], [], []), []), [(false, (0, 90)), (false, (5, 1))]), (85, ([.inl 3, .inl 4, .inl 5], [(0, .inr (.inr (some 37))), (1, .inl (1, 0)), (2, .inl (2, 0)), (3, .inl (3, 0)), (4, .inl (4, 0)), (5, .inl (5, 0))], ([(0, 0), (0, 2147483646), (1, 3), ((-2147483648), 2147483647), (0, 2147483646), (0, 5)], [], []), []), [(false, (0, 89)), (true, (5, 5))])]
set_option maxRecDepth 1000000 in
theorem ck_61 : chkM qH [ct_60, ct_59] [] 2 1000000 ct_61 cu_61 = true := by decide +kernel
theorem co_61 {L : List Nat}  : CtOK qH QB L ct_61 := chkM_ok QB_lasts qH_w (all_cons (co_60) (all_cons (co_59) all_nil)) (by decide +kernel) ck_61
/-- X3_chooseSabotage -/
def ct_62 : qCt := (120, 5, false, [(12, 9999), (13, 9999), (34, 1), (34, 2), (34, 3), (34, 4), (34, 5), (34, 6), (37, 5), (37, 10), (37, 11), (38, 9999), (39, 9999), (40, 9999), (41, 9999), (42, 9999)], ([.inl 1], [(0, .inr (.inr (some 37))), (1, .inl (1, 0))], ([(0, 0), ((-2147483648), 2147483647)], [], []), []), [([.inl 0], some (.inl (2, 0)), ([(0, 0), ((-2147483648), 2147483647), ((-2147483648), 2147483647)], [], []), [])])
def cu_62 : List qCu := [(20, ([.inl 2, .inl 3], [(0, .inr (.inr (some 37))), (1, .inl (1, 0)), (2, .inl (2, 0)), (3, .inl (3, 0))], ([(0, 0), (1, 3), ((-2147483648), 2147483647), (0, 3)], [], []), [((125, 5), .inl (0, 0))]), [(false, (0, 90)), (true, (3, 3))]), (38, ([.inl 2, .inl 3], [(0, .inr (.inr (some 37))), (1, .inl (1, 0)), (2, .inl (2, 0)), (3, .inl (3, 0))], ([(0, 0), (1, 3), ((-2147483648), 2147483647), (0, 5)], [], []), [((125, 5), .inl (0, 0))]), [(false, (0, 89)), (true, (3, 5))]), (63, ([.inl 2, .inl 3], [(0, .inr (.inr (some 37))), (1, .inl (1, 0)), (2, .inl (2, 0)), (3, .inl (3, 0))], ([(0, 0), (1, 3), ((-2147483648), 2147483647), (0, 2147483647)], [], []), []), [(false, (0, 88)), (true, (3, 2147483647))])]
set_option maxRecDepth 1000000 in
theorem ck_62 : chkM qH [ct_58, ct_61] [] 2 1000000 ct_62 cu_62 = true := by decide +kernel
theorem co_62 {L : List Nat}  : CtOK qH QB L ct_62 := chkM_ok QB_lasts qH_w (all_cons (co_58) (all_cons (co_61) all_nil)) (by decide +kernel) ck_62
/-- X11_sabotage -/
def ct_63 : qCt := (119, 6, false, [(12, 9999), (13, 9999), (34, 1), (34, 2), (34, 3), (34, 4), (34, 5), (34, 6), (37, 5), (37, 10), (37, 11), (38, 9999), (39, 9999), (40, 9999), (41, 9999), (42, 9999)], ([.inl 1], [(0, .inr (.inr (some 0))), (1, .inl (1, 0))], ([(0, 0), ((-2147483648), 2147483647)], [], []), []), [([.inl 0], some (.inl (2, 0)), ([(0, 0), ((-2147483648), 2147483647), ((-2147483648), 2147483647)], [], []), [])])
def cu_63 : List qCu := []
set_option maxRecDepth 1000000 in
theorem ck_63 : chkM qH [ct_62] [] 0 1000000 ct_63 cu_63 = true := by decide +kernel
theorem co_63 {L : List Nat}  : CtOK qH QB L ct_63 := chkM_ok QB_lasts qH_w (all_cons (co_62) all_nil) (by decide +kernel) ck_63
/-- X1_shakesToSpoil -/
def ct_64 : qCt := (129, 5, false, [(12, 9999), (13, 9999), (34, 1), (34, 2), (34, 3), (34, 4), (34, 5), (34, 6)], ([.inl 1], [(0, .inr (.inr (some 35))), (1, .inl (1, 0))], ([(0, 0), ((-2147483648), 2147483647)], [], []), []), [([.inl 0], some (.inl (2, 0)), ([(0, 0), ((-2147483648), 2147483647), ((-1), 20)], [], []), [])])
def cu_64 : List qCu := [(2, ([.inl 2], [(0, .inr (.inr (some 35))), (1, .inl (1, 0)), (2, .inl (2, 0))], ([(0, 0), ((-2147483648), 2147483647), (0, 21)], [], []), []), [(false, (0, 90)), (true, (2, 21))])]
set_option maxRecDepth 1000000 in
theorem ck_64 : chkM qH [ct_41, ct_45] [] 2 1000000 ct_64 cu_64 = true := by decide +kernel
theorem co_64 {L : List Nat}  : CtOK qH QB L ct_64 := chkM_ok QB_lasts qH_w (all_cons (co_41) (all_cons (co_45) all_nil)) (by decide +kernel) ck_64
/-- X11_spoil -/
def ct_65 : qCt := (128, 6, false, [(12, 9999), (13, 9999), (34, 1), (34, 2), (34, 3), (34, 4), (34, 5), (34, 6)], ([.inl 1], [(0, .inr (.inr (some 0))), (1, .inl (1, 0))], ([(0, 0), ((-2147483648), 2147483647)], [], []), []), [([.inl 0], some (.inl (2, 0)), ([(0, 0), ((-2147483648), 2147483647), ((-1), 20)], [], []), [])])
def cu_65 : List qCu := []
set_option maxRecDepth 1000000 in
theorem ck_65 : chkM qH [ct_64] [] 0 1000000 ct_65 cu_65 = true := by decide +kernel
theorem co_65 {L : List Nat}  : CtOK qH QB L ct_65 := chkM_ok QB_lasts qH_w (all_cons (co_64) all_nil) (by decide +kernel) ck_65
/-- J7_fill_53178 -/
def ct_66 : qCt := (124, 0, false, [(44, 9999)], ([.inl 1], [(0, .inr (.inr (some 44))), (1, .inl (1, 0))], ([(0, 0), ((-2147483648), 2147483647)], [], []), []), [([], none, ([(0, 0), ((-2147483648), 2147483647)], [], []), [])])
def cu_66 : List qCu := [(5, ([.inl 2], [(0, .inr (.inr (some 44))), (1, .inl (1, 0)), (2, .inl (2, 0)), (3, .inl (0, 1000))], ([(0, 0), ((-2147483648), 2147483647), (0, 1000)], [], []), []), [(false, (0, 90)), (true, (2, 1000))])]
set_option maxRecDepth 1000000 in
theorem ck_66 : chkM qH [] [] 2 1000000 ct_66 cu_66 = true := by decide +kernel
theorem co_66 {L : List Nat}  : CtOK qH QB L ct_66 := chkM_ok QB_lasts qH_w all_nil (by decide +kernel) ck_66
/-- X10_copyFrom -/
def ct_67 : qCt := (137, 0, false, [(34, 1), (34, 2), (34, 3), (34, 4), (34, 5), (34, 6)], ([], [(0, .inr (.inr (some 34))), (1, .inr (.inr (some 34)))], ([(0, 0)], [], []), []), [([], none, ([(0, 0)], [], []), [])])
def cu_67 : List qCu := []
set_option maxRecDepth 1000000 in
theorem ck_67 : chkM qH [] [] 0 1000000 ct_67 cu_67 = true := by decide +kernel
theorem co_67 {L : List Nat}  : CtOK qH QB L ct_67 := chkM_ok QB_lasts qH_w all_nil (by decide +kernel) ck_67
/-- X3_extendQueue -/
def ct_68 : qCt := (136, 5, false, [(12, 9999), (13, 9999), (34, 1), (34, 2), (34, 3), (34, 4), (34, 5), (34, 6), (37, 5), (37, 10), (38, 9999), (44, 9999)], ([.inl 1, .inl 3], [(0, .inr (.inr (some 37))), (1, .inl (1, 0)), (2, .inl (0, 6)), (3, .inl (2, 0))], ([(0, 0), ((-2147483648), 2147483647), ((-2147483648), 2147483647)], [], []), []), [([], none, ([(0, 0), ((-2147483648), 2147483647), ((-2147483648), 2147483647)], [], []), [])])
def cu_68 : List qCu := []
set_option maxRecDepth 1000000 in
theorem ck_68 : chkM qH [ct_67, ct_27] [] 2 1000000 ct_68 cu_68 = true := by decide +kernel
theorem co_68 {L : List Nat}  : CtOK qH QB L ct_68 := chkM_ok QB_lasts qH_w (all_cons (co_67) (all_cons (co_27) all_nil)) (by decide +kernel) ck_68
/-- X3_extendQueue -/
def ct_69 : qCt := (136, 6, false, [(12, 9999), (13, 9999), (34, 1), (34, 2), (34, 3), (34, 4), (34, 5), (34, 6), (37, 5), (37, 10), (38, 9999), (39, 9999), (44, 9999)], ([.inl 1, .inl 3], [(0, .inr (.inr (some 37))), (1, .inl (1, 0)), (2, .inl (0, 5)), (3, .inl (2, 0))], ([(0, 0), ((-2147483648), 2147483647), ((-2147483648), 2147483647)], [], []), []), [([], none, ([(0, 0), ((-2147483648), 2147483647), ((-2147483648), 2147483647)], [], []), [])])
def cu_69 : List qCu := [(30, ([.inl 5], [(0, .inr (.inr (some 37))), (1, .inl (1, 0)), (2, .inl (0, 5)), (3, .inl (2, 0)), (4, .inr (.inr (some 34))), (5, .inl (3, 0))], ([(0, 0), ((-2147483648), 2147483647), ((-2147483648), 2147483647), (0, 6)], [], []), []), [(false, (0, 90)), (true, (3, 6))])]
set_option maxRecDepth 1000000 in
theorem ck_69 : chkM qH [ct_67, ct_27, ct_23, ct_68] [] 2 1000000 ct_69 cu_69 = true := by decide +kernel
theorem co_69 {L : List Nat}  : CtOK qH QB L ct_69 := chkM_ok QB_lasts qH_w (all_cons (co_67) (all_cons (co_27) (all_cons (co_23) (all_cons (co_68) all_nil)))) (by decide +kernel) ck_69
/-- X3_extendQueue -/
def ct_70 : qCt := (136, 7, false, [(12, 9999), (13, 9999), (34, 1), (34, 2), (34, 3), (34, 4), (34, 5), (34, 6), (37, 5), (37, 10), (38, 9999), (39, 9999), (44, 9999)], ([.inl 1, .inl 3], [(0, .inr (.inr (some 37))), (1, .inl (1, 0)), (2, .inl (0, 4)), (3, .inl (2, 0))], ([(0, 0), ((-2147483648), 2147483647), ((-2147483648), 2147483647)], [], []), []), [([], none, ([(0, 0), ((-2147483648), 2147483647), ((-2147483648), 2147483647)], [], []), [])])
def cu_70 : List qCu := [(30, ([.inl 5], [(0, .inr (.inr (some 37))), (1, .inl (1, 0)), (2, .inl (0, 4)), (3, .inl (2, 0)), (4, .inr (.inr (some 34))), (5, .inl (3, 0))], ([(0, 0), ((-2147483648), 2147483647), ((-2147483648), 2147483647), (0, 6)], [], []), []), [(false, (0, 90)), (true, (3, 6))])]
set_option maxRecDepth 1000000 in
theorem ck_70 : chkM qH [ct_67, ct_27, ct_23, ct_69] [] 2 1000000 ct_70 cu_70 = true := by decide +kernel
theorem co_70 {L : List Nat}  : CtOK qH QB L ct_70 := chkM_ok QB_lasts qH_w (all_cons (co_67) (all_cons (co_27) (all_cons (co_23) (all_cons (co_69) all_nil)))) (by decide +kernel) ck_70
/-- X3_extendQueue -/
def ct_71 : qCt := (136, 8, false, [(12, 9999), (13, 9999), (34, 1), (34, 2), (34, 3), (34, 4), (34, 5), (34, 6), (37, 5), (37, 10), (38, 9999), (39, 9999), (44, 9999)], ([.inl 1, .inl 3], [(0, .inr (.inr (some 37))), (1, .inl (1, 0)), (2, .inl (0, 3)), (3, .inl (2, 0))], ([(0, 0), ((-2147483648), 2147483647), ((-2147483648), 2147483647)], [], []), []), [([], none, ([(0, 0), ((-2147483648), 2147483647), ((-2147483648), 2147483647)], [], []), [])])
def cu_71 : List qCu := [(30, ([.inl 5], [(0, .inr (.inr (some 37))), (1, .inl (1, 0)), (2, .inl (0, 3)), (3, .inl (2, 0)), (4, .inr (.inr (some 34))), (5, .inl (3, 0))], ([(0, 0), ((-2147483648), 2147483647), ((-2147483648), 2147483647), (0, 6)], [], []), []), [(false, (0, 90)), (true, (3, 6))])]
set_option maxRecDepth 1000000 in
theorem ck_71 : chkM qH [ct_67, ct_27, ct_23, ct_70] [] 2 1000000 ct_71 cu_71 = true := by decide +kernel
theorem co_71 {L : List Nat}  : CtOK qH QB L ct_71 := chkM_ok QB_lasts qH_w (all_cons (co_67) (all_cons (co_27) (all_cons (co_23) (all_cons (co_70) all_nil)))) (by decide +kernel) ck_71
/-- X3_extendQueue -/
def ct_72 : qCt := (136, 9, false, [(12, 9999), (13, 9999), (34, 1), (34, 2), (34, 3), (34, 4), (34, 5), (34, 6), (37, 5), (37, 10), (38, 9999), (39, 9999), (44, 9999)], ([.inl 1, .inl 3], [(0, .inr (.inr (some 37))), (1, .inl (1, 0)), (2, .inl (0, 2)), (3, .inl (2, 0))], ([(0, 0), ((-2147483648), 2147483647), ((-2147483648), 2147483647)], [], []), []), [([], none, ([(0, 0), ((-2147483648), 2147483647), ((-2147483648), 2147483647)], [], []), [])])
def cu_72 : List qCu := [(30, ([.inl 5], [(0, .inr (.inr (some 37))), (1, .inl (1, 0)), (2, .inl (0, 2)), (3, .inl (2, 0)), (4, .inr (.inr (some 34))), (5, .inl (3, 0))], ([(0, 0), ((-2147483648), 2147483647), ((-2147483648), 2147483647), (0, 6)], [], []), []), [(false, (0, 90)), (true, (3, 6))])]
set_option maxRecDepth 1000000 in
theorem ck_72 : chkM qH [ct_67, ct_27, ct_23, ct_71] [] 2 1000000 ct_72 cu_72 = true := by decide +kernel
theorem co_72 {L : List Nat}  : CtOK qH QB L ct_72 := chkM_ok QB_lasts qH_w (all_cons (co_67) (all_cons (co_27) (all_cons (co_23) (all_cons (co_71) all_nil)))) (by decide +kernel) ck_72
/-- X3_extendQueue -/
def ct_73 : qCt := (136, 10, false, [(12, 9999), (13, 9999), (34, 1), (34, 2), (34, 3), (34, 4), (34, 5), (34, 6), (37, 5), (37, 10), (38, 9999), (39, 9999), (44, 9999)], ([.inl 1, .inl 3], [(0, .inr (.inr (some 37))), (1, .inl (1, 0)), (2, .inl (0, 1)), (3, .inl (2, 0))], ([(0, 0), ((-2147483648), 2147483647), ((-2147483648), 2147483647)], [], []), []), [([], none, ([(0, 0), ((-2147483648), 2147483647), ((-2147483648), 2147483647)], [], []), [])])
def cu_73 : List qCu := [(30, ([.inl 5], [(0, .inr (.inr (some 37))), (1, .inl (1, 0)), (2, .inl (0, 1)), (3, .inl (2, 0)), (4, .inr (.inr (some 34))), (5, .inl (3, 0))], ([(0, 0), ((-2147483648), 2147483647), ((-2147483648), 2147483647), (0, 6)], [], []), []), [(false, (0, 90)), (true, (3, 6))])]
set_option maxRecDepth 1000000 in
theorem ck_73 : chkM qH [ct_67, ct_27, ct_23, ct_72] [] 2 1000000 ct_73 cu_73 = true := by decide +kernel
theorem co_73 {L : List Nat}  : CtOK qH QB L ct_73 := chkM_ok QB_lasts qH_w (all_cons (co_67) (all_cons (co_27) (all_cons (co_23) (all_cons (co_72) all_nil)))) (by decide +kernel) ck_73
/-- X3_extendQueue -/
def ct_74 : qCt := (136, 11, false, [(12, 9999), (13, 9999), (34, 1), (34, 2), (34, 3), (34, 4), (34, 5), (34, 6), (37, 5), (37, 10), (38, 9999), (39, 9999), (44, 9999)], ([.inl 1, .inl 3], [(0, .inr (.inr (some 37))), (1, .inl (1, 0)), (2, .inl (0, 0)), (3, .inl (2, 0))], ([(0, 0), ((-2147483648), 2147483647), ((-2147483648), 2147483647)], [], []), []), [([], none, ([(0, 0), ((-2147483648), 2147483647), ((-2147483648), 2147483647)], [], []), [])])
def cu_74 : List qCu := [(30, ([.inl 5], [(0, .inr (.inr (some 37))), (1, .inl (1, 0)), (2, .inl (0, 0)), (3, .inl (2, 0)), (4, .inr (.inr (some 34))), (5, .inl (3, 0))], ([(0, 0), ((-2147483648), 2147483647), ((-2147483648), 2147483647), (0, 6)], [], []), []), [(false, (0, 90)), (true, (3, 6))])]
set_option maxRecDepth 1000000 in
theorem ck_74 : chkM qH [ct_67, ct_27, ct_23, ct_73] [] 2 1000000 ct_74 cu_74 = true := by decide +kernel
theorem co_74 {L : List Nat}  : CtOK qH QB L ct_74 := chkM_ok QB_lasts qH_w (all_cons (co_67) (all_cons (co_27) (all_cons (co_23) (all_cons (co_73) all_nil)))) (by decide +kernel) ck_74
/-- X11_queue -/
def ct_75 : qCt := (134, 13, false, [(12, 9999), (13, 9999), (34, 1), (34, 2), (34, 3), (34, 4), (34, 5), (34, 6), (37, 5), (37, 10), (38, 9999), (39, 9999), (44, 9999)], ([.inl 1], [(0, .inr (.inr (some 0))), (1, .inl (1, 0))], ([(0, 0), ((-2147483648), 2147483647)], [], []), []), [([.inl 0], some (.inl (2, 0)), ([(0, 0), ((-2147483648), 2147483647), ((-2147483648), 2147483647)], [], []), [])])
def cu_75 : List qCu := []
set_option maxRecDepth 1000000 in
theorem ck_75 : chkM qH [ct_41, ct_66, ct_42, ct_15, ct_74] [] 0 1000000 ct_75 cu_75 = true := by decide +kernel
theorem co_75 {L : List Nat}  : CtOK qH QB L ct_75 := chkM_ok QB_lasts qH_w (all_cons (co_41) (all_cons (co_66) (all_cons (co_42) (all_cons (co_15) (all_cons (co_74) all_nil))))) (by decide +kernel) ck_75
/-- X1_ripestDays -/
def ct_76 : qCt := (143, 5, false, [(12, 9999), (13, 9999), (34, 1), (34, 2), (34, 3), (34, 4), (34, 5), (34, 6)], ([.inl 1, .inl 2], [(0, .inr (.inr (some 35))), (1, .inl (1, 0)), (2, .inl (2, 0))], ([(0, 0), ((-2147483648), 2147483647), ((-2147483648), 2147483647)], [], []), []), [([.inl 0], some (.inl (3, 0)), ([(0, 0), ((-2147483648), 2147483647), ((-2147483648), 2147483647), ((-1), 2147483647)], [], []), [])])
def cu_76 : List qCu := [(48, ([.inl 3, .inl 4, .inl 5, .inl 6], [(0, .inr (.inr (some 35))), (1, .inl (1, 0)), (2, .inl (2, 0)), (3, .inl (3, 0)), (4, .inl (4, 0)), (5, .inl (5, 0)), (6, .inl (6, 0))], ([(0, 0), ((-2147483648), 2147483647), ((-2147483648), 2147483647), ((-1), 2147483647), ((-1), 2147483647), (0, 1), (0, 2147483647)], [], []), []), [(false, (0, 90)), (true, (6, 2147483647))])]
set_option maxRecDepth 1000000 in
theorem ck_76 : chkM qH [ct_41, ct_15, ct_43] [] 2 1000000 ct_76 cu_76 = true := by decide +kernel
theorem co_76 {L : List Nat}  : CtOK qH QB L ct_76 := chkM_ok QB_lasts qH_w (all_cons (co_41) (all_cons (co_15) (all_cons (co_43) all_nil))) (by decide +kernel) ck_76
/-- X11_ripe -/
def ct_77 : qCt := (142, 6, false, [(12, 9999), (13, 9999), (34, 1), (34, 2), (34, 3), (34, 4), (34, 5), (34, 6)], ([.inl 1, .inl 2, .inl 3], [(0, .inr (.inr (some 0))), (1, .inl (1, 0)), (2, .inl (2, 0)), (3, .inl (3, 0))], ([(0, 0), ((-2147483648), 2147483647), ((-2147483648), 2147483647), ((-2147483648), 2147483647)], [], []), []), [([.inl 0], some (.inl (4, 0)), ([(0, 0), ((-2147483648), 2147483647), ((-2147483648), 2147483647), ((-2147483648), 2147483647), ((-2147483648), 2147483647)], [], []), [])])
def cu_77 : List qCu := []
set_option maxRecDepth 1000000 in
theorem ck_77 : chkM qH [ct_76, ct_43] [] 0 1000000 ct_77 cu_77 = true := by decide +kernel
theorem co_77 {L : List Nat}  : CtOK qH QB L ct_77 := chkM_ok QB_lasts qH_w (all_cons (co_76) (all_cons (co_43) all_nil)) (by decide +kernel) ck_77
/-- X1_votersFor -/
def ct_78 : qCt := (161, 3, false, [], ([.inl 1], [(0, .inr (.inr (some 35))), (1, .inl (1, 0))], ([(0, 0), ((-2147483648), 2147483647)], [], []), []), [([.inl 0], some (.inl (2, 0)), ([(0, 0), ((-2147483648), 2147483647), (0, 63)], [], []), [])])
def cu_78 : List qCu := []
set_option maxRecDepth 1000000 in
theorem ck_78 : chkM qH [ct_41, ct_15] [] 0 1000000 ct_78 cu_78 = true := by decide +kernel
theorem co_78 {L : List Nat}  : CtOK qH QB L ct_78 := chkM_ok QB_lasts qH_w (all_cons (co_41) (all_cons (co_15) all_nil)) (by decide +kernel) ck_78
/-- X2_mayAllVote -/
def ct_79 : qCt := (160, 4, false, [], ([.inl 1, .inl 2, .inl 3], [(0, .inr (.inr (some 36))), (1, .inl (1, 0)), (2, .inl (2, 0)), (3, .inl (3, 0))], ([(0, 0), ((-2147483648), 2147483647), ((-2147483648), 2147483647), ((-2147483648), 2147483647)], [], []), []), [([], some (.inl (0, 0)), ([(0, 0), ((-2147483648), 2147483647), ((-2147483648), 2147483647), ((-2147483648), 2147483647)], [], []), []), ([], some (.inl (0, 1)), ([(0, 0), (0, 4), (0, 63), (0, 2147483647)], [], []), [])])
def cu_79 : List qCu := []
set_option maxRecDepth 1000000 in
theorem ck_79 : chkM qH [ct_78] [] 0 1000000 ct_79 cu_79 = true := by decide +kernel
theorem co_79 {L : List Nat}  : CtOK qH QB L ct_79 := chkM_ok QB_lasts qH_w (all_cons (co_78) all_nil) (by decide +kernel) ck_79
/-- X2_raise -/
def ct_80 : qCt := (158, 0, false, [], ([.inl 0, .inl 2], [(0, .inr (.inl (1, 0))), (2, .inl (2, 0))], ([(0, 0), (0, 18446744073709551615), ((-2147483648), 2147483647)], [], []), []), [([.inl 0], some (.inr (.inl (3, 0))), ([(0, 0), (0, 18446744073709551615), ((-2147483648), 2147483647), (0, 18446744073709551615)], [], []), [])])
def cu_80 : List qCu := [(5, ([.inl 0, .inl 3, .inl 5], [(0, .inr (.inl (3, 0))), (2, .inl (2, 0)), (3, .inr (.inl (4, 0))), (5, .inl (5, 0))], ([(0, 0), (0, 18446744073709551615), ((-2147483648), 2147483647), (0, 18446744073709551615), (0, 18446744073709551615), (0, 2147483647)], [], []), []), [(false, (0, 90)), (true, (5, 2147483647))])]
set_option maxRecDepth 1000000 in
theorem ck_80 : chkM qH [] [] 2 1000000 ct_80 cu_80 = true := by decide +kernel
theorem co_80 {L : List Nat}  : CtOK qH QB L ct_80 := chkM_ok QB_lasts qH_w all_nil (by decide +kernel) ck_80
/-- X2_weighMean -/
def ct_81 : qCt := (156, 5, false, [(12, 9999), (13, 9999), (34, 1), (34, 2), (34, 3), (34, 4), (34, 5), (34, 6), (36, 4), (36, 5)], ([.inl 1, .inl 2], [(0, .inr (.inr (some 36))), (1, .inl (1, 0)), (2, .inl (2, 0))], ([(0, 0), ((-2147483648), 2147483647), ((-2147483648), 2147483647)], [], []), []), [([.inl 0], some (.inl (3, 0)), ([(0, 0), ((-2147483648), 2147483647), ((-2147483648), 2147483647), (0, 1)], [], []), [])])
def cu_81 : List qCu := [(33, ([.inl 3], [(0, .inr (.inr (some 36))), (1, .inl (1, 0)), (2, .inl (2, 0)), (3, .inl (3, 0))], ([(0, 0), (0, 4), (0, 63), (0, 64)], [], []), []), [(false, (0, 90)), (true, (3, 64))])]
set_option maxRecDepth 1000000 in
theorem ck_81 : chkM qH [ct_79, ct_43, ct_80] [] 2 1000000 ct_81 cu_81 = true := by decide +kernel
theorem co_81 {L : List Nat}  : CtOK qH QB L ct_81 := chkM_ok QB_lasts qH_w (all_cons (co_79) (all_cons (co_43) (all_cons (co_80) all_nil))) (by decide +kernel) ck_81
/-- X2_commonDivisor -/
def ct_82 : qCt := (155, 0, false, [], ([.inl 0, .inl 2], [(0, .inr (.inl (1, 0))), (2, .inr (.inl (2, 0)))], ([(0, 0), (0, 18446744073709551615), (0, 18446744073709551615)], [], []), []), [([.inl 0], some (.inr (.inl (3, 0))), ([(0, 0), (0, 18446744073709551615), (0, 18446744073709551615), (0, 18446744073709551615)], [], []), [])])
def cu_82 : List qCu := [(3, ([.inl 0, .inl 2, .inl 4], [(0, .inr (.inl (3, 0))), (2, .inr (.inl (4, 0))), (4, .inl (5, 0))], ([(0, 0), (0, 18446744073709551615), (0, 18446744073709551615), (0, 18446744073709551615), (0, 18446744073709551615), (0, 100)], [], []), []), [(false, (0, 90)), (true, (5, 100))])]
set_option maxRecDepth 1000000 in
theorem ck_82 : chkM qH [] [] 2 1000000 ct_82 cu_82 = true := by decide +kernel
theorem co_82 {L : List Nat}  : CtOK qH QB L ct_82 := chkM_ok QB_lasts qH_w all_nil (by decide +kernel) ck_82
/-- X11_mean -/
def ct_83 : qCt := (153, 6, false, [(12, 9999), (13, 9999), (34, 1), (34, 2), (34, 3), (34, 4), (34, 5), (34, 6), (36, 4), (36, 5)], ([.inl 1, .inl 2, .inl 3], [(0, .inr (.inr (some 0))), (1, .inl (1, 0)), (2, .inl (2, 0)), (3, .inl (3, 0))], ([(0, 0), ((-2147483648), 2147483647), ((-2147483648), 2147483647), ((-2147483648), 2147483647)], [], []), []), [([.inl 0], some (.inl (4, 0)), ([(0, 0), ((-2147483648), 2147483647), ((-2147483648), 2147483647), ((-2147483648), 2147483647), ((-2147483648), 2147483647)], [], []), [])])
def cu_83 : List qCu := []
set_option maxRecDepth 1000000 in
theorem ck_83 : chkM qH [ct_81, ct_82] [] 0 1000000 ct_83 cu_83 = true := by decide +kernel
theorem co_83 {L : List Nat}  : CtOK qH QB L ct_83 := chkM_ok QB_lasts qH_w (all_cons (co_81) (all_cons (co_82) all_nil)) (by decide +kernel) ck_83
/-- X2_weighOdds -/
def ct_84 : qCt := (164, 5, false, [(12, 9999), (13, 9999), (34, 1), (34, 2), (34, 3), (34, 4), (34, 5), (34, 6), (36, 4), (36, 5)], ([.inl 1, .inl 2], [(0, .inr (.inr (some 36))), (1, .inl (1, 0)), (2, .inl (2, 0))], ([(0, 0), ((-2147483648), 2147483647), ((-2147483648), 2147483647)], [], []), []), [([.inl 0], some (.inl (3, 0)), ([(0, 0), ((-2147483648), 2147483647), ((-2147483648), 2147483647), (0, 1)], [], []), [])])
def cu_84 : List qCu := [(33, ([.inl 3], [(0, .inr (.inr (some 36))), (1, .inl (1, 0)), (2, .inl (2, 0)), (3, .inl (3, 0))], ([(0, 0), (0, 4), (0, 63), (0, 64)], [], []), []), [(false, (0, 90)), (true, (3, 64))])]
set_option maxRecDepth 1000000 in
theorem ck_84 : chkM qH [ct_41, ct_79, ct_43, ct_80] [] 2 1000000 ct_84 cu_84 = true := by decide +kernel
theorem co_84 {L : List Nat}  : CtOK qH QB L ct_84 := chkM_ok QB_lasts qH_w (all_cons (co_41) (all_cons (co_79) (all_cons (co_43) (all_cons (co_80) all_nil)))) (by decide +kernel) ck_84
/-- X11_odds -/
def ct_85 : qCt := (163, 6, false, [(12, 9999), (13, 9999), (34, 1), (34, 2), (34, 3), (34, 4), (34, 5), (34, 6), (36, 4), (36, 5)], ([.inl 1, .inl 2, .inl 3], [(0, .inr (.inr (some 0))), (1, .inl (1, 0)), (2, .inl (2, 0)), (3, .inl (3, 0))], ([(0, 0), ((-2147483648), 2147483647), ((-2147483648), 2147483647), ((-2147483648), 2147483647)], [], []), []), [([.inl 0], some (.inl (4, 0)), ([(0, 0), ((-2147483648), 2147483647), ((-2147483648), 2147483647), ((-2147483648), 2147483647), ((-2147483648), 2147483647)], [], []), [])])
def cu_85 : List qCu := []
set_option maxRecDepth 1000000 in
theorem ck_85 : chkM qH [ct_84, ct_82] [] 0 1000000 ct_85 cu_85 = true := by decide +kernel
theorem co_85 {L : List Nat}  : CtOK qH QB L ct_85 := chkM_ok QB_lasts qH_w (all_cons (co_84) (all_cons (co_82) all_nil)) (by decide +kernel) ck_85
/-- X1_passingWithNeed -/
def ct_86 : qCt := (167, 5, false, [(12, 9999), (13, 9999), (34, 1), (34, 2), (34, 3), (34, 4), (34, 5), (34, 6)], ([.inl 1], [(0, .inr (.inr (some 35))), (1, .inl (1, 0))], ([(0, 0), ((-2147483648), 2147483647)], [], []), []), [([.inl 0], some (.inl (2, 0)), ([(0, 0), ((-2147483648), 2147483647), ((-2147483648), 2147483647)], [], []), [])])
def cu_86 : List qCu := [(4, ([.inl 2, .inl 3], [(0, .inr (.inr (some 35))), (1, .inl (1, 0)), (2, .inl (2, 0)), (3, .inl (3, 0))], ([(0, 0), ((-2147483648), 2147483647), ((-2147483648), 2147483647), (0, 5)], [], []), []), [(false, (0, 90)), (true, (3, 5))])]
set_option maxRecDepth 1000000 in
theorem ck_86 : chkM qH [ct_41, ct_43] [] 2 1000000 ct_86 cu_86 = true := by decide +kernel
theorem co_86 {L : List Nat}  : CtOK qH QB L ct_86 := chkM_ok QB_lasts qH_w (all_cons (co_41) (all_cons (co_43) all_nil)) (by decide +kernel) ck_86
/-- X11_law -/
def ct_87 : qCt := (166, 6, false, [(12, 9999), (13, 9999), (34, 1), (34, 2), (34, 3), (34, 4), (34, 5), (34, 6)], ([.inl 1], [(0, .inr (.inr (some 0))), (1, .inl (1, 0))], ([(0, 0), ((-2147483648), 2147483647)], [], []), []), [([.inl 0], some (.inl (2, 0)), ([(0, 0), ((-2147483648), 2147483647), ((-2147483648), 2147483647)], [], []), [])])
def cu_87 : List qCu := []
set_option maxRecDepth 1000000 in
theorem ck_87 : chkM qH [ct_86] [] 0 1000000 ct_87 cu_87 = true := by decide +kernel
theorem co_87 {L : List Nat}  : CtOK qH QB L ct_87 := chkM_ok QB_lasts qH_w (all_cons (co_86) all_nil) (by decide +kernel) ck_87
/-- X11_joint -/
def ct_88 : qCt := (169, 5, false, [(12, 9999), (13, 9999), (34, 1), (34, 2), (34, 3), (34, 4), (34, 5), (34, 6)], ([.inl 1, .inl 2], [(0, .inr (.inr (some 0))), (1, .inl (1, 0)), (2, .inl (2, 0))], ([(0, 0), ((-2147483648), 2147483647), ((-2147483648), 2147483647)], [], []), []), [([.inl 0], some (.inl (3, 0)), ([(0, 0), ((-2147483648), 2147483647), ((-2147483648), 2147483647), ((-2147483648), 2147483647)], [], []), [])])
def cu_88 : List qCu := []
set_option maxRecDepth 1000000 in
theorem ck_88 : chkM qH [ct_49, ct_51] [] 0 1000000 ct_88 cu_88 = true := by decide +kernel
theorem co_88 {L : List Nat}  : CtOK qH QB L ct_88 := chkM_ok QB_lasts qH_w (all_cons (co_49) (all_cons (co_51) all_nil)) (by decide +kernel) ck_88
/-- X1_bestShelf -/
def ct_89 : qCt := (172, 4, false, [(12, 9999), (13, 9999), (34, 1), (34, 2), (34, 3), (34, 4), (34, 5), (34, 6)], ([.inl 1], [(0, .inr (.inr (some 35))), (1, .inl (1, 0))], ([(0, 0), ((-2147483648), 2147483647)], [], []), []), [([.inl 0], some (.inl (2, 0)), ([(0, 0), ((-2147483648), 2147483647), ((-1), 9)], [], []), [])])
def cu_89 : List qCu := [(7, ([.inl 2, .inl 3, .inl 4], [(0, .inr (.inr (some 35))), (1, .inl (1, 0)), (2, .inl (2, 0)), (3, .inl (3, 0)), (4, .inl (4, 0))], ([(0, 0), ((-2147483648), 2147483647), ((-1), 9), ((-2147483648), 2147483647), (0, 10)], [], []), []), [(false, (0, 90)), (true, (4, 10))])]
set_option maxRecDepth 1000000 in
theorem ck_89 : chkM qH [ct_41, ct_42, ct_27] [] 2 1000000 ct_89 cu_89 = true := by decide +kernel
theorem co_89 {L : List Nat}  : CtOK qH QB L ct_89 := chkM_ok QB_lasts qH_w (all_cons (co_41) (all_cons (co_42) (all_cons (co_27) all_nil))) (by decide +kernel) ck_89
/-- X11_best -/
def ct_90 : qCt := (171, 5, false, [(12, 9999), (13, 9999), (34, 1), (34, 2), (34, 3), (34, 4), (34, 5), (34, 6)], ([.inl 1], [(0, .inr (.inr (some 0))), (1, .inl (1, 0))], ([(0, 0), ((-2147483648), 2147483647)], [], []), []), [([.inl 0], some (.inl (2, 0)), ([(0, 0), ((-2147483648), 2147483647), ((-1), 9)], [], []), [])])
def cu_90 : List qCu := []
set_option maxRecDepth 1000000 in
theorem ck_90 : chkM qH [ct_89] [] 0 1000000 ct_90 cu_90 = true := by decide +kernel
theorem co_90 {L : List Nat}  : CtOK qH QB L ct_90 := chkM_ok QB_lasts qH_w (all_cons (co_89) all_nil) (by decide +kernel) ck_90
/-- X2_factorial -/
def ct_91 : qCt := (178, 0, false, [], ([.inl 0], [(0, .inl (1, 0))], ([(0, 0), (1, 6)], [], []), []), [([.inl 0], some (.inr (.inl (2, 0))), ([(0, 0), (1, 6), (0, 18446744073709551615)], [], []), [])])
def cu_91 : List qCu := [(4, ([.inl 1, .inl 3], [(0, .inl (1, 0)), (1, .inr (.inl (2, 0))), (3, .inl (3, 0))], ([(0, 0), (1, 6), (0, 18446744073709551615), (2, 7)], [], []), []), [(false, (0, 90)), (true, (3, 7))])]
set_option maxRecDepth 1000000 in
theorem ck_91 : chkM qH [] [] 2 1000000 ct_91 cu_91 = true := by decide +kernel
theorem co_91 {L : List Nat}  : CtOK qH QB L ct_91 := chkM_ok QB_lasts qH_w all_nil (by decide +kernel) ck_91
/-- X2_passesFromEmpty -/
def ct_92 : qCt := (179, 4, false, [(12, 9999), (13, 9999), (34, 1), (34, 2), (34, 3), (34, 4), (34, 5), (34, 6)], ([.inl 1, .inl 2], [(0, .inr (.inr (some 36))), (1, .inl (1, 0)), (2, .inl (2, 0))], ([(0, 0), ((-2147483648), 2147483647), ((-2147483648), 2147483647)], [], []), []), [([.inl 0], some (.inl (3, 0)), ([(0, 0), ((-2147483648), 2147483647), ((-2147483648), 2147483647), (0, 1)], [], []), [])])
def cu_92 : List qCu := []
set_option maxRecDepth 1000000 in
theorem ck_92 : chkM qH [ct_23, ct_27, ct_15] [] 0 1000000 ct_92 cu_92 = true := by decide +kernel
theorem co_92 {L : List Nat}  : CtOK qH QB L ct_92 := chkM_ok QB_lasts qH_w (all_cons (co_23) (all_cons (co_27) (all_cons (co_15) all_nil))) (by decide +kernel) ck_92
/-- X2_factorial -/
def ct_93 : qCt := (178, 0, false, [], ([.inl 0], [(0, .inl (1, 0))], ([(0, 0), (0, 63)], [], []), []), [([.inl 0], some (.inr (.inl (2, 0))), ([(0, 0), (0, 63), (0, 18446744073709551615)], [], []), [])])
def cu_93 : List qCu := [(4, ([.inl 1, .inl 3], [(0, .inl (1, 0)), (1, .inr (.inl (2, 0))), (3, .inl (3, 0))], ([(0, 0), (0, 63), (0, 18446744073709551615), (2, 64)], [], []), []), [(false, (0, 90)), (true, (3, 64))])]
set_option maxRecDepth 1000000 in
theorem ck_93 : chkM qH [] [] 2 1000000 ct_93 cu_93 = true := by decide +kernel
theorem co_93 {L : List Nat}  : CtOK qH QB L ct_93 := chkM_ok QB_lasts qH_w all_nil (by decide +kernel) ck_93
/-- X2_factorial -/
def ct_94 : qCt := (178, 0, false, [], ([.inl 0], [(0, .inl (1, 0))], ([(0, 0), ((-63), 5)], [], []), []), [([.inl 0], some (.inr (.inl (2, 0))), ([(0, 0), ((-63), 5), (0, 18446744073709551615)], [], []), [])])
def cu_94 : List qCu := [(4, ([.inl 1, .inl 3], [(0, .inl (1, 0)), (1, .inr (.inl (2, 0))), (3, .inl (3, 0))], ([(0, 0), ((-63), 5), (0, 18446744073709551615), (2, 6)], [], []), []), [(false, (0, 90)), (true, (3, 6))])]
set_option maxRecDepth 1000000 in
theorem ck_94 : chkM qH [] [] 2 1000000 ct_94 cu_94 = true := by decide +kernel
theorem co_94 {L : List Nat}  : CtOK qH QB L ct_94 := chkM_ok QB_lasts qH_w all_nil (by decide +kernel) ck_94
/-- X2_weighPower -/
def ct_95 : qCt := (177, 5, false, [(12, 9999), (13, 9999), (34, 1), (34, 2), (34, 3), (34, 4), (34, 5), (34, 6), (36, 4), (36, 5)], ([.inl 1, .inl 2], [(0, .inr (.inr (some 36))), (1, .inl (1, 0)), (2, .inl (2, 0))], ([(0, 0), ((-2147483648), 2147483647), ((-2147483648), 2147483647)], [], []), []), [([.inl 0], some (.inl (3, 0)), ([(0, 0), ((-2147483648), 2147483647), ((-2147483648), 2147483647), (0, 1)], [], []), [])])
def cu_95 : List qCu := [(45, ([.inl 3, .inr (3, 6)], [(0, .inr (.inr (some 36))), (1, .inl (1, 0)), (2, .inl (2, 0)), (3, .inl (3, 0))], ([(0, 0), (0, 5), (0, 4), (0, 64), (1, 6)], [], []), [((3, 6), .inl (4, 0))]), [(false, (0, 90)), (true, (3, 64))])]
set_option maxRecDepth 1000000 in
theorem ck_95 : chkM qH [ct_91, ct_93, ct_94, ct_41, ct_92] [] 2 1000000 ct_95 cu_95 = true := by decide +kernel
theorem co_95 {L : List Nat}  : CtOK qH QB L ct_95 := chkM_ok QB_lasts qH_w (all_cons (co_91) (all_cons (co_93) (all_cons (co_94) (all_cons (co_41) (all_cons (co_92) all_nil))))) (by decide +kernel) ck_95
/-- X11_power -/
def ct_96 : qCt := (176, 6, false, [(12, 9999), (13, 9999), (34, 1), (34, 2), (34, 3), (34, 4), (34, 5), (34, 6), (36, 4), (36, 5)], ([.inl 1, .inl 2, .inl 3], [(0, .inr (.inr (some 0))), (1, .inl (1, 0)), (2, .inl (2, 0)), (3, .inl (3, 0))], ([(0, 0), ((-2147483648), 2147483647), ((-2147483648), 2147483647), ((-2147483648), 2147483647)], [], []), []), [([.inl 0], some (.inl (4, 0)), ([(0, 0), ((-2147483648), 2147483647), ((-2147483648), 2147483647), ((-2147483648), 2147483647), ((-2147483648), 2147483647)], [], []), [])])
def cu_96 : List qCu := []
set_option maxRecDepth 1000000 in
theorem ck_96 : chkM qH [ct_95, ct_82] [] 0 1000000 ct_96 cu_96 = true := by decide +kernel
theorem co_96 {L : List Nat}  : CtOK qH QB L ct_96 := chkM_ok QB_lasts qH_w (all_cons (co_95) (all_cons (co_82) all_nil)) (by decide +kernel) ck_96
/-- X3_forcingSets -/
def ct_97 : qCt := (187, 5, false, [(12, 9999), (13, 9999), (34, 1), (34, 2), (34, 3), (34, 4), (34, 5), (34, 6)], ([.inl 1], [(0, .inr (.inr (some 37))), (1, .inl (1, 0))], ([(0, 0), ((-2147483648), 2147483647)], [], []), []), [([.inl 0], some (.inr (.inl (2, 0))), ([(0, 0), ((-2147483648), 2147483647), (0, 18446744073709551615)], [], []), [])])
def cu_97 : List qCu := [(15, ([.inl 2, .inl 4, .inl 5], [(0, .inr (.inr (some 37))), (1, .inl (1, 0)), (2, .inr (.inl (2, 0))), (4, .inl (3, 0)), (5, .inl (4, 0))], ([(0, 0), ((-2147483648), 2147483647), (0, 18446744073709551615), (0, 63), (0, 64)], [], []), []), [(false, (0, 90)), (true, (4, 64))])]
set_option maxRecDepth 1000000 in
theorem ck_97 : chkM qH [ct_78, ct_41, ct_43] [] 2 1000000 ct_97 cu_97 = true := by decide +kernel
theorem co_97 {L : List Nat}  : CtOK qH QB L ct_97 := chkM_ok QB_lasts qH_w (all_cons (co_78) (all_cons (co_41) (all_cons (co_43) all_nil))) (by decide +kernel) ck_97
/-- X3_extendPlan -/
def ct_98 : qCt := (185, 2, false, [(37, 5), (37, 10), (37, 11), (38, 9999)], ([.inl 2], [(0, .inr (.inr (some 37))), (1, .inl (0, 6)), (2, .inl (1, 0))], ([(0, 0), ((-2147483648), 2147483647)], [], []), []), [([], none, ([(0, 0), ((-2147483648), 2147483647)], [], []), [])])
def cu_98 : List qCu := []
set_option maxRecDepth 1000000 in
theorem ck_98 : chkM qH [ct_60] [] 2 1000000 ct_98 cu_98 = true := by decide +kernel
theorem co_98 {L : List Nat}  : CtOK qH QB L ct_98 := chkM_ok QB_lasts qH_w (all_cons (co_60) all_nil) (by decide +kernel) ck_98
