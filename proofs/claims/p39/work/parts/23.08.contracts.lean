/-- X9_takeWord -/
def ct_136 : qCt := (284, 1, false, [(1, 2), (1, 3), (1, 6)], ([], [(0, .inr (.inr (some 1)))], ([(0, 0)], [], []), []), [([], none, ([(0, 0)], [], []), [])])
def cu_136 : List qCu := [(5, ([.inr (1, 1), .inr (1, 2)], [(0, .inr (.inr (some 1)))], ([(0, 0), (0, 1600), (0, 1600)], [], []), [((1, 1), .inl (1, 0)), ((1, 2), .inl (2, 0))]), [(false, (0, 90)), (true, (2, 1600))])]
set_option maxRecDepth 1000000 in
theorem ck_136 : chkM qH [ct_135] [] 2 1000000 ct_136 cu_136 = true := by decide +kernel
theorem co_136 {L : List Nat}  : CtOK qH QB L ct_136 := chkM_ok QB_lasts qH_w (all_cons (co_135) all_nil) (by decide +kernel) ck_136
/-- X9_takeNumber -/
def ct_137 : qCt := (280, 1, false, [(1, 2), (1, 3), (1, 5)], ([], [(0, .inr (.inr (some 1)))], ([(0, 0)], [], []), []), [([], none, ([(0, 0)], [], []), [])])
def cu_137 : List qCu := [(5, ([.inr (1, 1), .inr (1, 2)], [(0, .inr (.inr (some 1)))], ([(0, 0), (0, 1600), (0, 1600)], [], []), [((1, 1), .inl (1, 0)), ((1, 2), .inl (2, 0))]), [(false, (0, 90)), (true, (2, 1600))])]
set_option maxRecDepth 1000000 in
theorem ck_137 : chkM qH [] [] 2 1000000 ct_137 cu_137 = true := by decide +kernel
theorem co_137 {L : List Nat}  : CtOK qH QB L ct_137 := chkM_ok QB_lasts qH_w all_nil (by decide +kernel) ck_137
