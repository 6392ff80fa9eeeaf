/-- X9_advance -/
def ct_138 : qCt := (278, 2, false, [(1, 2), (1, 3), (1, 4), (1, 5), (1, 6)], ([], [(0, .inr (.inr (some 1)))], ([(0, 0)], [], []), []), [([], none, ([(0, 0)], [], []), [])])
def cu_138 : List qCu := [(0, ([.inr (1, 1), .inr (1, 2)], [(0, .inr (.inr (some 1)))], ([(0, 0), (1, 1600), (1, 1600)], [], []), [((1, 1), .inl (1, 0)), ((1, 2), .inl (2, 0))]), [(false, (0, 90)), (true, (2, 1600))])]
set_option maxRecDepth 1000000 in
theorem ck_138 : chkM qH [ct_136, ct_137] [] 2 1000000 ct_138 cu_138 = true := by decide +kernel
theorem co_138 {L : List Nat}  : CtOK qH QB L ct_138 := chkM_ok QB_lasts qH_w (all_cons (co_136) (all_cons (co_137) all_nil)) (by decide +kernel) ck_138
