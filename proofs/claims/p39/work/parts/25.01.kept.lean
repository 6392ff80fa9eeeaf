/-! X12_readLine, and the banks kept -/
def cu_13 : List qCu := []
def sq_13 : List (Nat × Nat) := [(53, 4), (53, 5), (53, 6), (53, 7), (53, 8), (53, 9), (53, 10), (53, 35), (53, 36), (53, 37), (53, 38), (56, 9999), (57, 9999), (58, 9999), (59, 9999), (60, 9999), (61, 9999), (62, 9999), (63, 9999), (64, 9999), (65, 9999), (68, 9999), (69, 9999), (70, 9999), (71, 9999), (72, 9999), (74, 9999), (75, 9999), (76, 9999)]
set_option maxRecDepth 1000000 in
theorem ckq_13 : chkQ sq_13 qH [ct_11, ct_12, ct_2, ct_5, ct_6] [((259, 13), 5), ((241, 40), 5), ((241, 52), 5), ((241, 64), 5), ((241, 87), 5), ((241, 121), 5)] 0 1000000 ct_13 cu_13 = true := by decide +kernel
theorem cq_13 {L : List Nat} : CtQ qH QB L ct_13 := chkQ_ok (S := sq_13) QB_lasts (by decide +kernel) qH_w (all_cons (CtQ_of QB_lasts (co_11) (by decide +kernel)) (all_cons (CtQ_of QB_lasts (co_12) (by decide +kernel)) (all_cons (CtQ_of QB_lasts ho_2 (by decide +kernel)) (all_cons rq_5 (all_cons rq_6 all_nil))))) (by decide +kernel) ckq_13
