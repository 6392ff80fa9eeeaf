/-! X12_readLine, and the banks kept -/
def cu_9 : List qCu := []
def sq_9 : List (Nat × Nat) := [(53, 4), (53, 5), (53, 6), (53, 7), (53, 8), (53, 9), (53, 10), (53, 35), (53, 36), (53, 37), (53, 38), (56, 9999), (57, 9999), (58, 9999), (59, 9999), (60, 9999), (61, 9999), (62, 9999), (63, 9999), (64, 9999), (65, 9999), (68, 9999), (69, 9999), (70, 9999), (71, 9999), (72, 9999), (74, 9999), (75, 9999), (76, 9999)]
set_option maxRecDepth 1000000 in
theorem ckq_9 : chkQ sq_9 qH [ct_7, ct_8, ct_2, ct_3, ct_4] [((259, 13), 5), ((241, 40), 5), ((241, 52), 5), ((241, 64), 5), ((241, 87), 5), ((241, 121), 5)] 0 1000000 ct_9 cu_9 = true := by decide +kernel
theorem cq_9 {L : List Nat} : CtQ qH QB L ct_9 := chkQ_ok (S := sq_9) QB_lasts (by decide +kernel) qH_w (all_cons (CtQ_of QB_lasts (co_7) (by decide +kernel)) (all_cons (CtQ_of QB_lasts (co_8) (by decide +kernel)) (all_cons (CtQ_of QB_lasts ho_2 (by decide +kernel)) (all_cons rq_3 (all_cons rq_4 all_nil))))) (by decide +kernel) ckq_9
