def cw : qCt := (261, 1, false, [], ([], [(0, .inr (.inr (some 53)))], ([(0, 0)], [], []), []), [([], some (.inl (0, 0)), ([(0, 0)], [], []), []), ([.inl 0], some (.inl (1, 0)), ([(0, 0), (97, 122)], [], []), [])])
set_option maxRecDepth 1000000 in
theorem cwk : chkM qH [] [] 0 1000000 cw [] = true := by decide +kernel
theorem cwo {L : List Nat} : CtOK qH QB L cw := chkM_ok QB_lasts qH_w all_nil (by decide +kernel) cwk
def P_u00 : qP := (qH, false, [(53, 4), (53, 5)], false, [], [], [235, 265])
def po_u00 : List qPo := [([.inr (211, 4)], some (.inl (0, 1)), ([(0, 0), (0, 1600), (0, 1600), (0, 1600), (0, 290), (1, 40), (0, 7), (0, 30), (1, 4)], [(1, 2, 0), (2, 3, 0)], []), [((211, 3), .inl (3, 0)), ((211, 4), .inl (8, 0)), ((211, 6), .inl (1, 0)), ((211, 7), .inl (2, 0)), ((211, 8), .inl (0, 0)), ((211, 34), .inl (0, 0)), ((211, 35), .inl (4, 0)), ((211, 36), .inl (6, 0)), ((211, 37), .inl (5, 0)), ((211, 38), .inl (7, 0))])]
def cu_u00 : List qCu := []
def hc_u00 : List hCu := []
def E_u00 : qE := ([(0, 0), (0, 1600), (0, 1600), (0, 1600), (0, 290), (1, 40), (0, 7), (0, 30)], [(1, 2, 0), (2, 3, 0)], [])
def C_u00 : qC := [((211, 3), .inl (3, 0)), ((211, 4), .inl (0, 0)), ((211, 6), .inl (1, 0)), ((211, 7), .inl (2, 0)), ((211, 8), .inl (0, 0)), ((211, 34), .inl (0, 0)), ((211, 35), .inl (4, 0)), ((211, 36), .inl (6, 0)), ((211, 37), .inl (5, 0)), ((211, 38), .inl (7, 0))]
def lv_u00 : qK := [(0, .inr (.inr (some 53)))]
def st_u00 : List qV := []
set_option maxRecDepth 1000000 in
theorem ch_u00 : chkHm P_u00 8 0 1000000 2 260 E_u00 C_u00 0 lv_u00 st_u00 po_u00 cu_u00 hc_u00 = true := by decide +kernel
def P_u01 : qP := (qH, false, [(53, 4), (53, 5), (53, 6), (53, 7), (53, 8), (53, 9), (53, 10), (53, 38), (58, 9999)], false, [cw, ct_2], [], [235, 265])
def po_u01 : List qPo := [([.inr (211, 4)], some (.inl (0, 1)), ([(0, 0), (0, 1600), (0, 1600), (0, 1600), (0, 290), (1, 40), (0, 7), (0, 30), (1, 5), (1, 4)], [(1, 2, 1), (2, 3, 0)], []), [((211, 3), .inl (3, 0)), ((211, 4), .inl (9, 0)), ((211, 6), .inl (1, 0)), ((211, 7), .inl (2, 0)), ((211, 8), .inl (8, 0)), ((211, 34), .inl (0, 0)), ((211, 35), .inl (4, 0)), ((211, 36), .inl (6, 0)), ((211, 37), .inl (5, 0)), ((211, 38), .inl (7, 0))])]
def cu_u01 : List qCu := []
def hc_u01 : List hCu := [(235, 3, ([], [(0, .inr (.inr (some 53))), (200, .inl (0, 126)), (201, .inl (0, 3)), (202, .inr (.inr (some 53)))], ([(0, 0), (0, 1600), (0, 1600), (0, 1600), (0, 290), (1, 40), (0, 6), (0, 30), (1, 5)], [(1, 2, 1), (2, 3, 0)], []), [((211, 3), .inl (3, 0)), ((211, 4), .inl (0, 0)), ((211, 6), .inl (3, 0)), ((211, 7), .inl (3, 0)), ((211, 8), .inl (0, 0)), ((211, 34), .inl (0, 0)), ((211, 35), .inl (4, 0)), ((211, 36), .inl (6, 0)), ((211, 37), .inl (5, 0)), ((211, 38), .inl (7, 0))])), (235, 3, ([.inr (211, 8), .inr (211, 6), .inr (211, 7)], [(0, .inr (.inr (some 53))), (200, .inl (0, 126)), (201, .inl (0, 3)), (202, .inr (.inr (some 53)))], ([(0, 0), (0, 1600), (0, 1600), (0, 1600), (0, 290), (1, 40), (0, 6), (0, 30), (1, 5), (1, 5), (0, 1600), (0, 1600)], [(1, 2, 1), (2, 3, 0), (2, 10, 0), (10, 11, 1), (11, 3, 0)], []), [((211, 3), .inl (3, 0)), ((211, 4), .inl (0, 0)), ((211, 6), .inl (10, 0)), ((211, 7), .inl (11, 0)), ((211, 8), .inl (9, 0)), ((211, 34), .inl (0, 0)), ((211, 35), .inl (4, 0)), ((211, 36), .inl (6, 0)), ((211, 37), .inl (5, 0)), ((211, 38), .inl (7, 0))])), (235, 3, ([], [(0, .inr (.inr (some 53))), (200, .inl (0, 126)), (201, .inl (0, 7)), (202, .inr (.inr (some 53)))], ([(0, 0), (0, 1600), (0, 1600), (0, 1600), (0, 290), (1, 40), (0, 6), (0, 29), (1, 5)], [(1, 2, 1), (2, 3, 0)], []), [((211, 3), .inl (3, 0)), ((211, 4), .inl (0, 0)), ((211, 6), .inl (3, 0)), ((211, 7), .inl (3, 0)), ((211, 8), .inl (0, 0)), ((211, 34), .inl (0, 0)), ((211, 35), .inl (4, 0)), ((211, 36), .inl (6, 0)), ((211, 37), .inl (5, 0)), ((211, 38), .inl (7, 1))])), (235, 3, ([.inr (211, 8), .inr (211, 6), .inr (211, 7)], [(0, .inr (.inr (some 53))), (200, .inl (0, 126)), (201, .inl (0, 7)), (202, .inr (.inr (some 53)))], ([(0, 0), (0, 1600), (0, 1600), (0, 1600), (0, 290), (1, 40), (0, 6), (0, 29), (1, 5), (1, 5), (0, 1600), (0, 1600)], [(1, 2, 1), (2, 3, 0), (2, 10, 0), (10, 11, 1), (11, 3, 0)], []), [((211, 3), .inl (3, 0)), ((211, 4), .inl (0, 0)), ((211, 6), .inl (10, 0)), ((211, 7), .inl (11, 0)), ((211, 8), .inl (9, 0)), ((211, 34), .inl (0, 0)), ((211, 35), .inl (4, 0)), ((211, 36), .inl (6, 0)), ((211, 37), .inl (5, 0)), ((211, 38), .inl (7, 1))])), (265, 3, ([.inl 200, .inl 201], [(0, .inr (.inr (some 53))), (200, .inl (9, 0)), (201, .inl (10, 0)), (202, .inr (.inr (some 53)))], ([(0, 0), (0, 1600), (0, 1600), (0, 1600), (0, 290), (1, 40), (0, 7), (0, 29), (1, 5), ((-2147483648), 2147483647), (97, 122)], [(1, 2, 1), (2, 3, 0)], []), [((211, 3), .inl (3, 0)), ((211, 4), .inl (0, 0)), ((211, 6), .inl (3, 0)), ((211, 7), .inl (3, 0)), ((211, 8), .inl (0, 0)), ((211, 34), .inl (0, 0)), ((211, 35), .inl (4, 0)), ((211, 36), .inl (6, 0)), ((211, 37), .inl (5, 0)), ((211, 38), .inl (7, 1))])), (265, 3, ([.inr (211, 8), .inr (211, 6), .inr (211, 7), .inl 200, .inl 201], [(0, .inr (.inr (some 53))), (200, .inl (12, 0)), (201, .inl (13, 0)), (202, .inr (.inr (some 53)))], ([(0, 0), (0, 1600), (0, 1600), (0, 1600), (0, 290), (1, 40), (0, 7), (0, 29), (1, 5), (1, 5), (0, 1600), (0, 1600), ((-2147483648), 2147483647), (97, 122)], [(1, 2, 1), (2, 3, 0), (2, 10, 0), (10, 11, 1), (11, 3, 0)], []), [((211, 3), .inl (3, 0)), ((211, 4), .inl (0, 0)), ((211, 6), .inl (10, 0)), ((211, 7), .inl (11, 0)), ((211, 8), .inl (9, 0)), ((211, 34), .inl (0, 0)), ((211, 35), .inl (4, 0)), ((211, 36), .inl (6, 0)), ((211, 37), .inl (5, 0)), ((211, 38), .inl (7, 1))]))]
def E_u01 : qE := ([(0, 0), (0, 1600), (0, 1600), (0, 1600), (0, 290), (1, 40), (0, 7), (0, 30), (1, 5)], [(1, 2, 1), (2, 3, 0)], [])
def C_u01 : qC := [((211, 3), .inl (3, 0)), ((211, 4), .inl (0, 0)), ((211, 6), .inl (1, 0)), ((211, 7), .inl (2, 0)), ((211, 8), .inl (8, 0)), ((211, 34), .inl (0, 0)), ((211, 35), .inl (4, 0)), ((211, 36), .inl (6, 0)), ((211, 37), .inl (5, 0)), ((211, 38), .inl (7, 0))]
def lv_u01 : qK := [(0, .inr (.inr (some 53)))]
def st_u01 : List qV := []
set_option maxRecDepth 1000000 in
theorem ch_u01 : chkHm P_u01 9 0 1000000 4 260 E_u01 C_u01 0 lv_u01 st_u01 po_u01 cu_u01 hc_u01 = true := by decide +kernel
def P_u10 : qP := (qH, false, [(53, 4), (53, 5)], false, [], [], [235, 265])
def po_u10 : List qPo := [([.inr (211, 4)], some (.inl (0, 1)), ([(0, 0), (0, 1600), (0, 1600), (0, 1600), (560, 850), (1, 40), (0, 7), (0, 30), (1, 4)], [(1, 2, 0), (2, 3, 0)], []), [((211, 3), .inl (3, 0)), ((211, 4), .inl (8, 0)), ((211, 6), .inl (1, 0)), ((211, 7), .inl (2, 0)), ((211, 8), .inl (0, 0)), ((211, 34), .inl (0, 1)), ((211, 35), .inl (4, 0)), ((211, 36), .inl (6, 0)), ((211, 37), .inl (5, 0)), ((211, 38), .inl (7, 0))])]
def cu_u10 : List qCu := []
def hc_u10 : List hCu := []
def E_u10 : qE := ([(0, 0), (0, 1600), (0, 1600), (0, 1600), (560, 850), (1, 40), (0, 7), (0, 30)], [(1, 2, 0), (2, 3, 0)], [])
def C_u10 : qC := [((211, 3), .inl (3, 0)), ((211, 4), .inl (0, 0)), ((211, 6), .inl (1, 0)), ((211, 7), .inl (2, 0)), ((211, 8), .inl (0, 0)), ((211, 34), .inl (0, 1)), ((211, 35), .inl (4, 0)), ((211, 36), .inl (6, 0)), ((211, 37), .inl (5, 0)), ((211, 38), .inl (7, 0))]
def lv_u10 : qK := [(0, .inr (.inr (some 53)))]
def st_u10 : List qV := []
set_option maxRecDepth 1000000 in
theorem ch_u10 : chkHm P_u10 8 0 1000000 2 260 E_u10 C_u10 0 lv_u10 st_u10 po_u10 cu_u10 hc_u10 = true := by decide +kernel
def P_u11 : qP := (qH, false, [(53, 4), (53, 5), (53, 6), (53, 7), (53, 8), (53, 9), (53, 10), (53, 38), (58, 9999)], false, [cw, ct_2], [], [235, 265])
def po_u11 : List qPo := [([.inr (211, 4)], some (.inl (0, 1)), ([(0, 0), (0, 1600), (0, 1600), (0, 1600), (560, 850), (1, 40), (0, 7), (0, 30), (1, 5), (1, 4)], [(1, 2, 1), (2, 3, 0)], []), [((211, 3), .inl (3, 0)), ((211, 4), .inl (9, 0)), ((211, 6), .inl (1, 0)), ((211, 7), .inl (2, 0)), ((211, 8), .inl (8, 0)), ((211, 34), .inl (0, 1)), ((211, 35), .inl (4, 0)), ((211, 36), .inl (6, 0)), ((211, 37), .inl (5, 0)), ((211, 38), .inl (7, 0))])]
def cu_u11 : List qCu := []
def hc_u11 : List hCu := [(235, 3, ([], [(0, .inr (.inr (some 53))), (200, .inl (0, 126)), (201, .inl (0, 3)), (202, .inr (.inr (some 53)))], ([(0, 0), (0, 1600), (0, 1600), (0, 1600), (560, 850), (1, 40), (0, 6), (0, 30), (1, 5)], [(1, 2, 1), (2, 3, 0)], []), [((211, 3), .inl (3, 0)), ((211, 4), .inl (0, 0)), ((211, 6), .inl (3, 0)), ((211, 7), .inl (3, 0)), ((211, 8), .inl (0, 0)), ((211, 34), .inl (0, 1)), ((211, 35), .inl (4, 0)), ((211, 36), .inl (6, 0)), ((211, 37), .inl (5, 0)), ((211, 38), .inl (7, 0))])), (235, 3, ([.inr (211, 8), .inr (211, 6), .inr (211, 7)], [(0, .inr (.inr (some 53))), (200, .inl (0, 126)), (201, .inl (0, 3)), (202, .inr (.inr (some 53)))], ([(0, 0), (0, 1600), (0, 1600), (0, 1600), (560, 850), (1, 40), (0, 6), (0, 30), (1, 5), (1, 5), (0, 1600), (0, 1600)], [(1, 2, 1), (2, 3, 0), (2, 10, 0), (10, 11, 1), (11, 3, 0)], []), [((211, 3), .inl (3, 0)), ((211, 4), .inl (0, 0)), ((211, 6), .inl (10, 0)), ((211, 7), .inl (11, 0)), ((211, 8), .inl (9, 0)), ((211, 34), .inl (0, 1)), ((211, 35), .inl (4, 0)), ((211, 36), .inl (6, 0)), ((211, 37), .inl (5, 0)), ((211, 38), .inl (7, 0))])), (235, 3, ([], [(0, .inr (.inr (some 53))), (200, .inl (0, 126)), (201, .inl (0, 7)), (202, .inr (.inr (some 53)))], ([(0, 0), (0, 1600), (0, 1600), (0, 1600), (560, 850), (1, 40), (0, 6), (0, 29), (1, 5)], [(1, 2, 1), (2, 3, 0)], []), [((211, 3), .inl (3, 0)), ((211, 4), .inl (0, 0)), ((211, 6), .inl (3, 0)), ((211, 7), .inl (3, 0)), ((211, 8), .inl (0, 0)), ((211, 34), .inl (0, 1)), ((211, 35), .inl (4, 0)), ((211, 36), .inl (6, 0)), ((211, 37), .inl (5, 0)), ((211, 38), .inl (7, 1))])), (235, 3, ([.inr (211, 8), .inr (211, 6), .inr (211, 7)], [(0, .inr (.inr (some 53))), (200, .inl (0, 126)), (201, .inl (0, 7)), (202, .inr (.inr (some 53)))], ([(0, 0), (0, 1600), (0, 1600), (0, 1600), (560, 850), (1, 40), (0, 6), (0, 29), (1, 5), (1, 5), (0, 1600), (0, 1600)], [(1, 2, 1), (2, 3, 0), (2, 10, 0), (10, 11, 1), (11, 3, 0)], []), [((211, 3), .inl (3, 0)), ((211, 4), .inl (0, 0)), ((211, 6), .inl (10, 0)), ((211, 7), .inl (11, 0)), ((211, 8), .inl (9, 0)), ((211, 34), .inl (0, 1)), ((211, 35), .inl (4, 0)), ((211, 36), .inl (6, 0)), ((211, 37), .inl (5, 0)), ((211, 38), .inl (7, 1))])), (265, 3, ([.inl 200, .inl 201], [(0, .inr (.inr (some 53))), (200, .inl (9, 0)), (201, .inl (10, 0)), (202, .inr (.inr (some 53)))], ([(0, 0), (0, 1600), (0, 1600), (0, 1600), (560, 850), (1, 40), (0, 7), (0, 29), (1, 5), ((-2147483648), 2147483647), (97, 122)], [(1, 2, 1), (2, 3, 0)], []), [((211, 3), .inl (3, 0)), ((211, 4), .inl (0, 0)), ((211, 6), .inl (3, 0)), ((211, 7), .inl (3, 0)), ((211, 8), .inl (0, 0)), ((211, 34), .inl (0, 1)), ((211, 35), .inl (4, 0)), ((211, 36), .inl (6, 0)), ((211, 37), .inl (5, 0)), ((211, 38), .inl (7, 1))])), (265, 3, ([.inr (211, 8), .inr (211, 6), .inr (211, 7), .inl 200, .inl 201], [(0, .inr (.inr (some 53))), (200, .inl (12, 0)), (201, .inl (13, 0)), (202, .inr (.inr (some 53)))], ([(0, 0), (0, 1600), (0, 1600), (0, 1600), (560, 850), (1, 40), (0, 7), (0, 29), (1, 5), (1, 5), (0, 1600), (0, 1600), ((-2147483648), 2147483647), (97, 122)], [(1, 2, 1), (2, 3, 0), (2, 10, 0), (10, 11, 1), (11, 3, 0)], []), [((211, 3), .inl (3, 0)), ((211, 4), .inl (0, 0)), ((211, 6), .inl (10, 0)), ((211, 7), .inl (11, 0)), ((211, 8), .inl (9, 0)), ((211, 34), .inl (0, 1)), ((211, 35), .inl (4, 0)), ((211, 36), .inl (6, 0)), ((211, 37), .inl (5, 0)), ((211, 38), .inl (7, 1))]))]
def E_u11 : qE := ([(0, 0), (0, 1600), (0, 1600), (0, 1600), (560, 850), (1, 40), (0, 7), (0, 30), (1, 5)], [(1, 2, 1), (2, 3, 0)], [])
def C_u11 : qC := [((211, 3), .inl (3, 0)), ((211, 4), .inl (0, 0)), ((211, 6), .inl (1, 0)), ((211, 7), .inl (2, 0)), ((211, 8), .inl (8, 0)), ((211, 34), .inl (0, 1)), ((211, 35), .inl (4, 0)), ((211, 36), .inl (6, 0)), ((211, 37), .inl (5, 0)), ((211, 38), .inl (7, 0))]
def lv_u11 : qK := [(0, .inr (.inr (some 53)))]
def st_u11 : List qV := []
set_option maxRecDepth 1000000 in
theorem ch_u11 : chkHm P_u11 9 0 1000000 4 260 E_u11 C_u11 0 lv_u11 st_u11 po_u11 cu_u11 hc_u11 = true := by decide +kernel
def P_ua00 : qP := (qH, false, [(53, 36)], false, [], [], [])
def po_ua00 : List qPo := [([], some (.inl (0, 1)), ([(0, 0), (0, 1600), (0, 1600), (0, 1600), (0, 290), (1, 40), (0, 6), (0, 30)], [(1, 2, 0), (2, 3, 0)], []), [((211, 3), .inl (3, 0)), ((211, 4), .inl (0, 0)), ((211, 6), .inl (1, 0)), ((211, 7), .inl (2, 0)), ((211, 8), .inl (0, 0)), ((211, 34), .inl (0, 0)), ((211, 35), .inl (4, 0)), ((211, 36), .inl (6, 1)), ((211, 37), .inl (5, 0)), ((211, 38), .inl (7, 0))])]
def cu_ua00 : List qCu := []
def hc_ua00 : List hCu := []
def E_ua00 : qE := ([(0, 0), (0, 1600), (0, 1600), (0, 1600), (0, 290), (1, 40), (0, 6), (0, 30)], [(1, 2, 0), (2, 3, 0)], [])
def C_ua00 : qC := [((211, 3), .inl (3, 0)), ((211, 4), .inl (0, 0)), ((211, 6), .inl (1, 0)), ((211, 7), .inl (2, 0)), ((211, 8), .inl (0, 0)), ((211, 34), .inl (0, 0)), ((211, 35), .inl (4, 0)), ((211, 36), .inl (6, 0)), ((211, 37), .inl (5, 0)), ((211, 38), .inl (7, 0))]
def lv_ua00 : qK := [(0, .inr (.inr (some 53)))]
def st_ua00 : List qV := []
set_option maxRecDepth 1000000 in
theorem ch_ua00 : chkHm P_ua00 8 0 1000000 0 260 E_ua00 C_ua00 238 lv_ua00 st_ua00 po_ua00 cu_ua00 hc_ua00 = true := by decide +kernel
def P_ub00 : qP := (qH, false, [], false, [], [], [])
def po_ub00 : List qPo := [([], some (.inl (0, 0)), ([(0, 0), (0, 1600), (0, 1600), (0, 1600), (0, 290), (1, 40), (0, 7), (0, 30)], [(1, 2, 0), (2, 3, 0)], []), [((211, 3), .inl (3, 0)), ((211, 4), .inl (0, 0)), ((211, 6), .inl (1, 0)), ((211, 7), .inl (2, 0)), ((211, 8), .inl (0, 0)), ((211, 34), .inl (0, 0)), ((211, 35), .inl (4, 0)), ((211, 36), .inl (6, 0)), ((211, 37), .inl (5, 0)), ((211, 38), .inl (7, 0))])]
def cu_ub00 : List qCu := []
def hc_ub00 : List hCu := []
def E_ub00 : qE := ([(0, 0), (0, 1600), (0, 1600), (0, 1600), (0, 290), (1, 40), (0, 7), (0, 30)], [(1, 2, 0), (2, 3, 0)], [])
def C_ub00 : qC := [((211, 3), .inl (3, 0)), ((211, 4), .inl (0, 0)), ((211, 6), .inl (1, 0)), ((211, 7), .inl (2, 0)), ((211, 8), .inl (0, 0)), ((211, 34), .inl (0, 0)), ((211, 35), .inl (4, 0)), ((211, 36), .inl (6, 0)), ((211, 37), .inl (5, 0)), ((211, 38), .inl (7, 0))]
def lv_ub00 : qK := [(0, .inr (.inr (some 53)))]
def st_ub00 : List qV := []
set_option maxRecDepth 1000000 in
theorem ch_ub00 : chkHm P_ub00 8 0 1000000 0 260 E_ub00 C_ub00 268 lv_ub00 st_ub00 po_ub00 cu_ub00 hc_ub00 = true := by decide +kernel
def P_ua01 : qP := (qH, false, [(53, 36)], false, [], [], [])
def po_ua01 : List qPo := [([], some (.inl (0, 1)), ([(0, 0), (0, 1600), (0, 1600), (0, 1600), (0, 290), (1, 40), (0, 6), (0, 30), (1, 5)], [(1, 2, 1), (2, 3, 0)], []), [((211, 3), .inl (3, 0)), ((211, 4), .inl (0, 0)), ((211, 6), .inl (1, 0)), ((211, 7), .inl (2, 0)), ((211, 8), .inl (8, 0)), ((211, 34), .inl (0, 0)), ((211, 35), .inl (4, 0)), ((211, 36), .inl (6, 1)), ((211, 37), .inl (5, 0)), ((211, 38), .inl (7, 0))])]
def cu_ua01 : List qCu := []
def hc_ua01 : List hCu := []
def E_ua01 : qE := ([(0, 0), (0, 1600), (0, 1600), (0, 1600), (0, 290), (1, 40), (0, 6), (0, 30), (1, 5)], [(1, 2, 1), (2, 3, 0)], [])
def C_ua01 : qC := [((211, 3), .inl (3, 0)), ((211, 4), .inl (0, 0)), ((211, 6), .inl (1, 0)), ((211, 7), .inl (2, 0)), ((211, 8), .inl (8, 0)), ((211, 34), .inl (0, 0)), ((211, 35), .inl (4, 0)), ((211, 36), .inl (6, 0)), ((211, 37), .inl (5, 0)), ((211, 38), .inl (7, 0))]
def lv_ua01 : qK := [(0, .inr (.inr (some 53)))]
def st_ua01 : List qV := []
set_option maxRecDepth 1000000 in
theorem ch_ua01 : chkHm P_ua01 9 0 1000000 0 260 E_ua01 C_ua01 238 lv_ua01 st_ua01 po_ua01 cu_ua01 hc_ua01 = true := by decide +kernel
def P_ub01 : qP := (qH, false, [], false, [], [], [])
def po_ub01 : List qPo := [([], some (.inl (0, 0)), ([(0, 0), (0, 1600), (0, 1600), (0, 1600), (0, 290), (1, 40), (0, 7), (0, 30), (1, 5)], [(1, 2, 1), (2, 3, 0)], []), [((211, 3), .inl (3, 0)), ((211, 4), .inl (0, 0)), ((211, 6), .inl (1, 0)), ((211, 7), .inl (2, 0)), ((211, 8), .inl (8, 0)), ((211, 34), .inl (0, 0)), ((211, 35), .inl (4, 0)), ((211, 36), .inl (6, 0)), ((211, 37), .inl (5, 0)), ((211, 38), .inl (7, 0))])]
def cu_ub01 : List qCu := []
def hc_ub01 : List hCu := []
def E_ub01 : qE := ([(0, 0), (0, 1600), (0, 1600), (0, 1600), (0, 290), (1, 40), (0, 7), (0, 30), (1, 5)], [(1, 2, 1), (2, 3, 0)], [])
def C_ub01 : qC := [((211, 3), .inl (3, 0)), ((211, 4), .inl (0, 0)), ((211, 6), .inl (1, 0)), ((211, 7), .inl (2, 0)), ((211, 8), .inl (8, 0)), ((211, 34), .inl (0, 0)), ((211, 35), .inl (4, 0)), ((211, 36), .inl (6, 0)), ((211, 37), .inl (5, 0)), ((211, 38), .inl (7, 0))]
def lv_ub01 : qK := [(0, .inr (.inr (some 53)))]
def st_ub01 : List qV := []
set_option maxRecDepth 1000000 in
theorem ch_ub01 : chkHm P_ub01 9 0 1000000 0 260 E_ub01 C_ub01 268 lv_ub01 st_ub01 po_ub01 cu_ub01 hc_ub01 = true := by decide +kernel
def P_ua10 : qP := (qH, false, [(53, 36)], false, [], [], [])
def po_ua10 : List qPo := [([], some (.inl (0, 1)), ([(0, 0), (0, 1600), (0, 1600), (0, 1600), (560, 850), (1, 40), (0, 6), (0, 30)], [(1, 2, 0), (2, 3, 0)], []), [((211, 3), .inl (3, 0)), ((211, 4), .inl (0, 0)), ((211, 6), .inl (1, 0)), ((211, 7), .inl (2, 0)), ((211, 8), .inl (0, 0)), ((211, 34), .inl (0, 1)), ((211, 35), .inl (4, 0)), ((211, 36), .inl (6, 1)), ((211, 37), .inl (5, 0)), ((211, 38), .inl (7, 0))])]
def cu_ua10 : List qCu := []
def hc_ua10 : List hCu := []
def E_ua10 : qE := ([(0, 0), (0, 1600), (0, 1600), (0, 1600), (560, 850), (1, 40), (0, 6), (0, 30)], [(1, 2, 0), (2, 3, 0)], [])
def C_ua10 : qC := [((211, 3), .inl (3, 0)), ((211, 4), .inl (0, 0)), ((211, 6), .inl (1, 0)), ((211, 7), .inl (2, 0)), ((211, 8), .inl (0, 0)), ((211, 34), .inl (0, 1)), ((211, 35), .inl (4, 0)), ((211, 36), .inl (6, 0)), ((211, 37), .inl (5, 0)), ((211, 38), .inl (7, 0))]
def lv_ua10 : qK := [(0, .inr (.inr (some 53)))]
def st_ua10 : List qV := []
set_option maxRecDepth 1000000 in
theorem ch_ua10 : chkHm P_ua10 8 0 1000000 0 260 E_ua10 C_ua10 238 lv_ua10 st_ua10 po_ua10 cu_ua10 hc_ua10 = true := by decide +kernel
def P_ub10 : qP := (qH, false, [], false, [], [], [])
def po_ub10 : List qPo := [([], some (.inl (0, 0)), ([(0, 0), (0, 1600), (0, 1600), (0, 1600), (560, 850), (1, 40), (0, 7), (0, 30)], [(1, 2, 0), (2, 3, 0)], []), [((211, 3), .inl (3, 0)), ((211, 4), .inl (0, 0)), ((211, 6), .inl (1, 0)), ((211, 7), .inl (2, 0)), ((211, 8), .inl (0, 0)), ((211, 34), .inl (0, 1)), ((211, 35), .inl (4, 0)), ((211, 36), .inl (6, 0)), ((211, 37), .inl (5, 0)), ((211, 38), .inl (7, 0))])]
def cu_ub10 : List qCu := []
def hc_ub10 : List hCu := []
def E_ub10 : qE := ([(0, 0), (0, 1600), (0, 1600), (0, 1600), (560, 850), (1, 40), (0, 7), (0, 30)], [(1, 2, 0), (2, 3, 0)], [])
def C_ub10 : qC := [((211, 3), .inl (3, 0)), ((211, 4), .inl (0, 0)), ((211, 6), .inl (1, 0)), ((211, 7), .inl (2, 0)), ((211, 8), .inl (0, 0)), ((211, 34), .inl (0, 1)), ((211, 35), .inl (4, 0)), ((211, 36), .inl (6, 0)), ((211, 37), .inl (5, 0)), ((211, 38), .inl (7, 0))]
def lv_ub10 : qK := [(0, .inr (.inr (some 53)))]
def st_ub10 : List qV := []
set_option maxRecDepth 1000000 in
theorem ch_ub10 : chkHm P_ub10 8 0 1000000 0 260 E_ub10 C_ub10 268 lv_ub10 st_ub10 po_ub10 cu_ub10 hc_ub10 = true := by decide +kernel
def P_ua11 : qP := (qH, false, [(53, 36)], false, [], [], [])
def po_ua11 : List qPo := [([], some (.inl (0, 1)), ([(0, 0), (0, 1600), (0, 1600), (0, 1600), (560, 850), (1, 40), (0, 6), (0, 30), (1, 5)], [(1, 2, 1), (2, 3, 0)], []), [((211, 3), .inl (3, 0)), ((211, 4), .inl (0, 0)), ((211, 6), .inl (1, 0)), ((211, 7), .inl (2, 0)), ((211, 8), .inl (8, 0)), ((211, 34), .inl (0, 1)), ((211, 35), .inl (4, 0)), ((211, 36), .inl (6, 1)), ((211, 37), .inl (5, 0)), ((211, 38), .inl (7, 0))])]
def cu_ua11 : List qCu := []
def hc_ua11 : List hCu := []
def E_ua11 : qE := ([(0, 0), (0, 1600), (0, 1600), (0, 1600), (560, 850), (1, 40), (0, 6), (0, 30), (1, 5)], [(1, 2, 1), (2, 3, 0)], [])
def C_ua11 : qC := [((211, 3), .inl (3, 0)), ((211, 4), .inl (0, 0)), ((211, 6), .inl (1, 0)), ((211, 7), .inl (2, 0)), ((211, 8), .inl (8, 0)), ((211, 34), .inl (0, 1)), ((211, 35), .inl (4, 0)), ((211, 36), .inl (6, 0)), ((211, 37), .inl (5, 0)), ((211, 38), .inl (7, 0))]
def lv_ua11 : qK := [(0, .inr (.inr (some 53)))]
def st_ua11 : List qV := []
set_option maxRecDepth 1000000 in
theorem ch_ua11 : chkHm P_ua11 9 0 1000000 0 260 E_ua11 C_ua11 238 lv_ua11 st_ua11 po_ua11 cu_ua11 hc_ua11 = true := by decide +kernel
def P_ub11 : qP := (qH, false, [], false, [], [], [])
def po_ub11 : List qPo := [([], some (.inl (0, 0)), ([(0, 0), (0, 1600), (0, 1600), (0, 1600), (560, 850), (1, 40), (0, 7), (0, 30), (1, 5)], [(1, 2, 1), (2, 3, 0)], []), [((211, 3), .inl (3, 0)), ((211, 4), .inl (0, 0)), ((211, 6), .inl (1, 0)), ((211, 7), .inl (2, 0)), ((211, 8), .inl (8, 0)), ((211, 34), .inl (0, 1)), ((211, 35), .inl (4, 0)), ((211, 36), .inl (6, 0)), ((211, 37), .inl (5, 0)), ((211, 38), .inl (7, 0))])]
def cu_ub11 : List qCu := []
def hc_ub11 : List hCu := []
def E_ub11 : qE := ([(0, 0), (0, 1600), (0, 1600), (0, 1600), (560, 850), (1, 40), (0, 7), (0, 30), (1, 5)], [(1, 2, 1), (2, 3, 0)], [])
def C_ub11 : qC := [((211, 3), .inl (3, 0)), ((211, 4), .inl (0, 0)), ((211, 6), .inl (1, 0)), ((211, 7), .inl (2, 0)), ((211, 8), .inl (8, 0)), ((211, 34), .inl (0, 1)), ((211, 35), .inl (4, 0)), ((211, 36), .inl (6, 0)), ((211, 37), .inl (5, 0)), ((211, 38), .inl (7, 0))]
def lv_ub11 : qK := [(0, .inr (.inr (some 53)))]
def st_ub11 : List qV := []
set_option maxRecDepth 1000000 in
theorem ch_ub11 : chkHm P_ub11 9 0 1000000 0 260 E_ub11 C_ub11 268 lv_ub11 st_ub11 po_ub11 cu_ub11 hc_ub11 = true := by decide +kernel
theorem mk_X12_unit_235 {M : rM} (h : mT 260 = some M) : mTab M 235 = some (.invokevirtual 297, 3) ∧ kf tA (mOwn M) 297 = some (0, 255, 2, 12) := by
  have e : (mT 260).bind (fun M => mTab M 235) = some (.invokevirtual 297, 3) := by rfl
  have e2 : (mT 260).bind (fun M => kf tA (mOwn M) 297) = some (0, 255, 2, 12) := by decide +kernel
  rw [h] at e e2
  exact ⟨e, e2⟩
theorem mk_X12_unit_265 {M : rM} (h : mT 260 = some M) : mTab M 265 = some (.invokevirtual 310, 3) ∧ kf tA (mOwn M) 310 = some (0, 256, 2, 12) := by
  have e : (mT 260).bind (fun M => mTab M 265) = some (.invokevirtual 310, 3) := by rfl
  have e2 : (mT 260).bind (fun M => kf tA (mOwn M) 310) = some (0, 256, 2, 12) := by decide +kernel
  rw [h] at e e2
  exact ⟨e, e2⟩
/-! by hand: a unit of a rule -/
def MDU : List (Nat × Nat) := [(53, 4), (53, 5), (53, 6), (53, 7), (53, 8), (53, 9), (53, 10), (53, 35), (53, 36), (53, 37), (53, 38), (58, 9999), (73, 9999), (74, 9999), (75, 9999), (76, 9999)]
/-- what a rule's reading may change: of the codes, only those of its bank -/
def agU (r : Nat) (aw aw' : List rC) : Prop := ag qH MDU aw aw' ∧ ∀ j, j < 560 * r ∨ 560 * r + 560 ≤ j → sl aw' pCode j = sl aw pCode j
theorem agU_refl (r : Nat) (aw : List rC) : agU r aw aw := ⟨ag_refl _ _ _, fun _ _ => rfl⟩
theorem agU_trans {r : Nat} {a b c : List rC} (h : agU r a b) (g : agU r b c) : agU r a c := ⟨ag_trans h.1 g.1, fun j hj => (g.2 j hj).trans (h.2 j hj)⟩
theorem agU_s {r : Nat} {md : List (Nat × Nat)} {aw aw' : List rC} (h : mdsub md MDU = true) (h2 : mdfree md [73] = true) (g : ag qH md aw aw') : agU r aw aw' := ⟨ag_sub h g, fun j _ => g.2 pCode 73 j (by decide +kernel) (mdfree_ok h2 (by decide))⟩
theorem agU_e {r p x : Nat} {md : List (Nat × Nat)} {aw aw' : List rC} (h : mdsub md MDU = true) (g : ag qH md aw aw') (hc : ∀ j, sl aw' pCode j = if j = p then some (.inl x) else sl aw pCode j) (hp : 560 * r ≤ p ∧ p < 560 * r + 560) : agU r aw aw' := ⟨ag_sub h g, fun j hj => by rw [hc, if_neg (by omega)]⟩
/-- the reader's slots -/
def RS (r : Nat) (aw : List rC) (a e s t c p w u : Nat) : Prop := hOK qH [0] [] aw ∧ sl aw 211 3 = some (.inl s) ∧ sl aw 211 4 = some (.inl 0) ∧ sl aw 211 6 = some (.inl a) ∧ sl aw 211 7 = some (.inl e) ∧ sl aw 211 8 = some (.inl t) ∧ sl aw 211 34 = some (.inl r) ∧ sl aw 211 35 = some (.inl c) ∧ sl aw 211 36 = some (.inl w) ∧ sl aw 211 37 = some (.inl p) ∧ sl aw 211 38 = some (.inl u)
def tokOK (a e s t : Nat) : Prop := ((t = 0 ∧ a = s ∧ e = s) ∨ (1 ≤ t ∧ t ≤ 5 ∧ a + 1 ≤ e)) ∧ e ≤ s ∧ s ≤ 1600
/-- at the start of a rule: the token may be none, wherever it stands -/
def tokW (a e s t : Nat) : Prop := ((t = 0 ∧ a ≤ e ∧ e ≤ s) ∨ (1 ≤ t ∧ t ≤ 5 ∧ a + 1 ≤ e)) ∧ e ≤ s ∧ s ≤ 1600
theorem tokW_of {a e s t : Nat} (h : tokOK a e s t) : tokW a e s t := by
  obtain ⟨h1, h2, h3⟩ := h
  refine ⟨?_, h2, h3⟩
  rcases h1 with ⟨q1, q2, q3⟩ | q
  · exact Or.inl ⟨q1, by omega, by omega⟩
  · exact Or.inr q
def FLT (r : Nat) (aw : List rC) : Prop := hOK qH [0] [] aw ∧ ∃ f c, 1 ≤ f ∧ f ≤ 4 ∧ sl aw 211 4 = some (.inl f) ∧ sl aw 211 35 = some (.inl c) ∧ 560 * r ≤ c ∧ c ≤ 560 * r + 290 ∧ (drun (cd aw) (560 * r) (c - 560 * r) 0).isSome = true
def GO (r : Nat) (b : Bool) (aw : List rC) (a0 s t0 : Nat) : Prop := ∃ a e t c w u pile, RS r aw a e s t c pile.length w u ∧ tokOK a e s t ∧ JJ r b aw c u w pile ∧ w ≤ 7 ∧ 1 ≤ t0 ∧ a0 + 1 ≤ a
def DON (r : Nat) (aw : List rC) (a0 s : Nat) : Prop := ∃ a e t c w u, RS r aw a e s t c 0 w u ∧ tokOK a e s t ∧ a0 ≤ a ∧ 560 * r ≤ c ∧ c ≤ 560 * r + 290 ∧ (drun (cd aw) (560 * r) (c - 560 * r) 0).isSome = true
def OUTS (r : Nat) (aw : List rC) (v : Option rV) (a s t : Nat) : Prop := (v = some (.inl 1) ∧ FLT r aw) ∨ (v = some (.inl 0) ∧ FLT r aw) ∨ (v = some (.inl 1) ∧ GO r true aw a s t) ∨ (v = some (.inl 0) ∧ GO r false aw a s t) ∨ (v = some (.inl 0) ∧ DON r aw a s)
theorem vN {τ : List Int} {i : Nat} {o : Int} {n : Nat} (hi : ∃ y, τ[i]? = some y ∧ y + o = (n : Int)) (hn : n < 2147483648) : vOK qH τ (.inl (i, o)) (.inl n) := by
  obtain ⟨y, h1, h2⟩ := hi
  exact vI (z := (n : Int)) h1 h2.symm ⟨by omega, by omega⟩ (eI_nat (by omega)).symm
theorem RS_of {r : Nat} {τ : List Int} {aw : List rC} {i3 i4 i6 i7 i8 i34 i35 i36 i37 i38 : Nat} {o3 o4 o6 o7 o8 o34 o35 o36 o37 o38 : Int} {a e s t c p w u : Nat} (g0 : hOK qH [0] [] aw) (g : hOK qH τ [((211, 3), (.inl (i3, o3) : qV)), ((211, 4), (.inl (i4, o4) : qV)), ((211, 6), (.inl (i6, o6) : qV)), ((211, 7), (.inl (i7, o7) : qV)), ((211, 8), (.inl (i8, o8) : qV)), ((211, 34), (.inl (i34, o34) : qV)), ((211, 35), (.inl (i35, o35) : qV)), ((211, 36), (.inl (i36, o36) : qV)), ((211, 37), (.inl (i37, o37) : qV)), ((211, 38), (.inl (i38, o38) : qV))] aw)
    (h3 : ∃ y, τ[i3]? = some y ∧ y + o3 = (s : Int)) (h4 : ∃ y, τ[i4]? = some y ∧ y + o4 = ((0 : Nat) : Int)) (h6 : ∃ y, τ[i6]? = some y ∧ y + o6 = (a : Int)) (h7 : ∃ y, τ[i7]? = some y ∧ y + o7 = (e : Int)) (h8 : ∃ y, τ[i8]? = some y ∧ y + o8 = (t : Int)) (h34 : ∃ y, τ[i34]? = some y ∧ y + o34 = (r : Int)) (h35 : ∃ y, τ[i35]? = some y ∧ y + o35 = (c : Int)) (h36 : ∃ y, τ[i36]? = some y ∧ y + o36 = (w : Int)) (h37 : ∃ y, τ[i37]? = some y ∧ y + o37 = (p : Int)) (h38 : ∃ y, τ[i38]? = some y ∧ y + o38 = (u : Int)) : RS r aw a e s t c p w u := by
  have key : ∀ {j i n : Nat} {o : Int}, j < 66 → kf [((211, 3), (.inl (i3, o3) : qV)), ((211, 4), (.inl (i4, o4) : qV)), ((211, 6), (.inl (i6, o6) : qV)), ((211, 7), (.inl (i7, o7) : qV)), ((211, 8), (.inl (i8, o8) : qV)), ((211, 34), (.inl (i34, o34) : qV)), ((211, 35), (.inl (i35, o35) : qV)), ((211, 36), (.inl (i36, o36) : qV)), ((211, 37), (.inl (i37, o37) : qV)), ((211, 38), (.inl (i38, o38) : qV))] 211 j = some (.inl (i, o)) → (∃ y, τ[i]? = some y ∧ y + o = (n : Int)) → sl aw 211 j = some (.inl n) := by
    intro j i n o hj hk ⟨y, h1, h2⟩
    obtain ⟨f1, f2⟩ := sl_of g (by decide +kernel : qH.2[211]? = some 53) (rfl : qH.1[53]? = some _) hj hk h1
    rw [h2] at f1 f2
    obtain ⟨k1, k2⟩ := f1
    rw [eI_nat (by omega)] at f2
    exact f2
  exact ⟨g0, key (by decide) rfl h3, key (by decide) rfl h4, key (by decide) rfl h6, key (by decide) rfl h7, key (by decide) rfl h8, key (by decide) rfl h34, key (by decide) rfl h35, key (by decide) rfl h36, key (by decide) rfl h37, key (by decide) rfl h38⟩
theorem RS_C {r : Nat} {τ : List Int} {aw : List rC} {i3 i4 i6 i7 i8 i34 i35 i36 i37 i38 : Nat} {o3 o4 o6 o7 o8 o34 o35 o36 o37 o38 : Int} {a e s t c p w u : Nat} (h : RS r aw a e s t c p w u) (hb : s < 2147483648 ∧ a < 2147483648 ∧ e < 2147483648 ∧ t < 2147483648 ∧ r < 2147483648 ∧ c < 2147483648 ∧ w < 2147483648 ∧ p < 2147483648 ∧ u < 2147483648)
    (h3 : ∃ y, τ[i3]? = some y ∧ y + o3 = (s : Int)) (h4 : ∃ y, τ[i4]? = some y ∧ y + o4 = ((0 : Nat) : Int)) (h6 : ∃ y, τ[i6]? = some y ∧ y + o6 = (a : Int)) (h7 : ∃ y, τ[i7]? = some y ∧ y + o7 = (e : Int)) (h8 : ∃ y, τ[i8]? = some y ∧ y + o8 = (t : Int)) (h34 : ∃ y, τ[i34]? = some y ∧ y + o34 = (r : Int)) (h35 : ∃ y, τ[i35]? = some y ∧ y + o35 = (c : Int)) (h36 : ∃ y, τ[i36]? = some y ∧ y + o36 = (w : Int)) (h37 : ∃ y, τ[i37]? = some y ∧ y + o37 = (p : Int)) (h38 : ∃ y, τ[i38]? = some y ∧ y + o38 = (u : Int)) : hOK qH τ [((211, 3), (.inl (i3, o3) : qV)), ((211, 4), (.inl (i4, o4) : qV)), ((211, 6), (.inl (i6, o6) : qV)), ((211, 7), (.inl (i7, o7) : qV)), ((211, 8), (.inl (i8, o8) : qV)), ((211, 34), (.inl (i34, o34) : qV)), ((211, 35), (.inl (i35, o35) : qV)), ((211, 36), (.inl (i36, o36) : qV)), ((211, 37), (.inl (i37, o37) : qV)), ((211, 38), (.inl (i38, o38) : qV))] aw := by
  obtain ⟨g0, k3, k4, k6, k7, k8, k34, k35, k36, k37, k38⟩ := h
  obtain ⟨b1, b2, b3, b4, b5, b6, b7, b8, b9⟩ := hb
  exact hOK_mk g0 (all_cons ⟨_, k3, vN h3 b1⟩ (all_cons ⟨_, k4, vN h4 (by decide)⟩ (all_cons ⟨_, k6, vN h6 b2⟩ (all_cons ⟨_, k7, vN h7 b3⟩ (all_cons ⟨_, k8, vN h8 b4⟩ (all_cons ⟨_, k34, vN h34 b5⟩ (all_cons ⟨_, k35, vN h35 b6⟩ (all_cons ⟨_, k36, vN h36 b7⟩ (all_cons ⟨_, k37, vN h37 b8⟩ (all_cons ⟨_, k38, vN h38 b9⟩ all_nil))))))))))
theorem RS_ag {r : Nat} {md : List (Nat × Nat)} {aw aw' : List rC} {a e s t c p w u : Nat} (h : RS r aw a e s t c p w u) (hh : hOK qH [0] [] aw') (ha : ag qH md aw aw') (hm : mdfree md [53] = true) : RS r aw' a e s t c p w u := by
  obtain ⟨g0, k3, k4, k6, k7, k8, k34, k35, k36, k37, k38⟩ := h
  have key : ∀ j, sl aw' 211 j = sl aw 211 j := fun j => ha.2 211 53 j (by decide +kernel) (mdfree_ok hm (by decide))
  exact ⟨hh, by rw [key]; exact k3, by rw [key]; exact k4, by rw [key]; exact k6, by rw [key]; exact k7, by rw [key]; exact k8, by rw [key]; exact k34, by rw [key]; exact k35, by rw [key]; exact k36, by rw [key]; exact k37, by rw [key]; exact k38⟩
theorem ev_push {L : List Nat} {M : rM} {pc i : Nat} (hmk : mTab M pc = some (.invokevirtual i, 3) ∧ kf tA (mOwn M) i = some (0, 255, 2, 12)) {lw : rK} {r : List rV} {D : rD} {aw : List rC} {c z x y p d : Nat} (hcz : c ≤ mC M ∧ z ≤ mS M) (hr : rep D aw) (hh : hOK qH [0] [] aw) (hx : x ≤ 8) (hy : y < 4294967296) (hp : p + 1 ≤ 40) (hs : sl aw 211 37 = some (.inl p)) (h8 : csum r ≤ 8) {v0 : rV} (hv0 : vOK qH [] (.inr (.inr (some 53))) v0) {Post : Option rV → rD → Prop} (kk : ∀ D' aw', rep D' aw' → hOK qH [0] [] aw' → ag qH [(53, 37), (75, 9999), (76, 9999)] aw aw' → sl aw' 211 37 = some (.inl (p + 1)) → (∀ j, sl aw' 233 j = if j = p then some (.inl x) else sl aw 233 j) → (∀ j, sl aw' 234 j = if j = p then some (.inl y) else sl aw 234 j) → Ev L (d + 1) M (Nat.add pc 3, lw, r, D', c, z) Post) : Ev L (d + 1) M (pc, lw, .inl y :: .inl x :: v0 :: r, D, c, z) Post := by
  rw [refM hv0]
  obtain ⟨q, q1, q2⟩ := atM hh
  obtain ⟨M', m1, m2, m3, m4, m5⟩ : ∃ M', mT 255 = some M' ∧ mLoc M' ≤ 80 ∧ mC M' = 0 ∧ mS M' = 0 ∧ mLoc M' = 3 := ⟨_, rfl, by decide +kernel, rfl, rfl, rfl⟩
  refine Ev_call (st_callv hmk (As := [.inl x, .inl y]) rfl hr q1 q2 h8) m1 (by rw [m5]; exact Nat.le_refl 3) m2 (by rw [m3]; exact hcz.1) (by rw [m4]; exact hcz.2) (X12_pushE_ok m1 (d := d) x y p hx hy (by omega) hr hh hs ⟨_, rfl, vM⟩ rfl rfl) ?_
  rintro v D' ⟨a4, aw', a1, a2, a3, a5, a6, a7⟩
  subst a4
  rw [m3, m4]
  exact kk D' aw' a1 (a2 hp) a3 a5 a6 a7
theorem ev_emit {L : List Nat} {M : rM} {pc i : Nat} (hmk : mTab M pc = some (.invokevirtual i, 3) ∧ kf tA (mOwn M) i = some (0, 256, 2, 12)) {lw : rK} {r : List rV} {D : rD} {aw : List rC} {c z x y p d : Nat} (hcz : c ≤ mC M ∧ z ≤ mS M) (hr : rep D aw) (hh : hOK qH [0] [] aw) (hx : x < 4294967296) (hy : y < 4294967296) (hp : p + 1 ≤ 1120) (hs : sl aw 211 35 = some (.inl p)) (h8 : csum r ≤ 8) {v0 : rV} (hv0 : vOK qH [] (.inr (.inr (some 53))) v0) {Post : Option rV → rD → Prop} (kk : ∀ D' aw', rep D' aw' → hOK qH [0] [] aw' → ag qH [(53, 35), (73, 9999), (74, 9999)] aw aw' → sl aw' 211 35 = some (.inl (p + 1)) → (∀ j, sl aw' pCode j = if j = p then some (.inl x) else sl aw pCode j) → Ev L (d + 1) M (Nat.add pc 3, lw, r, D', c, z) Post) : Ev L (d + 1) M (pc, lw, .inl y :: .inl x :: v0 :: r, D, c, z) Post := by
  rw [refM hv0]
  obtain ⟨q, q1, q2⟩ := atM hh
  obtain ⟨M', m1, m2, m3, m4, m5⟩ : ∃ M', mT 256 = some M' ∧ mLoc M' ≤ 80 ∧ mC M' = 0 ∧ mS M' = 0 ∧ mLoc M' = 3 := ⟨_, rfl, by decide +kernel, rfl, rfl, rfl⟩
  refine Ev_call (st_callv hmk (As := [.inl x, .inl y]) rfl hr q1 q2 h8) m1 (by rw [m5]; exact Nat.le_refl 3) m2 (by rw [m3]; exact hcz.1) (by rw [m4]; exact hcz.2) (X12_emit_ok m1 (d := d) x y p hx hy (by omega) hr hh hs ⟨_, rfl, vM⟩ rfl rfl) ?_
  rintro v D' ⟨a4, aw', a1, a2, a3, a5, a6, a7⟩
  subst a4
  rw [m3, m4]
  exact kk D' aw' a1 (a2 hp) a3 a5 a6
