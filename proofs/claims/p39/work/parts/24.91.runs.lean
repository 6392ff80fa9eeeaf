def P_ic0 : qP := (qH, false, [], false, [], [], [7])
def po_ic0 : List qPo := []
def cu_ic0 : List qCu := []
def hc_ic0 : List hCu := [(7, 0, ([], [(0, .inr (.inr (some 53))), (1, .inl (1, (-1)))], ([(0, 0), (1, 40)], [], []), []))]
def E_ic0 : qE := ([(0, 0), (1, 40)], [], [])
def C_ic0 : qC := [((211, 37), .inl (1, 0))]
def lv_ic0 : qK := [(0, .inr (.inr (some 53)))]
def st_ic0 : List qV := []
set_option maxRecDepth 1000000 in
theorem ch_ic0 : chkHm P_ic0 2 2 1000000 0 257 E_ic0 C_ic0 0 lv_ic0 st_ic0 po_ic0 cu_ic0 hc_ic0 = true := by decide +kernel
def P_ic1 : qP := (qH, false, [], false, [], [], [12])
def po_ic1 : List qPo := []
def cu_ic1 : List qCu := []
def hc_ic1 : List hCu := [(12, 2, ([], [(0, .inr (.inr (some 53))), (1, .inl (1, 0)), (200, .inl (1, 0)), (201, .inr (.inr (some 75)))], ([(0, 0), (0, 40)], [], []), []))]
def E_ic1 : qE := ([(0, 0), (0, 40)], [], [])
def C_ic1 : qC := []
def lv_ic1 : qK := [(0, .inr (.inr (some 53))), (1, .inl (1, 0))]
def st_ic1 : List qV := []
set_option maxRecDepth 1000000 in
theorem ch_ic1 : chkHm P_ic1 2 2 1000000 0 257 E_ic1 C_ic1 7 lv_ic1 st_ic1 po_ic1 cu_ic1 hc_ic1 = true := by decide +kernel
def P_ic2a : qP := (qH, false, [], false, [], [], [7])
def po_ic2a : List qPo := []
def cu_ic2a : List qCu := []
def hc_ic2a : List hCu := [(7, 0, ([], [(0, .inr (.inr (some 53))), (1, .inl (1, (-1)))], ([(0, 0), (1, 40)], [], []), []))]
def E_ic2a : qE := ([(0, 0), (1, 40)], [], [])
def C_ic2a : qC := []
def lv_ic2a : qK := [(0, .inr (.inr (some 53))), (1, .inl (1, 0))]
def st_ic2a : List qV := [.inl (0, 5)]
set_option maxRecDepth 1000000 in
theorem ch_ic2a : chkHm P_ic2a 2 2 1000000 0 257 E_ic2a C_ic2a 13 lv_ic2a st_ic2a po_ic2a cu_ic2a hc_ic2a = true := by decide +kernel
def P_ic2b : qP := (qH, false, [], false, [], [], [22])
def po_ic2b : List qPo := []
def cu_ic2b : List qCu := []
def hc_ic2b : List hCu := [(22, 2, ([], [(0, .inr (.inr (some 53))), (1, .inl (1, 0)), (200, .inl (1, 0)), (201, .inr (.inr (some 75)))], ([(0, 0), (0, 40), (0, 4)], [], []), []))]
def E_ic2b : qE := ([(0, 0), (0, 40), (0, 4)], [], [])
def C_ic2b : qC := []
def lv_ic2b : qK := [(0, .inr (.inr (some 53))), (1, .inl (1, 0))]
def st_ic2b : List qV := [.inl (2, 0)]
set_option maxRecDepth 1000000 in
theorem ch_ic2b : chkHm P_ic2b 3 2 1000000 0 257 E_ic2b C_ic2b 13 lv_ic2b st_ic2b po_ic2b cu_ic2b hc_ic2b = true := by decide +kernel
def P_ic2c : qP := (qH, false, [], false, [], [], [22])
def po_ic2c : List qPo := []
def cu_ic2c : List qCu := []
def hc_ic2c : List hCu := [(22, 2, ([], [(0, .inr (.inr (some 53))), (1, .inl (1, 0)), (200, .inl (1, 0)), (201, .inr (.inr (some 75)))], ([(0, 0), (0, 40), (6, 8)], [], []), []))]
def E_ic2c : qE := ([(0, 0), (0, 40), (6, 8)], [], [])
def C_ic2c : qC := []
def lv_ic2c : qK := [(0, .inr (.inr (some 53))), (1, .inl (1, 0))]
def st_ic2c : List qV := [.inl (2, 0)]
set_option maxRecDepth 1000000 in
theorem ch_ic2c : chkHm P_ic2c 3 2 1000000 0 257 E_ic2c C_ic2c 13 lv_ic2c st_ic2c po_ic2c cu_ic2c hc_ic2c = true := by decide +kernel
def P_ic3a : qP := (qH, false, [], false, [], [], [7])
def po_ic3a : List qPo := []
def cu_ic3a : List qCu := []
def hc_ic3a : List hCu := [(7, 0, ([], [(0, .inr (.inr (some 53))), (1, .inl (1, (-1)))], ([(0, 0), (1, 40)], [], []), []))]
def E_ic3a : qE := ([(0, 0), (1, 40)], [], [])
def C_ic3a : qC := []
def lv_ic3a : qK := [(0, .inr (.inr (some 53))), (1, .inl (1, 0))]
def st_ic3a : List qV := [.inl (0, 6)]
set_option maxRecDepth 1000000 in
theorem ch_ic3a : chkHm P_ic3a 2 2 1000000 0 257 E_ic3a C_ic3a 23 lv_ic3a st_ic3a po_ic3a cu_ic3a hc_ic3a = true := by decide +kernel
def P_ic3b : qP := (qH, false, [], false, [], [], [39])
def po_ic3b : List qPo := []
def cu_ic3b : List qCu := []
def hc_ic3b : List hCu := [(39, 2, ([], [(0, .inr (.inr (some 53))), (1, .inl (1, 0)), (200, .inl (1, 0)), (201, .inr (.inr (some 75)))], ([(0, 0), (0, 40), (0, 4)], [], []), []))]
def E_ic3b : qE := ([(0, 0), (0, 40), (0, 4)], [], [])
def C_ic3b : qC := []
def lv_ic3b : qK := [(0, .inr (.inr (some 53))), (1, .inl (1, 0))]
def st_ic3b : List qV := [.inl (2, 0)]
set_option maxRecDepth 1000000 in
theorem ch_ic3b : chkHm P_ic3b 3 2 1000000 0 257 E_ic3b C_ic3b 23 lv_ic3b st_ic3b po_ic3b cu_ic3b hc_ic3b = true := by decide +kernel
def P_ic3c : qP := (qH, false, [], false, [], [], [39])
def po_ic3c : List qPo := []
def cu_ic3c : List qCu := []
def hc_ic3c : List hCu := [(39, 2, ([], [(0, .inr (.inr (some 53))), (1, .inl (1, 0)), (200, .inl (1, 0)), (201, .inr (.inr (some 75)))], ([(0, 0), (0, 40), (7, 8)], [], []), []))]
def E_ic3c : qE := ([(0, 0), (0, 40), (7, 8)], [], [])
def C_ic3c : qC := []
def lv_ic3c : qK := [(0, .inr (.inr (some 53))), (1, .inl (1, 0))]
def st_ic3c : List qV := [.inl (2, 0)]
set_option maxRecDepth 1000000 in
theorem ch_ic3c : chkHm P_ic3c 3 2 1000000 0 257 E_ic3c C_ic3c 23 lv_ic3c st_ic3c po_ic3c cu_ic3c hc_ic3c = true := by decide +kernel
def P_ic4 : qP := (qH, false, [], false, [], [], [])
def po_ic4 : List qPo := [([.inl 0], some (.inl (2, 0)), ([(0, 0), (0, 8), (0, 1)], [], []), [])]
def cu_ic4 : List qCu := []
def hc_ic4 : List hCu := []
def E_ic4 : qE := ([(0, 0), (0, 8)], [], [])
def C_ic4 : qC := []
def lv_ic4 : qK := [(0, .inr (.inr (some 53)))]
def st_ic4 : List qV := [.inl (1, 0)]
set_option maxRecDepth 1000000 in
theorem ch_ic4 : chkHm P_ic4 2 2 1000000 0 257 E_ic4 C_ic4 40 lv_ic4 st_ic4 po_ic4 cu_ic4 hc_ic4 = true := by decide +kernel
theorem mt_X12_isCompared_12 {M : rM} (h : mT 257 = some M) : mTab M 12 = some (.iaload, 1) := by
  have e : (mT 257).bind (fun M => mTab M 12) = some (.iaload, 1) := by rfl
  rw [h] at e
  exact e
theorem mt_X12_isCompared_22 {M : rM} (h : mT 257 = some M) : mTab M 22 = some (.iaload, 1) := by
  have e : (mT 257).bind (fun M => mTab M 22) = some (.iaload, 1) := by rfl
  rw [h] at e
  exact e
theorem mt_X12_isCompared_39 {M : rM} (h : mT 257 = some M) : mTab M 39 = some (.iaload, 1) := by
  have e : (mT 257).bind (fun M => mTab M 39) = some (.iaload, 1) := by rfl
  rw [h] at e
  exact e
def P_q0 : qP := (qH, false, [], false, [], [], [1])
def po_q0 : List qPo := []
def cu_q0 : List qCu := []
def hc_q0 : List hCu := [(1, 1, ([], [(0, .inr (.inr (some 53))), (200, .inr (.inr (some 53)))], ([(0, 0)], [], []), []))]
def E_q0 : qE := ([(0, 0)], [], [])
def C_q0 : qC := []
def lv_q0 : qK := [(0, .inr (.inr (some 53)))]
def st_q0 : List qV := []
set_option maxRecDepth 1000000 in
theorem ch_q0 : chkHm P_q0 1 2 1000000 0 254 E_q0 C_q0 0 lv_q0 st_q0 po_q0 cu_q0 hc_q0 = true := by decide +kernel
def P_q4a : qP := (qH, false, [], false, [], [], [11, 23])
def po_q4a : List qPo := []
def cu_q4a : List qCu := []
def hc_q4a : List hCu := [(23, 0, ([], [(0, .inr (.inr (some 53))), (1, .inl (1, 0))], ([(0, 0), (0, 0)], [], []), []))]
def E_q4a : qE := ([(0, 0), (0, 0)], [], [])
def C_q4a : qC := []
def lv_q4a : qK := [(0, .inr (.inr (some 53)))]
def st_q4a : List qV := [.inl (1, 0)]
set_option maxRecDepth 1000000 in
theorem ch_q4a : chkHm P_q4a 2 2 1000000 0 254 E_q4a C_q4a 4 lv_q4a st_q4a po_q4a cu_q4a hc_q4a = true := by decide +kernel
def P_q4b : qP := (qH, false, [], false, [], [], [11, 23])
def po_q4b : List qPo := []
def cu_q4b : List qCu := []
def hc_q4b : List hCu := [(23, 0, ([], [(0, .inr (.inr (some 53))), (1, .inl (1, 0))], ([(0, 0), (1, 1)], [], []), []))]
def E_q4b : qE := ([(0, 0), (1, 1)], [], [])
def C_q4b : qC := []
def lv_q4b : qK := [(0, .inr (.inr (some 53)))]
def st_q4b : List qV := [.inl (1, 0)]
set_option maxRecDepth 1000000 in
theorem ch_q4b : chkHm P_q4b 2 2 1000000 0 254 E_q4b C_q4b 4 lv_q4b st_q4b po_q4b cu_q4b hc_q4b = true := by decide +kernel
def P_q4c : qP := (qH, false, [], false, [], [], [11, 23])
def po_q4c : List qPo := []
def cu_q4c : List qCu := []
def hc_q4c : List hCu := [(23, 0, ([], [(0, .inr (.inr (some 53))), (1, .inl (1, 0))], ([(0, 0), (2, 2)], [], []), []))]
def E_q4c : qE := ([(0, 0), (2, 2)], [], [])
def C_q4c : qC := []
def lv_q4c : qK := [(0, .inr (.inr (some 53)))]
def st_q4c : List qV := [.inl (1, 0)]
set_option maxRecDepth 1000000 in
theorem ch_q4c : chkHm P_q4c 2 2 1000000 0 254 E_q4c C_q4c 4 lv_q4c st_q4c po_q4c cu_q4c hc_q4c = true := by decide +kernel
def P_q4d : qP := (qH, false, [], false, [], [], [11, 23])
def po_q4d : List qPo := []
def cu_q4d : List qCu := []
def hc_q4d : List hCu := [(23, 0, ([], [(0, .inr (.inr (some 53))), (1, .inl (1, 0))], ([(0, 0), (5, 6)], [], []), []))]
def E_q4d : qE := ([(0, 0), (5, 6)], [], [])
def C_q4d : qC := []
def lv_q4d : qK := [(0, .inr (.inr (some 53)))]
def st_q4d : List qV := [.inl (1, 0)]
set_option maxRecDepth 1000000 in
theorem ch_q4d : chkHm P_q4d 2 2 1000000 0 254 E_q4d C_q4d 4 lv_q4d st_q4d po_q4d cu_q4d hc_q4d = true := by decide +kernel
def P_q4e : qP := (qH, false, [], false, [], [], [11, 23])
def po_q4e : List qPo := []
def cu_q4e : List qCu := []
def hc_q4e : List hCu := [(11, 1, ([], [(0, .inr (.inr (some 53))), (1, .inl (1, 0)), (200, .inr (.inr (some 53)))], ([(0, 0), (4, 4)], [], []), []))]
def E_q4e : qE := ([(0, 0), (4, 4)], [], [])
def C_q4e : qC := []
def lv_q4e : qK := [(0, .inr (.inr (some 53)))]
def st_q4e : List qV := [.inl (1, 0)]
set_option maxRecDepth 1000000 in
theorem ch_q4e : chkHm P_q4e 2 2 1000000 0 254 E_q4e C_q4e 4 lv_q4e st_q4e po_q4e cu_q4e hc_q4e = true := by decide +kernel
def P_q14z : qP := (qH, false, [], false, [], [], [23])
def po_q14z : List qPo := []
def cu_q14z : List qCu := []
def hc_q14z : List hCu := [(23, 0, ([], [(0, .inr (.inr (some 53))), (1, .inl (1, 0))], ([(0, 0), (4, 4)], [], []), []))]
def E_q14z : qE := ([(0, 0), (4, 4)], [], [])
def C_q14z : qC := []
def lv_q14z : qK := [(0, .inr (.inr (some 53))), (1, .inl (1, 0))]
def st_q14z : List qV := [.inl (0, 0)]
set_option maxRecDepth 1000000 in
theorem ch_q14z : chkHm P_q14z 2 2 1000000 0 254 E_q14z C_q14z 14 lv_q14z st_q14z po_q14z cu_q14z hc_q14z = true := by decide +kernel
def P_bl0 : qP := (qH, false, [], false, [], [], [33])
def po_bl0 : List qPo := []
def cu_bl0 : List qCu := []
def hc_bl0 : List hCu := [(33, 2, ([], [(0, .inr (.inr (some 53))), (1, .inl (1, 0)), (200, .inl (2, (-1))), (201, .inr (.inr (some 75)))], ([(0, 0), (0, 6), (1, 40)], [], []), [((211, 37), .inl (2, 0))]))]
def E_bl0 : qE := ([(0, 0), (0, 6), (1, 40)], [], [])
def C_bl0 : qC := [((211, 37), .inl (2, 0))]
def lv_bl0 : qK := [(0, .inr (.inr (some 53))), (1, .inl (1, 0))]
def st_bl0 : List qV := []
set_option maxRecDepth 1000000 in
theorem ch_bl0 : chkHm P_bl0 3 2 1000000 0 254 E_bl0 C_bl0 23 lv_bl0 st_bl0 po_bl0 cu_bl0 hc_bl0 = true := by decide +kernel
def P_bl1 : qP := (qH, false, [], false, [], [], [49])
def po_bl1 : List qPo := []
def cu_bl1 : List qCu := []
def hc_bl1 : List hCu := [(49, 2, ([], [(0, .inr (.inr (some 53))), (1, .inl (1, 0)), (200, .inl (2, (-1))), (201, .inr (.inr (some 75)))], ([(0, 0), (0, 6), (1, 40), (0, 6)], [], []), [((211, 37), .inl (2, 0))]))]
def E_bl1 : qE := ([(0, 0), (0, 6), (1, 40), (0, 6)], [], [])
def C_bl1 : qC := [((211, 37), .inl (2, 0))]
def lv_bl1 : qK := [(0, .inr (.inr (some 53))), (1, .inl (1, 0))]
def st_bl1 : List qV := [.inl (3, 0)]
set_option maxRecDepth 1000000 in
theorem ch_bl1 : chkHm P_bl1 4 2 1000000 0 254 E_bl1 C_bl1 34 lv_bl1 st_bl1 po_bl1 cu_bl1 hc_bl1 = true := by decide +kernel
def P_bl2a : qP := (qH, false, [(53, 37)], false, [], [], [72, 135, 138, 165])
def po_bl2a : List qPo := []
def cu_bl2a : List qCu := []
def hc_bl2a : List hCu := [(72, 2, ([], [(0, .inr (.inr (some 53))), (1, .inl (1, 0)), (200, .inl (2, (-1))), (201, .inr (.inr (some 75)))], ([(0, 0), (0, 0), (1, 40), (0, 1600), (1, 6)], [], []), [((211, 6), .inl (3, 0)), ((211, 37), .inl (2, (-1)))]))]
def E_bl2a : qE := ([(0, 0), (0, 0), (1, 40), (0, 1600), (1, 6)], [], [])
def C_bl2a : qC := [((211, 6), .inl (3, 0)), ((211, 37), .inl (2, 0))]
def lv_bl2a : qK := [(0, .inr (.inr (some 53))), (1, .inl (1, 0))]
def st_bl2a : List qV := [.inl (4, 0)]
set_option maxRecDepth 1000000 in
theorem ch_bl2a : chkHm P_bl2a 5 2 1000000 0 254 E_bl2a C_bl2a 50 lv_bl2a st_bl2a po_bl2a cu_bl2a hc_bl2a = true := by decide +kernel
def P_bl6a : qP := (qH, false, [(53, 37)], false, [], [], [49, 135, 138, 165])
def po_bl6a : List qPo := []
def cu_bl6a : List qCu := []
def hc_bl6a : List hCu := [(165, 2, ([], [(0, .inr (.inr (some 53))), (1, .inl (1, 0)), (200, .inl (2, (-1))), (201, .inr (.inr (some 75)))], ([(0, 0), (0, 0), (1, 40), (0, 1600), (7, 8)], [], []), [((211, 6), .inl (3, 0)), ((211, 37), .inl (2, (-1)))]))]
def E_bl6a : qE := ([(0, 0), (0, 0), (1, 40), (0, 1600), (7, 8)], [], [])
def C_bl6a : qC := [((211, 6), .inl (3, 0)), ((211, 37), .inl (2, 0))]
def lv_bl6a : qK := [(0, .inr (.inr (some 53))), (1, .inl (1, 0))]
def st_bl6a : List qV := [.inl (4, 0)]
set_option maxRecDepth 1000000 in
theorem ch_bl6a : chkHm P_bl6a 5 2 1000000 0 254 E_bl6a C_bl6a 34 lv_bl6a st_bl6a po_bl6a cu_bl6a hc_bl6a = true := by decide +kernel
def P_bl2b : qP := (qH, false, [(53, 37)], false, [], [], [72, 135, 138, 165])
def po_bl2b : List qPo := []
def cu_bl2b : List qCu := []
def hc_bl2b : List hCu := [(72, 2, ([], [(0, .inr (.inr (some 53))), (1, .inl (1, 0)), (200, .inl (2, (-1))), (201, .inr (.inr (some 75)))], ([(0, 0), (1, 1), (1, 40), (0, 1600), (1, 6)], [], []), [((211, 6), .inl (3, 0)), ((211, 37), .inl (2, (-1)))])), (138, 3, ([], [(0, .inr (.inr (some 53))), (1, .inl (1, 0)), (200, .inl (0, 124)), (201, .inl (1, 0)), (202, .inr (.inr (some 53)))], ([(0, 0), (1, 1), (1, 40), (0, 1600), (1, 6)], [], []), [((211, 6), .inl (3, 0)), ((211, 37), .inl (2, 0))]))]
def E_bl2b : qE := ([(0, 0), (1, 1), (1, 40), (0, 1600), (1, 6)], [], [])
def C_bl2b : qC := [((211, 6), .inl (3, 0)), ((211, 37), .inl (2, 0))]
def lv_bl2b : qK := [(0, .inr (.inr (some 53))), (1, .inl (1, 0))]
def st_bl2b : List qV := [.inl (4, 0)]
set_option maxRecDepth 1000000 in
theorem ch_bl2b : chkHm P_bl2b 5 2 1000000 0 254 E_bl2b C_bl2b 50 lv_bl2b st_bl2b po_bl2b cu_bl2b hc_bl2b = true := by decide +kernel
def P_bl6b : qP := (qH, false, [], false, [], [], [49, 135, 138, 165])
def po_bl6b : List qPo := []
def cu_bl6b : List qCu := []
def hc_bl6b : List hCu := [(138, 3, ([], [(0, .inr (.inr (some 53))), (1, .inl (1, 0)), (200, .inl (0, 124)), (201, .inl (1, 0)), (202, .inr (.inr (some 53)))], ([(0, 0), (1, 1), (1, 40), (0, 1600), (7, 8)], [], []), [((211, 6), .inl (3, 0)), ((211, 37), .inl (2, 0))]))]
def E_bl6b : qE := ([(0, 0), (1, 1), (1, 40), (0, 1600), (7, 8)], [], [])
def C_bl6b : qC := [((211, 6), .inl (3, 0)), ((211, 37), .inl (2, 0))]
def lv_bl6b : qK := [(0, .inr (.inr (some 53))), (1, .inl (1, 0))]
def st_bl6b : List qV := [.inl (4, 0)]
set_option maxRecDepth 1000000 in
theorem ch_bl6b : chkHm P_bl6b 5 2 1000000 0 254 E_bl6b C_bl6b 34 lv_bl6b st_bl6b po_bl6b cu_bl6b hc_bl6b = true := by decide +kernel
def P_bl2c : qP := (qH, false, [(53, 37)], false, [], [], [72, 135, 138, 165])
def po_bl2c : List qPo := []
def cu_bl2c : List qCu := []
def hc_bl2c : List hCu := [(72, 2, ([], [(0, .inr (.inr (some 53))), (1, .inl (1, 0)), (200, .inl (2, (-1))), (201, .inr (.inr (some 75)))], ([(0, 0), (2, 2), (1, 40), (0, 1600), (1, 6)], [], []), [((211, 6), .inl (3, 0)), ((211, 37), .inl (2, (-1)))])), (138, 3, ([], [(0, .inr (.inr (some 53))), (1, .inl (1, 0)), (200, .inl (0, 38)), (201, .inl (1, 0)), (202, .inr (.inr (some 53)))], ([(0, 0), (2, 2), (1, 40), (0, 1600), (1, 6)], [], []), [((211, 6), .inl (3, 0)), ((211, 37), .inl (2, 0))]))]
def E_bl2c : qE := ([(0, 0), (2, 2), (1, 40), (0, 1600), (1, 6)], [], [])
def C_bl2c : qC := [((211, 6), .inl (3, 0)), ((211, 37), .inl (2, 0))]
def lv_bl2c : qK := [(0, .inr (.inr (some 53))), (1, .inl (1, 0))]
def st_bl2c : List qV := [.inl (4, 0)]
set_option maxRecDepth 1000000 in
theorem ch_bl2c : chkHm P_bl2c 5 2 1000000 0 254 E_bl2c C_bl2c 50 lv_bl2c st_bl2c po_bl2c cu_bl2c hc_bl2c = true := by decide +kernel
def P_bl6c : qP := (qH, false, [], false, [], [], [49, 135, 138, 165])
def po_bl6c : List qPo := []
def cu_bl6c : List qCu := []
def hc_bl6c : List hCu := [(138, 3, ([], [(0, .inr (.inr (some 53))), (1, .inl (1, 0)), (200, .inl (0, 38)), (201, .inl (1, 0)), (202, .inr (.inr (some 53)))], ([(0, 0), (2, 2), (1, 40), (0, 1600), (7, 8)], [], []), [((211, 6), .inl (3, 0)), ((211, 37), .inl (2, 0))]))]
def E_bl6c : qE := ([(0, 0), (2, 2), (1, 40), (0, 1600), (7, 8)], [], [])
def C_bl6c : qC := [((211, 6), .inl (3, 0)), ((211, 37), .inl (2, 0))]
def lv_bl6c : qK := [(0, .inr (.inr (some 53))), (1, .inl (1, 0))]
def st_bl6c : List qV := [.inl (4, 0)]
set_option maxRecDepth 1000000 in
theorem ch_bl6c : chkHm P_bl6c 5 2 1000000 0 254 E_bl6c C_bl6c 34 lv_bl6c st_bl6c po_bl6c cu_bl6c hc_bl6c = true := by decide +kernel
def P_bl2d : qP := (qH, false, [(53, 37)], false, [], [], [72, 135, 138, 165])
def po_bl2d : List qPo := []
def cu_bl2d : List qCu := []
def hc_bl2d : List hCu := [(72, 2, ([], [(0, .inr (.inr (some 53))), (1, .inl (1, 0)), (200, .inl (2, (-1))), (201, .inr (.inr (some 75)))], ([(0, 0), (4, 6), (1, 40), (0, 1600), (1, 6)], [], []), [((211, 6), .inl (3, 0)), ((211, 37), .inl (2, (-1)))])), (135, 4, ([], [(0, .inr (.inr (some 53))), (1, .inl (1, 0)), (200, .inl (3, 0)), (201, .inr (.inr (some 53))), (202, .inl (1, 0)), (203, .inr (.inr (some 53)))], ([(0, 0), (4, 6), (1, 40), (0, 1600), (1, 6)], [], []), [((211, 6), .inl (3, 0)), ((211, 37), .inl (2, 0))]))]
def E_bl2d : qE := ([(0, 0), (4, 6), (1, 40), (0, 1600), (1, 6)], [], [])
def C_bl2d : qC := [((211, 6), .inl (3, 0)), ((211, 37), .inl (2, 0))]
def lv_bl2d : qK := [(0, .inr (.inr (some 53))), (1, .inl (1, 0))]
def st_bl2d : List qV := [.inl (4, 0)]
set_option maxRecDepth 1000000 in
theorem ch_bl2d : chkHm P_bl2d 5 2 1000000 0 254 E_bl2d C_bl2d 50 lv_bl2d st_bl2d po_bl2d cu_bl2d hc_bl2d = true := by decide +kernel
def P_bl6d : qP := (qH, false, [], false, [], [], [49, 135, 138, 165])
def po_bl6d : List qPo := []
def cu_bl6d : List qCu := []
def hc_bl6d : List hCu := [(135, 4, ([], [(0, .inr (.inr (some 53))), (1, .inl (1, 0)), (200, .inl (3, 0)), (201, .inr (.inr (some 53))), (202, .inl (1, 0)), (203, .inr (.inr (some 53)))], ([(0, 0), (4, 6), (1, 40), (0, 1600), (7, 8)], [], []), [((211, 6), .inl (3, 0)), ((211, 37), .inl (2, 0))]))]
def E_bl6d : qE := ([(0, 0), (4, 6), (1, 40), (0, 1600), (7, 8)], [], [])
def C_bl6d : qC := [((211, 6), .inl (3, 0)), ((211, 37), .inl (2, 0))]
def lv_bl6d : qK := [(0, .inr (.inr (some 53))), (1, .inl (1, 0))]
def st_bl6d : List qV := [.inl (4, 0)]
set_option maxRecDepth 1000000 in
theorem ch_bl6d : chkHm P_bl6d 5 2 1000000 0 254 E_bl6d C_bl6d 34 lv_bl6d st_bl6d po_bl6d cu_bl6d hc_bl6d = true := by decide +kernel
def P_bl3a : qP := (qH, false, [(53, 36)], false, [], [], [96])
def po_bl3a : List qPo := []
def cu_bl3a : List qCu := []
def hc_bl3a : List hCu := [(96, 3, ([], [(0, .inr (.inr (some 53))), (1, .inl (1, 0)), (200, .inl (2, 0)), (201, .inr (.inr (some 76))), (202, .inr (.inr (some 53)))], ([(0, 0), (0, 6), (0, 39), (1, 7), (3, 3)], [], []), [((211, 36), .inl (3, (-1))), ((211, 37), .inl (2, 0))]))]
def E_bl3a : qE := ([(0, 0), (0, 6), (0, 39), (1, 7), (3, 3)], [], [])
def C_bl3a : qC := [((211, 36), .inl (3, 0)), ((211, 37), .inl (2, 0))]
def lv_bl3a : qK := [(0, .inr (.inr (some 53))), (1, .inl (1, 0))]
def st_bl3a : List qV := [.inl (4, 0)]
set_option maxRecDepth 1000000 in
theorem ch_bl3a : chkHm P_bl3a 5 2 1000000 0 254 E_bl3a C_bl3a 73 lv_bl3a st_bl3a po_bl3a cu_bl3a hc_bl3a = true := by decide +kernel
def P_bl3b : qP := (qH, false, [], false, [], [], [96])
def po_bl3b : List qPo := []
def cu_bl3b : List qCu := []
def hc_bl3b : List hCu := [(96, 3, ([], [(0, .inr (.inr (some 53))), (1, .inl (1, 0)), (200, .inl (2, 0)), (201, .inr (.inr (some 76))), (202, .inr (.inr (some 53)))], ([(0, 0), (0, 6), (0, 39), (0, 7), (1, 2)], [], []), [((211, 36), .inl (3, 0)), ((211, 37), .inl (2, 0))]))]
def E_bl3b : qE := ([(0, 0), (0, 6), (0, 39), (0, 7), (1, 2)], [], [])
def C_bl3b : qC := [((211, 36), .inl (3, 0)), ((211, 37), .inl (2, 0))]
def lv_bl3b : qK := [(0, .inr (.inr (some 53))), (1, .inl (1, 0))]
def st_bl3b : List qV := [.inl (4, 0)]
set_option maxRecDepth 1000000 in
theorem ch_bl3b : chkHm P_bl3b 5 2 1000000 0 254 E_bl3b C_bl3b 73 lv_bl3b st_bl3b po_bl3b cu_bl3b hc_bl3b = true := by decide +kernel
def P_bl3c : qP := (qH, false, [], false, [], [], [96])
def po_bl3c : List qPo := []
def cu_bl3c : List qCu := []
def hc_bl3c : List hCu := [(96, 3, ([], [(0, .inr (.inr (some 53))), (1, .inl (1, 0)), (200, .inl (2, 0)), (201, .inr (.inr (some 76))), (202, .inr (.inr (some 53)))], ([(0, 0), (0, 6), (0, 39), (0, 7), (4, 6)], [], []), [((211, 36), .inl (3, 0)), ((211, 37), .inl (2, 0))]))]
def E_bl3c : qE := ([(0, 0), (0, 6), (0, 39), (0, 7), (4, 6)], [], [])
def C_bl3c : qC := [((211, 36), .inl (3, 0)), ((211, 37), .inl (2, 0))]
def lv_bl3c : qK := [(0, .inr (.inr (some 53))), (1, .inl (1, 0))]
def st_bl3c : List qV := [.inl (4, 0)]
set_option maxRecDepth 1000000 in
theorem ch_bl3c : chkHm P_bl3c 5 2 1000000 0 254 E_bl3c C_bl3c 73 lv_bl3c st_bl3c po_bl3c cu_bl3c hc_bl3c = true := by decide +kernel
def P_bl4 : qP := (qH, false, [], false, [], [], [98])
def po_bl4 : List qPo := []
def cu_bl4 : List qCu := []
def hc_bl4 : List hCu := [(98, 3, ([], [(0, .inr (.inr (some 53))), (1, .inl (1, 0)), (200, .inl (0, 0)), (201, .inl (2, 0)), (202, .inr (.inr (some 53)))], ([(0, 0), (0, 6), (0, 255)], [], []), []))]
def E_bl4 : qE := ([(0, 0), (0, 6), (0, 255)], [], [])
def C_bl4 : qC := []
def lv_bl4 : qK := [(0, .inr (.inr (some 53))), (1, .inl (1, 0))]
def st_bl4 : List qV := [.inl (2, 0), .inr (.inr (some 53))]
set_option maxRecDepth 1000000 in
theorem ch_bl4 : chkHm P_bl4 3 2 1000000 0 254 E_bl4 C_bl4 97 lv_bl4 st_bl4 po_bl4 cu_bl4 hc_bl4 = true := by decide +kernel
def P_bl5 : qP := (qH, false, [], false, [], [], [23])
def po_bl5 : List qPo := []
def cu_bl5 : List qCu := []
def hc_bl5 : List hCu := [(23, 0, ([], [(0, .inr (.inr (some 53))), (1, .inl (1, 0))], ([(0, 0), (0, 6)], [], []), []))]
def E_bl5 : qE := ([(0, 0), (0, 6)], [], [])
def C_bl5 : qC := []
def lv_bl5 : qK := [(0, .inr (.inr (some 53))), (1, .inl (1, 0))]
def st_bl5 : List qV := []
set_option maxRecDepth 1000000 in
theorem ch_bl5 : chkHm P_bl5 2 2 1000000 0 254 E_bl5 C_bl5 101 lv_bl5 st_bl5 po_bl5 cu_bl5 hc_bl5 = true := by decide +kernel
theorem mt_X12_behindUnit_33 {M : rM} (h : mT 254 = some M) : mTab M 33 = some (.iaload, 1) := by
  have e : (mT 254).bind (fun M => mTab M 33) = some (.iaload, 1) := by rfl
  rw [h] at e
  exact e
theorem mt_X12_behindUnit_49 {M : rM} (h : mT 254 = some M) : mTab M 49 = some (.iaload, 1) := by
  have e : (mT 254).bind (fun M => mTab M 49) = some (.iaload, 1) := by rfl
  rw [h] at e
  exact e
theorem mt_X12_behindUnit_72 {M : rM} (h : mT 254 = some M) : mTab M 72 = some (.iaload, 1) := by
  have e : (mT 254).bind (fun M => mTab M 72) = some (.iaload, 1) := by rfl
  rw [h] at e
  exact e
theorem mt_X12_behindUnit_96 {M : rM} (h : mT 254 = some M) : mTab M 96 = some (.iaload, 1) := by
  have e : (mT 254).bind (fun M => mTab M 96) = some (.iaload, 1) := by rfl
  rw [h] at e
  exact e
theorem mt_X12_behindUnit_165 {M : rM} (h : mT 254 = some M) : mTab M 165 = some (.iaload, 1) := by
  have e : (mT 254).bind (fun M => mTab M 165) = some (.iaload, 1) := by rfl
  rw [h] at e
  exact e
theorem mk_X12_behindUnit_1 {M : rM} (h : mT 254 = some M) : mTab M 1 = some (.invokevirtual 313, 3) ∧ kf tA (mOwn M) 313 = some (0, 258, 0, 12) := by
  have e : (mT 254).bind (fun M => mTab M 1) = some (.invokevirtual 313, 3) := by rfl
  have e2 : (mT 254).bind (fun M => kf tA (mOwn M) 313) = some (0, 258, 0, 12) := by decide +kernel
  rw [h] at e e2
  exact ⟨e, e2⟩
theorem mk_X12_behindUnit_11 {M : rM} (h : mT 254 = some M) : mTab M 11 = some (.invokevirtual 316, 3) ∧ kf tA (mOwn M) 316 = some (0, 257, 0, 12) := by
  have e : (mT 254).bind (fun M => mTab M 11) = some (.invokevirtual 316, 3) := by rfl
  have e2 : (mT 254).bind (fun M => kf tA (mOwn M) 316) = some (0, 257, 0, 12) := by decide +kernel
  rw [h] at e e2
  exact ⟨e, e2⟩
theorem mk_X12_behindUnit_98 {M : rM} (h : mT 254 = some M) : mTab M 98 = some (.invokevirtual 310, 3) ∧ kf tA (mOwn M) 310 = some (0, 256, 2, 12) := by
  have e : (mT 254).bind (fun M => mTab M 98) = some (.invokevirtual 310, 3) := by rfl
  have e2 : (mT 254).bind (fun M => kf tA (mOwn M) 310) = some (0, 256, 2, 12) := by decide +kernel
  rw [h] at e e2
  exact ⟨e, e2⟩
theorem mk_X12_behindUnit_135 {M : rM} (h : mT 254 = some M) : mTab M 135 = some (.invokevirtual 185, 3) ∧ kf tA (mOwn M) 185 = some (0, 247, 1, 12) := by
  have e : (mT 254).bind (fun M => mTab M 135) = some (.invokevirtual 185, 3) := by rfl
  have e2 : (mT 254).bind (fun M => kf tA (mOwn M) 185) = some (0, 247, 1, 12) := by decide +kernel
  rw [h] at e e2
  exact ⟨e, e2⟩
theorem mk_X12_behindUnit_138 {M : rM} (h : mT 254 = some M) : mTab M 138 = some (.invokevirtual 297, 3) ∧ kf tA (mOwn M) 297 = some (0, 255, 2, 12) := by
  have e : (mT 254).bind (fun M => mTab M 138) = some (.invokevirtual 297, 3) := by rfl
  have e2 : (mT 254).bind (fun M => kf tA (mOwn M) 297) = some (0, 255, 2, 12) := by decide +kernel
  rw [h] at e e2
  exact ⟨e, e2⟩
def P_m00 : qP := (qH, false, [(53, 4), (53, 5)], false, [], [], [])
def po_m00 : List qPo := [([.inr (211, 4)], some (.inl (0, 1)), ([(0, 0), (0, 1600), (0, 1600), (0, 1600), (0, 290), (1, 40), (0, 7), (0, 30), (1, 4)], [(1, 2, 0), (2, 3, 0)], []), [((211, 3), .inl (3, 0)), ((211, 4), .inl (8, 0)), ((211, 6), .inl (1, 0)), ((211, 7), .inl (2, 0)), ((211, 8), .inl (0, 0)), ((211, 34), .inl (0, 0)), ((211, 35), .inl (4, 0)), ((211, 36), .inl (6, 0)), ((211, 37), .inl (5, 0)), ((211, 38), .inl (7, 0))])]
def cu_m00 : List qCu := []
def hc_m00 : List hCu := []
def E_m00 : qE := ([(0, 0), (0, 1600), (0, 1600), (0, 1600), (0, 290), (1, 40), (0, 7), (0, 30)], [(1, 2, 0), (2, 3, 0)], [])
def C_m00 : qC := [((211, 3), .inl (3, 0)), ((211, 4), .inl (0, 0)), ((211, 6), .inl (1, 0)), ((211, 7), .inl (2, 0)), ((211, 8), .inl (0, 0)), ((211, 34), .inl (0, 0)), ((211, 35), .inl (4, 0)), ((211, 36), .inl (6, 0)), ((211, 37), .inl (5, 0)), ((211, 38), .inl (7, 0))]
def lv_m00 : qK := [(0, .inr (.inr (some 53)))]
def st_m00 : List qV := [.inl (0, 1)]
set_option maxRecDepth 1000000 in
theorem ch_m00 : chkHm P_m00 8 2 1000000 2 254 E_m00 C_m00 14 lv_m00 st_m00 po_m00 cu_m00 hc_m00 = true := by decide +kernel
def P_x700 : qP := (qH, false, [(53, 4), (53, 5), (53, 36)], false, [], [], [])
def po_x700 : List qPo := [([.inr (211, 4)], some (.inl (0, 0)), ([(0, 0), (0, 1600), (0, 1600), (0, 1600), (0, 290), (0, 39), (1, 7), (0, 30), (1, 4)], [(1, 2, 0), (2, 3, 0)], []), [((211, 3), .inl (3, 0)), ((211, 4), .inl (8, 0)), ((211, 6), .inl (1, 0)), ((211, 7), .inl (2, 0)), ((211, 8), .inl (0, 0)), ((211, 34), .inl (0, 0)), ((211, 35), .inl (4, 0)), ((211, 36), .inl (6, (-1))), ((211, 37), .inl (5, 0)), ((211, 38), .inl (7, 0))])]
def cu_x700 : List qCu := []
def hc_x700 : List hCu := []
def E_x700 : qE := ([(0, 0), (0, 1600), (0, 1600), (0, 1600), (0, 290), (0, 39), (1, 7), (0, 30)], [(1, 2, 0), (2, 3, 0)], [])
def C_x700 : qC := [((211, 3), .inl (3, 0)), ((211, 4), .inl (0, 0)), ((211, 6), .inl (1, 0)), ((211, 7), .inl (2, 0)), ((211, 8), .inl (0, 0)), ((211, 34), .inl (0, 0)), ((211, 35), .inl (4, 0)), ((211, 36), .inl (6, 0)), ((211, 37), .inl (5, 0)), ((211, 38), .inl (7, 0))]
def lv_x700 : qK := [(0, .inr (.inr (some 53)))]
def st_x700 : List qV := [.inl (0, 7)]
set_option maxRecDepth 1000000 in
theorem ch_x700 : chkHm P_x700 8 2 1000000 3 254 E_x700 C_x700 166 lv_x700 st_x700 po_x700 cu_x700 hc_x700 = true := by decide +kernel
def P_x800 : qP := (qH, false, [], false, [], [], [])
def po_x800 : List qPo := [([], some (.inl (0, 0)), ([(0, 0), (0, 1600), (0, 1600), (0, 1600), (0, 290), (0, 39), (0, 7), (0, 30)], [(1, 2, 0), (2, 3, 0)], []), [((211, 3), .inl (3, 0)), ((211, 4), .inl (0, 0)), ((211, 6), .inl (1, 0)), ((211, 7), .inl (2, 0)), ((211, 8), .inl (0, 0)), ((211, 34), .inl (0, 0)), ((211, 35), .inl (4, 0)), ((211, 36), .inl (6, 0)), ((211, 37), .inl (5, 0)), ((211, 38), .inl (7, 0))])]
def cu_x800 : List qCu := []
def hc_x800 : List hCu := []
def E_x800 : qE := ([(0, 0), (0, 1600), (0, 1600), (0, 1600), (0, 290), (0, 39), (0, 7), (0, 30)], [(1, 2, 0), (2, 3, 0)], [])
def C_x800 : qC := [((211, 3), .inl (3, 0)), ((211, 4), .inl (0, 0)), ((211, 6), .inl (1, 0)), ((211, 7), .inl (2, 0)), ((211, 8), .inl (0, 0)), ((211, 34), .inl (0, 0)), ((211, 35), .inl (4, 0)), ((211, 36), .inl (6, 0)), ((211, 37), .inl (5, 0)), ((211, 38), .inl (7, 0))]
def lv_x800 : qK := [(0, .inr (.inr (some 53)))]
def st_x800 : List qV := [.inl (0, 8)]
set_option maxRecDepth 1000000 in
theorem ch_x800 : chkHm P_x800 8 2 1000000 0 254 E_x800 C_x800 166 lv_x800 st_x800 po_x800 cu_x800 hc_x800 = true := by decide +kernel
def P_m01 : qP := (qH, false, [(53, 4), (53, 5)], false, [], [], [])
def po_m01 : List qPo := [([.inr (211, 4)], some (.inl (0, 1)), ([(0, 0), (0, 1600), (0, 1600), (0, 1600), (0, 290), (1, 40), (0, 7), (0, 30), (1, 5), (1, 4)], [(1, 2, 1), (2, 3, 0)], []), [((211, 3), .inl (3, 0)), ((211, 4), .inl (9, 0)), ((211, 6), .inl (1, 0)), ((211, 7), .inl (2, 0)), ((211, 8), .inl (8, 0)), ((211, 34), .inl (0, 0)), ((211, 35), .inl (4, 0)), ((211, 36), .inl (6, 0)), ((211, 37), .inl (5, 0)), ((211, 38), .inl (7, 0))])]
def cu_m01 : List qCu := []
def hc_m01 : List hCu := []
def E_m01 : qE := ([(0, 0), (0, 1600), (0, 1600), (0, 1600), (0, 290), (1, 40), (0, 7), (0, 30), (1, 5)], [(1, 2, 1), (2, 3, 0)], [])
def C_m01 : qC := [((211, 3), .inl (3, 0)), ((211, 4), .inl (0, 0)), ((211, 6), .inl (1, 0)), ((211, 7), .inl (2, 0)), ((211, 8), .inl (8, 0)), ((211, 34), .inl (0, 0)), ((211, 35), .inl (4, 0)), ((211, 36), .inl (6, 0)), ((211, 37), .inl (5, 0)), ((211, 38), .inl (7, 0))]
def lv_m01 : qK := [(0, .inr (.inr (some 53)))]
def st_m01 : List qV := [.inl (0, 1)]
set_option maxRecDepth 1000000 in
theorem ch_m01 : chkHm P_m01 9 2 1000000 2 254 E_m01 C_m01 14 lv_m01 st_m01 po_m01 cu_m01 hc_m01 = true := by decide +kernel
def P_g01 : qP := (qH, false, [(53, 6), (53, 7), (53, 8), (53, 9), (53, 10)], false, [ct_2], [], [])
def po_g01 : List qPo := [([], some (.inl (0, 1)), ([(0, 0), (0, 1600), (0, 1600), (0, 1600), (0, 290), (1, 40), (0, 7), (0, 30), (1, 5)], [(1, 2, 1), (2, 3, 0)], []), [((211, 3), .inl (3, 0)), ((211, 4), .inl (0, 0)), ((211, 6), .inl (3, 0)), ((211, 7), .inl (3, 0)), ((211, 8), .inl (0, 0)), ((211, 34), .inl (0, 0)), ((211, 35), .inl (4, 0)), ((211, 36), .inl (6, 0)), ((211, 37), .inl (5, 0)), ((211, 38), .inl (7, 0))]), ([.inr (211, 8), .inr (211, 6), .inr (211, 7)], some (.inl (0, 1)), ([(0, 0), (0, 1600), (0, 1600), (0, 1600), (0, 290), (1, 40), (0, 7), (0, 30), (1, 5), (1, 5), (0, 1600), (0, 1600)], [(1, 2, 1), (2, 3, 0), (2, 10, 0), (10, 11, 1), (11, 3, 0)], []), [((211, 3), .inl (3, 0)), ((211, 4), .inl (0, 0)), ((211, 6), .inl (10, 0)), ((211, 7), .inl (11, 0)), ((211, 8), .inl (9, 0)), ((211, 34), .inl (0, 0)), ((211, 35), .inl (4, 0)), ((211, 36), .inl (6, 0)), ((211, 37), .inl (5, 0)), ((211, 38), .inl (7, 0))])]
def cu_g01 : List qCu := []
def hc_g01 : List hCu := []
def E_g01 : qE := ([(0, 0), (0, 1600), (0, 1600), (0, 1600), (0, 290), (1, 40), (0, 7), (0, 30), (1, 5)], [(1, 2, 1), (2, 3, 0)], [])
def C_g01 : qC := [((211, 3), .inl (3, 0)), ((211, 4), .inl (0, 0)), ((211, 6), .inl (1, 0)), ((211, 7), .inl (2, 0)), ((211, 8), .inl (8, 0)), ((211, 34), .inl (0, 0)), ((211, 35), .inl (4, 0)), ((211, 36), .inl (6, 0)), ((211, 37), .inl (5, 0)), ((211, 38), .inl (7, 0))]
def lv_g01 : qK := [(0, .inr (.inr (some 53)))]
def st_g01 : List qV := []
set_option maxRecDepth 1000000 in
theorem ch_g01 : chkHm P_g01 9 2 1000000 4 254 E_g01 C_g01 141 lv_g01 st_g01 po_g01 cu_g01 hc_g01 = true := by decide +kernel
def P_x701 : qP := (qH, false, [(53, 4), (53, 5), (53, 6), (53, 7), (53, 8), (53, 9), (53, 10), (53, 36)], false, [ct_2], [], [])
def po_x701 : List qPo := [([.inr (211, 4)], some (.inl (0, 0)), ([(0, 0), (0, 1600), (0, 1600), (0, 1600), (0, 290), (0, 39), (1, 7), (0, 30), (1, 5), (1, 4)], [(1, 2, 1), (2, 3, 0)], []), [((211, 3), .inl (3, 0)), ((211, 4), .inl (9, 0)), ((211, 6), .inl (1, 0)), ((211, 7), .inl (2, 0)), ((211, 8), .inl (8, 0)), ((211, 34), .inl (0, 0)), ((211, 35), .inl (4, 0)), ((211, 36), .inl (6, (-1))), ((211, 37), .inl (5, 0)), ((211, 38), .inl (7, 0))]), ([], some (.inl (0, 0)), ([(0, 0), (0, 1600), (0, 1600), (0, 1600), (0, 290), (0, 39), (1, 7), (0, 30), (1, 5)], [(1, 2, 1), (2, 3, 0)], []), [((211, 3), .inl (3, 0)), ((211, 4), .inl (0, 0)), ((211, 6), .inl (3, 0)), ((211, 7), .inl (3, 0)), ((211, 8), .inl (0, 0)), ((211, 34), .inl (0, 0)), ((211, 35), .inl (4, 0)), ((211, 36), .inl (6, (-1))), ((211, 37), .inl (5, 0)), ((211, 38), .inl (7, 0))]), ([.inr (211, 8), .inr (211, 6), .inr (211, 7)], some (.inl (0, 0)), ([(0, 0), (0, 1600), (0, 1600), (0, 1600), (0, 290), (0, 39), (1, 7), (0, 30), (1, 5), (1, 5), (0, 1600), (0, 1600)], [(1, 2, 1), (2, 3, 0), (2, 10, 0), (10, 11, 1), (11, 3, 0)], []), [((211, 3), .inl (3, 0)), ((211, 4), .inl (0, 0)), ((211, 6), .inl (10, 0)), ((211, 7), .inl (11, 0)), ((211, 8), .inl (9, 0)), ((211, 34), .inl (0, 0)), ((211, 35), .inl (4, 0)), ((211, 36), .inl (6, (-1))), ((211, 37), .inl (5, 0)), ((211, 38), .inl (7, 0))])]
def cu_x701 : List qCu := []
def hc_x701 : List hCu := []
def E_x701 : qE := ([(0, 0), (0, 1600), (0, 1600), (0, 1600), (0, 290), (0, 39), (1, 7), (0, 30), (1, 5)], [(1, 2, 1), (2, 3, 0)], [])
def C_x701 : qC := [((211, 3), .inl (3, 0)), ((211, 4), .inl (0, 0)), ((211, 6), .inl (1, 0)), ((211, 7), .inl (2, 0)), ((211, 8), .inl (8, 0)), ((211, 34), .inl (0, 0)), ((211, 35), .inl (4, 0)), ((211, 36), .inl (6, 0)), ((211, 37), .inl (5, 0)), ((211, 38), .inl (7, 0))]
def lv_x701 : qK := [(0, .inr (.inr (some 53)))]
def st_x701 : List qV := [.inl (0, 7)]
set_option maxRecDepth 1000000 in
theorem ch_x701 : chkHm P_x701 9 2 1000000 5 254 E_x701 C_x701 166 lv_x701 st_x701 po_x701 cu_x701 hc_x701 = true := by decide +kernel
def P_x801 : qP := (qH, false, [], false, [], [], [])
def po_x801 : List qPo := [([], some (.inl (0, 0)), ([(0, 0), (0, 1600), (0, 1600), (0, 1600), (0, 290), (0, 39), (0, 7), (0, 30), (1, 5)], [(1, 2, 1), (2, 3, 0)], []), [((211, 3), .inl (3, 0)), ((211, 4), .inl (0, 0)), ((211, 6), .inl (1, 0)), ((211, 7), .inl (2, 0)), ((211, 8), .inl (8, 0)), ((211, 34), .inl (0, 0)), ((211, 35), .inl (4, 0)), ((211, 36), .inl (6, 0)), ((211, 37), .inl (5, 0)), ((211, 38), .inl (7, 0))])]
def cu_x801 : List qCu := []
def hc_x801 : List hCu := []
def E_x801 : qE := ([(0, 0), (0, 1600), (0, 1600), (0, 1600), (0, 290), (0, 39), (0, 7), (0, 30), (1, 5)], [(1, 2, 1), (2, 3, 0)], [])
def C_x801 : qC := [((211, 3), .inl (3, 0)), ((211, 4), .inl (0, 0)), ((211, 6), .inl (1, 0)), ((211, 7), .inl (2, 0)), ((211, 8), .inl (8, 0)), ((211, 34), .inl (0, 0)), ((211, 35), .inl (4, 0)), ((211, 36), .inl (6, 0)), ((211, 37), .inl (5, 0)), ((211, 38), .inl (7, 0))]
def lv_x801 : qK := [(0, .inr (.inr (some 53)))]
def st_x801 : List qV := [.inl (0, 8)]
set_option maxRecDepth 1000000 in
theorem ch_x801 : chkHm P_x801 9 2 1000000 0 254 E_x801 C_x801 166 lv_x801 st_x801 po_x801 cu_x801 hc_x801 = true := by decide +kernel
def P_m10 : qP := (qH, false, [(53, 4), (53, 5)], false, [], [], [])
def po_m10 : List qPo := [([.inr (211, 4)], some (.inl (0, 1)), ([(0, 0), (0, 1600), (0, 1600), (0, 1600), (560, 850), (1, 40), (0, 7), (0, 30), (1, 4)], [(1, 2, 0), (2, 3, 0)], []), [((211, 3), .inl (3, 0)), ((211, 4), .inl (8, 0)), ((211, 6), .inl (1, 0)), ((211, 7), .inl (2, 0)), ((211, 8), .inl (0, 0)), ((211, 34), .inl (0, 1)), ((211, 35), .inl (4, 0)), ((211, 36), .inl (6, 0)), ((211, 37), .inl (5, 0)), ((211, 38), .inl (7, 0))])]
def cu_m10 : List qCu := []
def hc_m10 : List hCu := []
def E_m10 : qE := ([(0, 0), (0, 1600), (0, 1600), (0, 1600), (560, 850), (1, 40), (0, 7), (0, 30)], [(1, 2, 0), (2, 3, 0)], [])
def C_m10 : qC := [((211, 3), .inl (3, 0)), ((211, 4), .inl (0, 0)), ((211, 6), .inl (1, 0)), ((211, 7), .inl (2, 0)), ((211, 8), .inl (0, 0)), ((211, 34), .inl (0, 1)), ((211, 35), .inl (4, 0)), ((211, 36), .inl (6, 0)), ((211, 37), .inl (5, 0)), ((211, 38), .inl (7, 0))]
def lv_m10 : qK := [(0, .inr (.inr (some 53)))]
def st_m10 : List qV := [.inl (0, 1)]
set_option maxRecDepth 1000000 in
theorem ch_m10 : chkHm P_m10 8 2 1000000 2 254 E_m10 C_m10 14 lv_m10 st_m10 po_m10 cu_m10 hc_m10 = true := by decide +kernel
def P_x710 : qP := (qH, false, [(53, 4), (53, 5), (53, 36)], false, [], [], [])
def po_x710 : List qPo := [([.inr (211, 4)], some (.inl (0, 0)), ([(0, 0), (0, 1600), (0, 1600), (0, 1600), (560, 850), (0, 39), (1, 7), (0, 30), (1, 4)], [(1, 2, 0), (2, 3, 0)], []), [((211, 3), .inl (3, 0)), ((211, 4), .inl (8, 0)), ((211, 6), .inl (1, 0)), ((211, 7), .inl (2, 0)), ((211, 8), .inl (0, 0)), ((211, 34), .inl (0, 1)), ((211, 35), .inl (4, 0)), ((211, 36), .inl (6, (-1))), ((211, 37), .inl (5, 0)), ((211, 38), .inl (7, 0))])]
def cu_x710 : List qCu := []
def hc_x710 : List hCu := []
def E_x710 : qE := ([(0, 0), (0, 1600), (0, 1600), (0, 1600), (560, 850), (0, 39), (1, 7), (0, 30)], [(1, 2, 0), (2, 3, 0)], [])
def C_x710 : qC := [((211, 3), .inl (3, 0)), ((211, 4), .inl (0, 0)), ((211, 6), .inl (1, 0)), ((211, 7), .inl (2, 0)), ((211, 8), .inl (0, 0)), ((211, 34), .inl (0, 1)), ((211, 35), .inl (4, 0)), ((211, 36), .inl (6, 0)), ((211, 37), .inl (5, 0)), ((211, 38), .inl (7, 0))]
def lv_x710 : qK := [(0, .inr (.inr (some 53)))]
def st_x710 : List qV := [.inl (0, 7)]
set_option maxRecDepth 1000000 in
theorem ch_x710 : chkHm P_x710 8 2 1000000 3 254 E_x710 C_x710 166 lv_x710 st_x710 po_x710 cu_x710 hc_x710 = true := by decide +kernel
def P_x810 : qP := (qH, false, [], false, [], [], [])
def po_x810 : List qPo := [([], some (.inl (0, 0)), ([(0, 0), (0, 1600), (0, 1600), (0, 1600), (560, 850), (0, 39), (0, 7), (0, 30)], [(1, 2, 0), (2, 3, 0)], []), [((211, 3), .inl (3, 0)), ((211, 4), .inl (0, 0)), ((211, 6), .inl (1, 0)), ((211, 7), .inl (2, 0)), ((211, 8), .inl (0, 0)), ((211, 34), .inl (0, 1)), ((211, 35), .inl (4, 0)), ((211, 36), .inl (6, 0)), ((211, 37), .inl (5, 0)), ((211, 38), .inl (7, 0))])]
def cu_x810 : List qCu := []
def hc_x810 : List hCu := []
def E_x810 : qE := ([(0, 0), (0, 1600), (0, 1600), (0, 1600), (560, 850), (0, 39), (0, 7), (0, 30)], [(1, 2, 0), (2, 3, 0)], [])
def C_x810 : qC := [((211, 3), .inl (3, 0)), ((211, 4), .inl (0, 0)), ((211, 6), .inl (1, 0)), ((211, 7), .inl (2, 0)), ((211, 8), .inl (0, 0)), ((211, 34), .inl (0, 1)), ((211, 35), .inl (4, 0)), ((211, 36), .inl (6, 0)), ((211, 37), .inl (5, 0)), ((211, 38), .inl (7, 0))]
def lv_x810 : qK := [(0, .inr (.inr (some 53)))]
def st_x810 : List qV := [.inl (0, 8)]
set_option maxRecDepth 1000000 in
theorem ch_x810 : chkHm P_x810 8 2 1000000 0 254 E_x810 C_x810 166 lv_x810 st_x810 po_x810 cu_x810 hc_x810 = true := by decide +kernel
def P_m11 : qP := (qH, false, [(53, 4), (53, 5)], false, [], [], [])
def po_m11 : List qPo := [([.inr (211, 4)], some (.inl (0, 1)), ([(0, 0), (0, 1600), (0, 1600), (0, 1600), (560, 850), (1, 40), (0, 7), (0, 30), (1, 5), (1, 4)], [(1, 2, 1), (2, 3, 0)], []), [((211, 3), .inl (3, 0)), ((211, 4), .inl (9, 0)), ((211, 6), .inl (1, 0)), ((211, 7), .inl (2, 0)), ((211, 8), .inl (8, 0)), ((211, 34), .inl (0, 1)), ((211, 35), .inl (4, 0)), ((211, 36), .inl (6, 0)), ((211, 37), .inl (5, 0)), ((211, 38), .inl (7, 0))])]
def cu_m11 : List qCu := []
def hc_m11 : List hCu := []
def E_m11 : qE := ([(0, 0), (0, 1600), (0, 1600), (0, 1600), (560, 850), (1, 40), (0, 7), (0, 30), (1, 5)], [(1, 2, 1), (2, 3, 0)], [])
def C_m11 : qC := [((211, 3), .inl (3, 0)), ((211, 4), .inl (0, 0)), ((211, 6), .inl (1, 0)), ((211, 7), .inl (2, 0)), ((211, 8), .inl (8, 0)), ((211, 34), .inl (0, 1)), ((211, 35), .inl (4, 0)), ((211, 36), .inl (6, 0)), ((211, 37), .inl (5, 0)), ((211, 38), .inl (7, 0))]
def lv_m11 : qK := [(0, .inr (.inr (some 53)))]
def st_m11 : List qV := [.inl (0, 1)]
set_option maxRecDepth 1000000 in
theorem ch_m11 : chkHm P_m11 9 2 1000000 2 254 E_m11 C_m11 14 lv_m11 st_m11 po_m11 cu_m11 hc_m11 = true := by decide +kernel
def P_g11 : qP := (qH, false, [(53, 6), (53, 7), (53, 8), (53, 9), (53, 10)], false, [ct_2], [], [])
def po_g11 : List qPo := [([], some (.inl (0, 1)), ([(0, 0), (0, 1600), (0, 1600), (0, 1600), (560, 850), (1, 40), (0, 7), (0, 30), (1, 5)], [(1, 2, 1), (2, 3, 0)], []), [((211, 3), .inl (3, 0)), ((211, 4), .inl (0, 0)), ((211, 6), .inl (3, 0)), ((211, 7), .inl (3, 0)), ((211, 8), .inl (0, 0)), ((211, 34), .inl (0, 1)), ((211, 35), .inl (4, 0)), ((211, 36), .inl (6, 0)), ((211, 37), .inl (5, 0)), ((211, 38), .inl (7, 0))]), ([.inr (211, 8), .inr (211, 6), .inr (211, 7)], some (.inl (0, 1)), ([(0, 0), (0, 1600), (0, 1600), (0, 1600), (560, 850), (1, 40), (0, 7), (0, 30), (1, 5), (1, 5), (0, 1600), (0, 1600)], [(1, 2, 1), (2, 3, 0), (2, 10, 0), (10, 11, 1), (11, 3, 0)], []), [((211, 3), .inl (3, 0)), ((211, 4), .inl (0, 0)), ((211, 6), .inl (10, 0)), ((211, 7), .inl (11, 0)), ((211, 8), .inl (9, 0)), ((211, 34), .inl (0, 1)), ((211, 35), .inl (4, 0)), ((211, 36), .inl (6, 0)), ((211, 37), .inl (5, 0)), ((211, 38), .inl (7, 0))])]
def cu_g11 : List qCu := []
def hc_g11 : List hCu := []
def E_g11 : qE := ([(0, 0), (0, 1600), (0, 1600), (0, 1600), (560, 850), (1, 40), (0, 7), (0, 30), (1, 5)], [(1, 2, 1), (2, 3, 0)], [])
def C_g11 : qC := [((211, 3), .inl (3, 0)), ((211, 4), .inl (0, 0)), ((211, 6), .inl (1, 0)), ((211, 7), .inl (2, 0)), ((211, 8), .inl (8, 0)), ((211, 34), .inl (0, 1)), ((211, 35), .inl (4, 0)), ((211, 36), .inl (6, 0)), ((211, 37), .inl (5, 0)), ((211, 38), .inl (7, 0))]
def lv_g11 : qK := [(0, .inr (.inr (some 53)))]
def st_g11 : List qV := []
set_option maxRecDepth 1000000 in
theorem ch_g11 : chkHm P_g11 9 2 1000000 4 254 E_g11 C_g11 141 lv_g11 st_g11 po_g11 cu_g11 hc_g11 = true := by decide +kernel
def P_x711 : qP := (qH, false, [(53, 4), (53, 5), (53, 6), (53, 7), (53, 8), (53, 9), (53, 10), (53, 36)], false, [ct_2], [], [])
def po_x711 : List qPo := [([.inr (211, 4)], some (.inl (0, 0)), ([(0, 0), (0, 1600), (0, 1600), (0, 1600), (560, 850), (0, 39), (1, 7), (0, 30), (1, 5), (1, 4)], [(1, 2, 1), (2, 3, 0)], []), [((211, 3), .inl (3, 0)), ((211, 4), .inl (9, 0)), ((211, 6), .inl (1, 0)), ((211, 7), .inl (2, 0)), ((211, 8), .inl (8, 0)), ((211, 34), .inl (0, 1)), ((211, 35), .inl (4, 0)), ((211, 36), .inl (6, (-1))), ((211, 37), .inl (5, 0)), ((211, 38), .inl (7, 0))]), ([], some (.inl (0, 0)), ([(0, 0), (0, 1600), (0, 1600), (0, 1600), (560, 850), (0, 39), (1, 7), (0, 30), (1, 5)], [(1, 2, 1), (2, 3, 0)], []), [((211, 3), .inl (3, 0)), ((211, 4), .inl (0, 0)), ((211, 6), .inl (3, 0)), ((211, 7), .inl (3, 0)), ((211, 8), .inl (0, 0)), ((211, 34), .inl (0, 1)), ((211, 35), .inl (4, 0)), ((211, 36), .inl (6, (-1))), ((211, 37), .inl (5, 0)), ((211, 38), .inl (7, 0))]), ([.inr (211, 8), .inr (211, 6), .inr (211, 7)], some (.inl (0, 0)), ([(0, 0), (0, 1600), (0, 1600), (0, 1600), (560, 850), (0, 39), (1, 7), (0, 30), (1, 5), (1, 5), (0, 1600), (0, 1600)], [(1, 2, 1), (2, 3, 0), (2, 10, 0), (10, 11, 1), (11, 3, 0)], []), [((211, 3), .inl (3, 0)), ((211, 4), .inl (0, 0)), ((211, 6), .inl (10, 0)), ((211, 7), .inl (11, 0)), ((211, 8), .inl (9, 0)), ((211, 34), .inl (0, 1)), ((211, 35), .inl (4, 0)), ((211, 36), .inl (6, (-1))), ((211, 37), .inl (5, 0)), ((211, 38), .inl (7, 0))])]
def cu_x711 : List qCu := []
def hc_x711 : List hCu := []
def E_x711 : qE := ([(0, 0), (0, 1600), (0, 1600), (0, 1600), (560, 850), (0, 39), (1, 7), (0, 30), (1, 5)], [(1, 2, 1), (2, 3, 0)], [])
def C_x711 : qC := [((211, 3), .inl (3, 0)), ((211, 4), .inl (0, 0)), ((211, 6), .inl (1, 0)), ((211, 7), .inl (2, 0)), ((211, 8), .inl (8, 0)), ((211, 34), .inl (0, 1)), ((211, 35), .inl (4, 0)), ((211, 36), .inl (6, 0)), ((211, 37), .inl (5, 0)), ((211, 38), .inl (7, 0))]
def lv_x711 : qK := [(0, .inr (.inr (some 53)))]
def st_x711 : List qV := [.inl (0, 7)]
set_option maxRecDepth 1000000 in
theorem ch_x711 : chkHm P_x711 9 2 1000000 5 254 E_x711 C_x711 166 lv_x711 st_x711 po_x711 cu_x711 hc_x711 = true := by decide +kernel
def P_x811 : qP := (qH, false, [], false, [], [], [])
def po_x811 : List qPo := [([], some (.inl (0, 0)), ([(0, 0), (0, 1600), (0, 1600), (0, 1600), (560, 850), (0, 39), (0, 7), (0, 30), (1, 5)], [(1, 2, 1), (2, 3, 0)], []), [((211, 3), .inl (3, 0)), ((211, 4), .inl (0, 0)), ((211, 6), .inl (1, 0)), ((211, 7), .inl (2, 0)), ((211, 8), .inl (8, 0)), ((211, 34), .inl (0, 1)), ((211, 35), .inl (4, 0)), ((211, 36), .inl (6, 0)), ((211, 37), .inl (5, 0)), ((211, 38), .inl (7, 0))])]
def cu_x811 : List qCu := []
def hc_x811 : List hCu := []
def E_x811 : qE := ([(0, 0), (0, 1600), (0, 1600), (0, 1600), (560, 850), (0, 39), (0, 7), (0, 30), (1, 5)], [(1, 2, 1), (2, 3, 0)], [])
def C_x811 : qC := [((211, 3), .inl (3, 0)), ((211, 4), .inl (0, 0)), ((211, 6), .inl (1, 0)), ((211, 7), .inl (2, 0)), ((211, 8), .inl (8, 0)), ((211, 34), .inl (0, 1)), ((211, 35), .inl (4, 0)), ((211, 36), .inl (6, 0)), ((211, 37), .inl (5, 0)), ((211, 38), .inl (7, 0))]
def lv_x811 : qK := [(0, .inr (.inr (some 53)))]
def st_x811 : List qV := [.inl (0, 8)]
set_option maxRecDepth 1000000 in
theorem ch_x811 : chkHm P_x811 9 2 1000000 0 254 E_x811 C_x811 166 lv_x811 st_x811 po_x811 cu_x811 hc_x811 = true := by decide +kernel
def cr0 : qCt := (258, 1, false, [], ([], [(0, .inr (.inr (some 53)))], ([(0, 0)], [], []), [((211, 8), .inl (0, 0))]), [([], some (.inl (0, 0)), ([(0, 0)], [], []), [])])
set_option maxRecDepth 1000000 in
theorem rk0 : chkM qH [] [] 0 1000000 cr0 [] = true := by decide +kernel
theorem cro0 {L : List Nat} : CtOK qH QB L cr0 := chkM_ok QB_lasts qH_w all_nil (by decide +kernel) rk0
