def P_ee0 : qP := (qH, false, [(53, 36), (53, 37)], false, [], [], [14])
def po_ee0 : List qPo := []
def cu_ee0 : List qCu := []
def hc_ee0 : List hCu := [(14, 3, ([], [(0, .inr (.inr (some 53))), (200, .inl (0, 0)), (201, .inl (0, 8)), (202, .inr (.inr (some 53)))], ([(0, 0)], [], []), [((211, 36), .inl (0, 0)), ((211, 37), .inl (0, 0))]))]
def E_ee0 : qE := ([(0, 0)], [], [])
def C_ee0 : qC := []
def lv_ee0 : qK := [(0, .inr (.inr (some 53)))]
def st_ee0 : List qV := []
set_option maxRecDepth 1000000 in
theorem ch_ee0 : chkHm P_ee0 1 2 1000000 0 253 E_ee0 C_ee0 0 lv_ee0 st_ee0 po_ee0 cu_ee0 hc_ee0 = true := by decide +kernel
def P_ee1 : qP := (qH, false, [], false, [], [], [19])
def po_ee1 : List qPo := []
def cu_ee1 : List qCu := []
def hc_ee1 : List hCu := [(19, 0, ([], [(0, .inr (.inr (some 53))), (1, .inl (0, 1))], ([(0, 0)], [], []), []))]
def E_ee1 : qE := ([(0, 0)], [], [])
def C_ee1 : qC := []
def lv_ee1 : qK := [(0, .inr (.inr (some 53)))]
def st_ee1 : List qV := []
set_option maxRecDepth 1000000 in
theorem ch_ee1 : chkHm P_ee1 1 2 1000000 0 253 E_ee1 C_ee1 17 lv_ee1 st_ee1 po_ee1 cu_ee1 hc_ee1 = true := by decide +kernel
def P_ee20 : qP := (qH, false, [], false, [], [], [38, 45])
def po_ee20 : List qPo := []
def cu_ee20 : List qCu := []
def hc_ee20 : List hCu := [(45, 1, ([], [(0, .inr (.inr (some 53))), (200, .inr (.inr (some 53)))], ([(0, 0), (1, 40)], [], []), [((211, 4), .inl (0, 0)), ((211, 37), .inl (1, 0))]))]
def E_ee20 : qE := ([(0, 0), (1, 40)], [], [])
def C_ee20 : qC := [((211, 4), .inl (0, 0)), ((211, 37), .inl (1, 0))]
def lv_ee20 : qK := [(0, .inr (.inr (some 53))), (1, .inl (0, 0))]
def st_ee20 : List qV := []
set_option maxRecDepth 1000000 in
theorem ch_ee20 : chkHm P_ee20 2 2 1000000 1 253 E_ee20 C_ee20 19 lv_ee20 st_ee20 po_ee20 cu_ee20 hc_ee20 = true := by decide +kernel
def P_ee21 : qP := (qH, false, [], false, [], [], [38, 45])
def po_ee21 : List qPo := []
def cu_ee21 : List qCu := []
def hc_ee21 : List hCu := [(38, 1, ([], [(0, .inr (.inr (some 53))), (200, .inr (.inr (some 53)))], ([(0, 0), (1, 40)], [], []), [((211, 4), .inl (0, 0)), ((211, 37), .inl (1, 0))]))]
def E_ee21 : qE := ([(0, 0), (1, 40)], [], [])
def C_ee21 : qC := [((211, 4), .inl (0, 0)), ((211, 37), .inl (1, 0))]
def lv_ee21 : qK := [(0, .inr (.inr (some 53))), (1, .inl (0, 1))]
def st_ee21 : List qV := []
set_option maxRecDepth 1000000 in
theorem ch_ee21 : chkHm P_ee21 2 2 1000000 1 253 E_ee21 C_ee21 19 lv_ee21 st_ee21 po_ee21 cu_ee21 hc_ee21 = true := by decide +kernel
def P_ee3410 : qP := (qH, false, [], false, [], [], [19])
def po_ee3410 : List qPo := []
def cu_ee3410 : List qCu := []
def hc_ee3410 : List hCu := [(19, 0, ([], [(0, .inr (.inr (some 53))), (1, .inl (0, 0))], ([(0, 0)], [], []), []))]
def E_ee3410 : qE := ([(0, 0)], [], [])
def C_ee3410 : qC := []
def lv_ee3410 : qK := [(0, .inr (.inr (some 53)))]
def st_ee3410 : List qV := [.inl (0, 0)]
set_option maxRecDepth 1000000 in
theorem ch_ee3410 : chkHm P_ee3410 1 2 1000000 0 253 E_ee3410 C_ee3410 41 lv_ee3410 st_ee3410 po_ee3410 cu_ee3410 hc_ee3410 = true := by decide +kernel
def P_ee3411 : qP := (qH, false, [], false, [], [], [19])
def po_ee3411 : List qPo := []
def cu_ee3411 : List qCu := []
def hc_ee3411 : List hCu := [(19, 0, ([], [(0, .inr (.inr (some 53))), (1, .inl (0, 1))], ([(0, 0)], [], []), []))]
def E_ee3411 : qE := ([(0, 0)], [], [])
def C_ee3411 : qC := []
def lv_ee3411 : qK := [(0, .inr (.inr (some 53)))]
def st_ee3411 : List qV := [.inl (0, 1)]
set_option maxRecDepth 1000000 in
theorem ch_ee3411 : chkHm P_ee3411 1 2 1000000 0 253 E_ee3411 C_ee3411 41 lv_ee3411 st_ee3411 po_ee3411 cu_ee3411 hc_ee3411 = true := by decide +kernel
def P_ee3480 : qP := (qH, false, [], false, [], [], [19])
def po_ee3480 : List qPo := []
def cu_ee3480 : List qCu := []
def hc_ee3480 : List hCu := [(19, 0, ([], [(0, .inr (.inr (some 53))), (1, .inl (0, 0))], ([(0, 0)], [], []), []))]
def E_ee3480 : qE := ([(0, 0)], [], [])
def C_ee3480 : qC := []
def lv_ee3480 : qK := [(0, .inr (.inr (some 53)))]
def st_ee3480 : List qV := [.inl (0, 0)]
set_option maxRecDepth 1000000 in
theorem ch_ee3480 : chkHm P_ee3480 1 2 1000000 0 253 E_ee3480 C_ee3480 48 lv_ee3480 st_ee3480 po_ee3480 cu_ee3480 hc_ee3480 = true := by decide +kernel
def P_ee3481 : qP := (qH, false, [], false, [], [], [19])
def po_ee3481 : List qPo := []
def cu_ee3481 : List qCu := []
def hc_ee3481 : List hCu := [(19, 0, ([], [(0, .inr (.inr (some 53))), (1, .inl (0, 1))], ([(0, 0)], [], []), []))]
def E_ee3481 : qE := ([(0, 0)], [], [])
def C_ee3481 : qC := []
def lv_ee3481 : qK := [(0, .inr (.inr (some 53)))]
def st_ee3481 : List qV := [.inl (0, 1)]
set_option maxRecDepth 1000000 in
theorem ch_ee3481 : chkHm P_ee3481 1 2 1000000 0 253 E_ee3481 C_ee3481 48 lv_ee3481 st_ee3481 po_ee3481 cu_ee3481 hc_ee3481 = true := by decide +kernel
def P_ee40 : qP := (qH, false, [], false, [], [], [])
def po_ee40 : List qPo := [([], none, ([(0, 0), (1, 4)], [], []), [])]
def cu_ee40 : List qCu := []
def hc_ee40 : List hCu := []
def E_ee40 : qE := ([(0, 0), (1, 4)], [], [])
def C_ee40 : qC := [((211, 4), .inl (1, 0))]
def lv_ee40 : qK := [(0, .inr (.inr (some 53))), (1, .inl (0, 0))]
def st_ee40 : List qV := []
set_option maxRecDepth 1000000 in
theorem ch_ee40 : chkHm P_ee40 2 2 1000000 1 253 E_ee40 C_ee40 19 lv_ee40 st_ee40 po_ee40 cu_ee40 hc_ee40 = true := by decide +kernel
def P_ee41 : qP := (qH, false, [], false, [], [], [])
def po_ee41 : List qPo := [([], none, ([(0, 0), (1, 4)], [], []), [])]
def cu_ee41 : List qCu := []
def hc_ee41 : List hCu := []
def E_ee41 : qE := ([(0, 0), (1, 4)], [], [])
def C_ee41 : qC := [((211, 4), .inl (1, 0))]
def lv_ee41 : qK := [(0, .inr (.inr (some 53))), (1, .inl (0, 1))]
def st_ee41 : List qV := []
set_option maxRecDepth 1000000 in
theorem ch_ee41 : chkHm P_ee41 2 2 1000000 1 253 E_ee41 C_ee41 19 lv_ee41 st_ee41 po_ee41 cu_ee41 hc_ee41 = true := by decide +kernel
def P_ee5 : qP := (qH, false, [], false, [], [], [])
def po_ee5 : List qPo := [([], none, ([(0, 0)], [], []), [])]
def cu_ee5 : List qCu := []
def hc_ee5 : List hCu := []
def E_ee5 : qE := ([(0, 0)], [], [])
def C_ee5 : qC := [((211, 4), .inl (0, 0)), ((211, 37), .inl (0, 0))]
def lv_ee5 : qK := [(0, .inr (.inr (some 53))), (1, .inl (0, 0))]
def st_ee5 : List qV := []
set_option maxRecDepth 1000000 in
theorem ch_ee5 : chkHm P_ee5 1 2 1000000 1 253 E_ee5 C_ee5 19 lv_ee5 st_ee5 po_ee5 cu_ee5 hc_ee5 = true := by decide +kernel
theorem mk_X12_e_14 {M : rM} (h : mT 253 = some M) : mTab M 14 = some (.invokevirtual 297, 3) ∧ kf tA (mOwn M) 297 = some (0, 255, 2, 12) := by
  have e : (mT 253).bind (fun M => mTab M 14) = some (.invokevirtual 297, 3) := by rfl
  have e2 : (mT 253).bind (fun M => kf tA (mOwn M) 297) = some (0, 255, 2, 12) := by decide +kernel
  rw [h] at e e2
  exact ⟨e, e2⟩
theorem mk_X12_e_38 {M : rM} (h : mT 253 = some M) : mTab M 38 = some (.invokevirtual 300, 3) ∧ kf tA (mOwn M) 300 = some (0, 260, 0, 12) := by
  have e : (mT 253).bind (fun M => mTab M 38) = some (.invokevirtual 300, 3) := by rfl
  have e2 : (mT 253).bind (fun M => kf tA (mOwn M) 300) = some (0, 260, 0, 12) := by decide +kernel
  rw [h] at e e2
  exact ⟨e, e2⟩
theorem mk_X12_e_45 {M : rM} (h : mT 253 = some M) : mTab M 45 = some (.invokevirtual 303, 3) ∧ kf tA (mOwn M) 303 = some (0, 254, 0, 12) := by
  have e : (mT 253).bind (fun M => mTab M 45) = some (.invokevirtual 303, 3) := by rfl
  have e2 : (mT 253).bind (fun M => kf tA (mOwn M) 303) = some (0, 254, 0, 12) := by decide +kernel
  rw [h] at e e2
  exact ⟨e, e2⟩
def P_rr00 : qP := (qH, false, [(53, 38)], false, [], [], [19])
def po_rr00 : List qPo := []
def cu_rr00 : List qCu := []
def hc_rr00 : List hCu := [(19, 3, ([], [(0, .inr (.inr (some 53))), (1, .inl (0, 0)), (200, .inl (1, 0)), (201, .inl (0, 0)), (202, .inr (.inr (some 66)))], ([(0, 0), (0, 290)], [], []), [((211, 34), .inl (0, 0)), ((211, 35), .inl (1, 0)), ((211, 38), .inl (0, 0))]))]
def E_rr00 : qE := ([(0, 0), (0, 290)], [], [])
def C_rr00 : qC := [((211, 34), .inl (0, 0)), ((211, 35), .inl (1, 0))]
def lv_rr00 : qK := [(0, .inr (.inr (some 53))), (1, .inl (0, 0))]
def st_rr00 : List qV := []
set_option maxRecDepth 1000000 in
theorem ch_rr00 : chkHm P_rr00 2 0 1000000 0 252 E_rr00 C_rr00 0 lv_rr00 st_rr00 po_rr00 cu_rr00 hc_rr00 = true := by decide +kernel
def P_rr20 : qP := (qH, false, [], false, [], [], [38])
def po_rr20 : List qPo := []
def cu_rr20 : List qCu := []
def hc_rr20 : List hCu := [(38, 3, ([], [(0, .inr (.inr (some 53))), (200, .inl (1, 0)), (201, .inl (0, 0)), (202, .inr (.inr (some 67)))], ([(0, 0), (0, 290)], [], []), [((211, 34), .inl (0, 0)), ((211, 35), .inl (1, 0))]))]
def E_rr20 : qE := ([(0, 0), (0, 290)], [], [])
def C_rr20 : qC := [((211, 34), .inl (0, 0)), ((211, 35), .inl (1, 0))]
def lv_rr20 : qK := [(0, .inr (.inr (some 53))), (1, .inl (0, 0))]
def st_rr20 : List qV := []
set_option maxRecDepth 1000000 in
theorem ch_rr20 : chkHm P_rr20 2 0 1000000 0 252 E_rr20 C_rr20 24 lv_rr20 st_rr20 po_rr20 cu_rr20 hc_rr20 = true := by decide +kernel
def P_rr01 : qP := (qH, false, [(53, 38)], false, [], [], [19])
def po_rr01 : List qPo := []
def cu_rr01 : List qCu := []
def hc_rr01 : List hCu := [(19, 3, ([], [(0, .inr (.inr (some 53))), (1, .inl (0, 0)), (200, .inl (1, 0)), (201, .inl (0, 1)), (202, .inr (.inr (some 66)))], ([(0, 0), (560, 850)], [], []), [((211, 34), .inl (0, 1)), ((211, 35), .inl (1, 0)), ((211, 38), .inl (0, 0))]))]
def E_rr01 : qE := ([(0, 0), (560, 850)], [], [])
def C_rr01 : qC := [((211, 34), .inl (0, 1)), ((211, 35), .inl (1, 0))]
def lv_rr01 : qK := [(0, .inr (.inr (some 53))), (1, .inl (0, 0))]
def st_rr01 : List qV := []
set_option maxRecDepth 1000000 in
theorem ch_rr01 : chkHm P_rr01 2 0 1000000 0 252 E_rr01 C_rr01 0 lv_rr01 st_rr01 po_rr01 cu_rr01 hc_rr01 = true := by decide +kernel
def P_rr21 : qP := (qH, false, [], false, [], [], [38])
def po_rr21 : List qPo := []
def cu_rr21 : List qCu := []
def hc_rr21 : List hCu := [(38, 3, ([], [(0, .inr (.inr (some 53))), (200, .inl (1, 0)), (201, .inl (0, 1)), (202, .inr (.inr (some 67)))], ([(0, 0), (560, 850)], [], []), [((211, 34), .inl (0, 1)), ((211, 35), .inl (1, 0))]))]
def E_rr21 : qE := ([(0, 0), (560, 850)], [], [])
def C_rr21 : qC := [((211, 34), .inl (0, 1)), ((211, 35), .inl (1, 0))]
def lv_rr21 : qK := [(0, .inr (.inr (some 53))), (1, .inl (0, 0))]
def st_rr21 : List qV := []
set_option maxRecDepth 1000000 in
theorem ch_rr21 : chkHm P_rr21 2 0 1000000 0 252 E_rr21 C_rr21 24 lv_rr21 st_rr21 po_rr21 cu_rr21 hc_rr21 = true := by decide +kernel
def P_rr1 : qP := (qH, false, [], false, [], [], [21])
def po_rr1 : List qPo := []
def cu_rr1 : List qCu := []
def hc_rr1 : List hCu := [(21, 1, ([], [(0, .inr (.inr (some 53))), (1, .inl (0, 0)), (200, .inr (.inr (some 53)))], ([(0, 0)], [], []), []))]
def E_rr1 : qE := ([(0, 0)], [], [])
def C_rr1 : qC := []
def lv_rr1 : qK := [(0, .inr (.inr (some 53))), (1, .inl (0, 0))]
def st_rr1 : List qV := []
set_option maxRecDepth 1000000 in
theorem ch_rr1 : chkHm P_rr1 1 0 1000000 0 252 E_rr1 C_rr1 20 lv_rr1 st_rr1 po_rr1 cu_rr1 hc_rr1 = true := by decide +kernel
def P_rr3 : qP := (qH, false, [], false, [], [], [])
def po_rr3 : List qPo := [([], none, ([(0, 0)], [], []), [])]
def cu_rr3 : List qCu := []
def hc_rr3 : List hCu := []
def E_rr3 : qE := ([(0, 0)], [], [])
def C_rr3 : qC := []
def lv_rr3 : qK := [(0, .inr (.inr (some 53)))]
def st_rr3 : List qV := []
set_option maxRecDepth 1000000 in
theorem ch_rr3 : chkHm P_rr3 1 0 1000000 0 252 E_rr3 C_rr3 39 lv_rr3 st_rr3 po_rr3 cu_rr3 hc_rr3 = true := by decide +kernel
theorem mt_X12_readRule_19 {M : rM} (h : mT 252 = some M) : mTab M 19 = some (.iastore, 1) := by
  have e : (mT 252).bind (fun M => mTab M 19) = some (.iastore, 1) := by rfl
  rw [h] at e
  exact e
theorem mt_X12_readRule_38 {M : rM} (h : mT 252 = some M) : mTab M 38 = some (.iastore, 1) := by
  have e : (mT 252).bind (fun M => mTab M 38) = some (.iastore, 1) := by rfl
  rw [h] at e
  exact e
theorem mk_X12_readRule_21 {M : rM} (h : mT 252 = some M) : mTab M 21 = some (.invokevirtual 288, 3) ∧ kf tA (mOwn M) 288 = some (0, 253, 0, 12) := by
  have e : (mT 252).bind (fun M => mTab M 21) = some (.invokevirtual 288, 3) := by rfl
  have e2 : (mT 252).bind (fun M => kf tA (mOwn M) 288) = some (0, 253, 0, 12) := by decide +kernel
  rw [h] at e e2
  exact ⟨e, e2⟩
