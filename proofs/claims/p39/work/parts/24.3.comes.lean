def P_c0 : qP := (qH, false, [(77, 9999)], false, [], [((28, 10), 2)], [12])
def po_c0 : List qPo := []
def cu_c0 : List qCu := []
def hc_c0 : List hCu := [(12, 0, ([.inr (211, 33), .inl 2], [(0, .inr (.inr (some 53))), (1, .inl (0, 0)), (2, .inl (2, 0))], ([(0, 0), (0, 0), (0, 1120)], [], []), [((211, 33), .inl (1, 0)), ((224, 0), .inl (2, 0))])), (12, 0, ([.inr (211, 33), .inl 2], [(0, .inr (.inr (some 53))), (1, .inl (0, 0)), (2, .inl (2, 0))], ([(0, 0), (1, 1), (0, 1120)], [], []), [((211, 33), .inl (1, 0)), ((224, 1), .inl (2, 0))]))]
def E_c0 : qE := ([(0, 0)], [], [])
def C_c0 : qC := []
def lv_c0 : qK := [(0, .inr (.inr (some 53)))]
def st_c0 : List qV := []
set_option maxRecDepth 1000000 in
theorem ch_c0 : chkHm P_c0 1 2 1000000 0 28 E_c0 C_c0 0 lv_c0 st_c0 po_c0 cu_c0 hc_c0 = true := by decide +kernel
def P_c10 : qP := (qH, false, [(77, 9999)], false, [], [], [30])
def po_c10 : List qPo := [([.inl 0], some (.inl (4, 0)), ([(0, 0), (0, 0), (0, 60), (0, 1120), ((-2147483648), 2147483647)], [], []), [])]
def cu_c10 : List qCu := []
def hc_c10 : List hCu := [(30, 2, ([.inr (225, 0)], [(0, .inr (.inr (some 53))), (1, .inl (2, 0)), (2, .inl (3, 0)), (200, .inl (3, 0)), (201, .inr (.inr (some 73)))], ([(0, 0), (0, 0), (0, 60), (0, 1120), (0, 1120)], [(3, 4, 1)], []), [((211, 33), .inl (1, 0)), ((225, 0), .inl (4, 0))]))]
def E_c10 : qE := ([(0, 0), (0, 0), (0, 60), (0, 1120)], [], [])
def C_c10 : qC := [((211, 33), .inl (1, 0))]
def lv_c10 : qK := [(0, .inr (.inr (some 53))), (1, .inl (2, 0)), (2, .inl (3, 0))]
def st_c10 : List qV := []
set_option maxRecDepth 1000000 in
theorem ch_c10 : chkHm P_c10 4 2 1000000 0 28 E_c10 C_c10 12 lv_c10 st_c10 po_c10 cu_c10 hc_c10 = true := by decide +kernel
def P_c2a0 : qP := (qH, false, [(77, 9999)], false, [], [], [12])
def po_c2a0 : List qPo := []
def cu_c2a0 : List qCu := []
def hc_c2a0 : List hCu := [(12, 0, ([], [(0, .inr (.inr (some 53))), (1, .inl (2, 0)), (2, .inl (3, 1))], ([(0, 0), (0, 0), (1, 60), (0, 1119), (126, 126), (0, 1120)], [], []), [((211, 33), .inl (1, 0))]))]
def E_c2a0 : qE := ([(0, 0), (0, 0), (1, 60), (0, 1119), (126, 126), (0, 1120)], [], [])
def C_c2a0 : qC := [((211, 33), .inl (1, 0)), ((225, 0), .inl (5, 0))]
def lv_c2a0 : qK := [(0, .inr (.inr (some 53))), (1, .inl (2, 0)), (2, .inl (3, 0))]
def st_c2a0 : List qV := [.inl (4, 0)]
set_option maxRecDepth 1000000 in
theorem ch_c2a0 : chkHm P_c2a0 6 2 1000000 0 28 E_c2a0 C_c2a0 31 lv_c2a0 st_c2a0 po_c2a0 cu_c2a0 hc_c2a0 = true := by decide +kernel
def P_c2b0 : qP := (qH, false, [(77, 9999)], false, [ct_203], [], [12])
def po_c2b0 : List qPo := []
def cu_c2b0 : List qCu := []
def hc_c2b0 : List hCu := [(12, 0, ([], [(0, .inr (.inr (some 53))), (1, .inl (2, 1)), (2, .inl (3, 1))], ([(0, 0), (0, 0), (0, 59), (0, 1119), (97, 122), (0, 1120)], [], []), [((211, 33), .inl (1, 0))]))]
def E_c2b0 : qE := ([(0, 0), (0, 0), (0, 59), (0, 1119), (97, 122), (0, 1120)], [], [])
def C_c2b0 : qC := [((211, 33), .inl (1, 0)), ((225, 0), .inl (5, 0))]
def lv_c2b0 : qK := [(0, .inr (.inr (some 53))), (1, .inl (2, 0)), (2, .inl (3, 0))]
def st_c2b0 : List qV := [.inl (4, 0)]
set_option maxRecDepth 1000000 in
theorem ch_c2b0 : chkHm P_c2b0 6 2 1000000 4 28 E_c2b0 C_c2b0 31 lv_c2b0 st_c2b0 po_c2b0 cu_c2b0 hc_c2b0 = true := by decide +kernel
def P_c2d0 : qP := (qH, false, [(77, 9999)], false, [], [((29, 133), 1), ((29, 145), 1), ((29, 190), 1), ((29, 194), 1), ((29, 204), 1), ((29, 208), 1)], [12])
def po_c2d0 : List qPo := []
def cu_c2d0 : List qCu := []
def hc_c2d0 : List hCu := [(12, 0, ([], [(0, .inr (.inr (some 53))), (1, .inl (2, (-1))), (2, .inl (3, 1))], ([(0, 0), (0, 0), (2, 60), (0, 1119), ((-2147483648), 96), (0, 1120)], [], []), [((211, 33), .inl (1, 0))]))]
def E_c2d0 : qE := ([(0, 0), (0, 0), (2, 60), (0, 1119), ((-2147483648), 96), (0, 1120)], [], [])
def C_c2d0 : qC := [((211, 33), .inl (1, 0)), ((225, 0), .inl (5, 0))]
def lv_c2d0 : qK := [(0, .inr (.inr (some 53))), (1, .inl (2, 0)), (2, .inl (3, 0))]
def st_c2d0 : List qV := [.inl (4, 0)]
set_option maxRecDepth 1000000 in
theorem ch_c2d0 : chkHm P_c2d0 6 2 1000000 1 28 E_c2d0 C_c2d0 31 lv_c2d0 st_c2d0 po_c2d0 cu_c2d0 hc_c2d0 = true := by decide +kernel
def P_c2e0 : qP := (qH, false, [(77, 9999)], false, [], [((29, 204), 1), ((29, 208), 1)], [12])
def po_c2e0 : List qPo := []
def cu_c2e0 : List qCu := []
def hc_c2e0 : List hCu := [(12, 0, ([], [(0, .inr (.inr (some 53))), (1, .inl (2, (-1))), (2, .inl (3, 1))], ([(0, 0), (0, 0), (2, 60), (0, 1119), (123, 125), (0, 1120)], [], []), [((211, 33), .inl (1, 0))]))]
def E_c2e0 : qE := ([(0, 0), (0, 0), (2, 60), (0, 1119), (123, 125), (0, 1120)], [], [])
def C_c2e0 : qC := [((211, 33), .inl (1, 0)), ((225, 0), .inl (5, 0))]
def lv_c2e0 : qK := [(0, .inr (.inr (some 53))), (1, .inl (2, 0)), (2, .inl (3, 0))]
def st_c2e0 : List qV := [.inl (4, 0)]
set_option maxRecDepth 1000000 in
theorem ch_c2e0 : chkHm P_c2e0 6 2 1000000 1 28 E_c2e0 C_c2e0 31 lv_c2e0 st_c2e0 po_c2e0 cu_c2e0 hc_c2e0 = true := by decide +kernel
def P_c2f0 : qP := (qH, false, [(77, 9999)], false, [], [((29, 204), 1), ((29, 208), 1)], [12])
def po_c2f0 : List qPo := []
def cu_c2f0 : List qCu := []
def hc_c2f0 : List hCu := [(12, 0, ([], [(0, .inr (.inr (some 53))), (1, .inl (2, (-1))), (2, .inl (3, 1))], ([(0, 0), (0, 0), (2, 60), (0, 1119), (127, 2147483647), (0, 1120)], [], []), [((211, 33), .inl (1, 0))]))]
def E_c2f0 : qE := ([(0, 0), (0, 0), (2, 60), (0, 1119), (127, 2147483647), (0, 1120)], [], [])
def C_c2f0 : qC := [((211, 33), .inl (1, 0)), ((225, 0), .inl (5, 0))]
def lv_c2f0 : qK := [(0, .inr (.inr (some 53))), (1, .inl (2, 0)), (2, .inl (3, 0))]
def st_c2f0 : List qV := [.inl (4, 0)]
set_option maxRecDepth 1000000 in
theorem ch_c2f0 : chkHm P_c2f0 6 2 1000000 1 28 E_c2f0 C_c2f0 31 lv_c2f0 st_c2f0 po_c2f0 cu_c2f0 hc_c2f0 = true := by decide +kernel
def P_c11 : qP := (qH, false, [(77, 9999)], false, [], [], [30])
def po_c11 : List qPo := [([.inl 0], some (.inl (4, 0)), ([(0, 0), (1, 1), (0, 60), (0, 1120), ((-2147483648), 2147483647)], [], []), [])]
def cu_c11 : List qCu := []
def hc_c11 : List hCu := [(30, 2, ([.inr (225, 1)], [(0, .inr (.inr (some 53))), (1, .inl (2, 0)), (2, .inl (3, 0)), (200, .inl (3, 0)), (201, .inr (.inr (some 73)))], ([(0, 0), (1, 1), (0, 60), (0, 1120), (0, 1120)], [(3, 4, 1)], []), [((211, 33), .inl (1, 0)), ((225, 1), .inl (4, 0))]))]
def E_c11 : qE := ([(0, 0), (1, 1), (0, 60), (0, 1120)], [], [])
def C_c11 : qC := [((211, 33), .inl (1, 0))]
def lv_c11 : qK := [(0, .inr (.inr (some 53))), (1, .inl (2, 0)), (2, .inl (3, 0))]
def st_c11 : List qV := []
set_option maxRecDepth 1000000 in
theorem ch_c11 : chkHm P_c11 4 2 1000000 0 28 E_c11 C_c11 12 lv_c11 st_c11 po_c11 cu_c11 hc_c11 = true := by decide +kernel
def P_c2a1 : qP := (qH, false, [(77, 9999)], false, [], [], [12])
def po_c2a1 : List qPo := []
def cu_c2a1 : List qCu := []
def hc_c2a1 : List hCu := [(12, 0, ([], [(0, .inr (.inr (some 53))), (1, .inl (2, 0)), (2, .inl (3, 1))], ([(0, 0), (1, 1), (1, 60), (0, 1119), (126, 126), (0, 1120)], [], []), [((211, 33), .inl (1, 0))]))]
def E_c2a1 : qE := ([(0, 0), (1, 1), (1, 60), (0, 1119), (126, 126), (0, 1120)], [], [])
def C_c2a1 : qC := [((211, 33), .inl (1, 0)), ((225, 1), .inl (5, 0))]
def lv_c2a1 : qK := [(0, .inr (.inr (some 53))), (1, .inl (2, 0)), (2, .inl (3, 0))]
def st_c2a1 : List qV := [.inl (4, 0)]
set_option maxRecDepth 1000000 in
theorem ch_c2a1 : chkHm P_c2a1 6 2 1000000 0 28 E_c2a1 C_c2a1 31 lv_c2a1 st_c2a1 po_c2a1 cu_c2a1 hc_c2a1 = true := by decide +kernel
def P_c2b1 : qP := (qH, false, [(77, 9999)], false, [ct_203], [], [12])
def po_c2b1 : List qPo := []
def cu_c2b1 : List qCu := []
def hc_c2b1 : List hCu := [(12, 0, ([], [(0, .inr (.inr (some 53))), (1, .inl (2, 1)), (2, .inl (3, 1))], ([(0, 0), (1, 1), (0, 59), (0, 1119), (97, 122), (0, 1120)], [], []), [((211, 33), .inl (1, 0))]))]
def E_c2b1 : qE := ([(0, 0), (1, 1), (0, 59), (0, 1119), (97, 122), (0, 1120)], [], [])
def C_c2b1 : qC := [((211, 33), .inl (1, 0)), ((225, 1), .inl (5, 0))]
def lv_c2b1 : qK := [(0, .inr (.inr (some 53))), (1, .inl (2, 0)), (2, .inl (3, 0))]
def st_c2b1 : List qV := [.inl (4, 0)]
set_option maxRecDepth 1000000 in
theorem ch_c2b1 : chkHm P_c2b1 6 2 1000000 4 28 E_c2b1 C_c2b1 31 lv_c2b1 st_c2b1 po_c2b1 cu_c2b1 hc_c2b1 = true := by decide +kernel
def P_c2d1 : qP := (qH, false, [(77, 9999)], false, [], [((29, 133), 1), ((29, 145), 1), ((29, 190), 1), ((29, 194), 1), ((29, 204), 1), ((29, 208), 1)], [12])
def po_c2d1 : List qPo := []
def cu_c2d1 : List qCu := []
def hc_c2d1 : List hCu := [(12, 0, ([], [(0, .inr (.inr (some 53))), (1, .inl (2, (-1))), (2, .inl (3, 1))], ([(0, 0), (1, 1), (2, 60), (0, 1119), ((-2147483648), 96), (0, 1120)], [], []), [((211, 33), .inl (1, 0))]))]
def E_c2d1 : qE := ([(0, 0), (1, 1), (2, 60), (0, 1119), ((-2147483648), 96), (0, 1120)], [], [])
def C_c2d1 : qC := [((211, 33), .inl (1, 0)), ((225, 1), .inl (5, 0))]
def lv_c2d1 : qK := [(0, .inr (.inr (some 53))), (1, .inl (2, 0)), (2, .inl (3, 0))]
def st_c2d1 : List qV := [.inl (4, 0)]
set_option maxRecDepth 1000000 in
theorem ch_c2d1 : chkHm P_c2d1 6 2 1000000 1 28 E_c2d1 C_c2d1 31 lv_c2d1 st_c2d1 po_c2d1 cu_c2d1 hc_c2d1 = true := by decide +kernel
def P_c2e1 : qP := (qH, false, [(77, 9999)], false, [], [((29, 204), 1), ((29, 208), 1)], [12])
def po_c2e1 : List qPo := []
def cu_c2e1 : List qCu := []
def hc_c2e1 : List hCu := [(12, 0, ([], [(0, .inr (.inr (some 53))), (1, .inl (2, (-1))), (2, .inl (3, 1))], ([(0, 0), (1, 1), (2, 60), (0, 1119), (123, 125), (0, 1120)], [], []), [((211, 33), .inl (1, 0))]))]
def E_c2e1 : qE := ([(0, 0), (1, 1), (2, 60), (0, 1119), (123, 125), (0, 1120)], [], [])
def C_c2e1 : qC := [((211, 33), .inl (1, 0)), ((225, 1), .inl (5, 0))]
def lv_c2e1 : qK := [(0, .inr (.inr (some 53))), (1, .inl (2, 0)), (2, .inl (3, 0))]
def st_c2e1 : List qV := [.inl (4, 0)]
set_option maxRecDepth 1000000 in
theorem ch_c2e1 : chkHm P_c2e1 6 2 1000000 1 28 E_c2e1 C_c2e1 31 lv_c2e1 st_c2e1 po_c2e1 cu_c2e1 hc_c2e1 = true := by decide +kernel
def P_c2f1 : qP := (qH, false, [(77, 9999)], false, [], [((29, 204), 1), ((29, 208), 1)], [12])
def po_c2f1 : List qPo := []
def cu_c2f1 : List qCu := []
def hc_c2f1 : List hCu := [(12, 0, ([], [(0, .inr (.inr (some 53))), (1, .inl (2, (-1))), (2, .inl (3, 1))], ([(0, 0), (1, 1), (2, 60), (0, 1119), (127, 2147483647), (0, 1120)], [], []), [((211, 33), .inl (1, 0))]))]
def E_c2f1 : qE := ([(0, 0), (1, 1), (2, 60), (0, 1119), (127, 2147483647), (0, 1120)], [], [])
def C_c2f1 : qC := [((211, 33), .inl (1, 0)), ((225, 1), .inl (5, 0))]
def lv_c2f1 : qK := [(0, .inr (.inr (some 53))), (1, .inl (2, 0)), (2, .inl (3, 0))]
def st_c2f1 : List qV := [.inl (4, 0)]
set_option maxRecDepth 1000000 in
theorem ch_c2f1 : chkHm P_c2f1 6 2 1000000 1 28 E_c2f1 C_c2f1 31 lv_c2f1 st_c2f1 po_c2f1 cu_c2f1 hc_c2f1 = true := by decide +kernel
theorem mt_X12_comes_30 {M : rM} (h : mT 28 = some M) : mTab M 30 = some (.iaload, 1) := by
  have e : (mT 28).bind (fun M => mTab M 30) = some (.iaload, 1) := by rfl
  rw [h] at e
  exact e
/-! by hand: the code that was told, run -/
theorem runH {P : qP} {Q : List rC → Prop} {L : List Nat} (hw : HW P.1) {mi : Nat} {M : rM} (hM : mT mi = some M) {n0 m fuel dep : Nat} {E : qE} {C : qC} {pc : Nat} {lv : qK} {st : List qV} {posts : List qPo} {cuts : List qCu} {hcs : List hCu} (hc : chkHm P n0 m fuel dep mi E C pc lv st posts cuts hcs = true) (hct : ∀ ct ∈ P.2.2.2.2.1, CtOK P.1 Q L ct) {aw0 aw : List rC} (hQ : P.2.2.2.1 = true → ∀ aw, ag P.1 P.2.2.1 aw0 aw → Q aw) (hs : P.2.1 = false) {τ0 σ : List Int} (hn : τ0.length = n0) (h0 : τ0[0]? = some 0) {d : Nat} (hd : dep ≤ d) {Post : Option rV → rD → Prop} {cn z : Nat} (hcz : cn ≤ mC M ∧ z ≤ mS M) {lw : rK} {sw : List rV} {D : rD} (hx : xt τ0 σ) (hr : qrl P.1 σ E C lv st lw sw D aw) (ha : ag P.1 P.2.2.1 aw0 aw) (hP : PostR P.1 P.2.2.1 posts τ0 aw0 Post) (hH : HcR P.1 L M cn z d P.2.2.1 hcs τ0 aw0 Post) : Ev L d M (pc, lw, sw, D, cn, z) Post := by
  unfold chkHm at hc
  rw [hM] at hc
  dsimp only at hc
  unfold chkH at hc
  rw [Bool.and_eq_true] at hc
  obtain ⟨δ, hδ⟩ : ∃ δ, d = dep + δ := ⟨d - dep, by omega⟩
  subst hδ
  exact entryH hw hct hQ hs hn h0 hc.2 hc.1 hP hcz hH hx hr ha
/-- the same slots, said by other symbols -/
def cR (H : qT) (τ τ' : List Int) : qC → qC → Prop
  | [], [] => True
  | e :: C, e' :: C' => e.1 = e'.1 ∧ (∀ v, vOK H τ e.2 v → vOK H τ' e'.2 v) ∧ cR H τ τ' C C'
  | _, _ => False
theorem kf_cR {H : qT} {τ τ' : List Int} : ∀ {C C' : qC}, cR H τ τ' C C' → ∀ p j, (kf C p j = none ∧ kf C' p j = none) ∨ ∃ a a', kf C p j = some a ∧ kf C' p j = some a' ∧ ∀ v, vOK H τ a v → vOK H τ' a' v
  | [], [], _, p, j => Or.inl ⟨rfl, rfl⟩
  | e :: C, e' :: C', h, p, j => by
    rw [kf_cons, kf_cons, ← h.1]
    cases hb : (Nat.beq e.1.1 p && Nat.beq e.1.2 j) with
    | true => exact Or.inr ⟨e.2, e'.2, rfl, rfl, h.2.1⟩
    | false => exact kf_cR h.2.2 p j
  | [], _ :: _, h, _, _ => h.elim
  | _ :: _, [], h, _, _ => h.elim
theorem hOK_cR {H : qT} {τ τ' : List Int} {C C' : qC} {aw : List rC} (h : cR H τ τ' C C') (g : hOK H τ C aw) : hOK H τ' C' aw := by
  refine ⟨g.1, fun p q hq => ?_⟩
  obtain ⟨κ, K, h1, h2, h3, h4, h5⟩ := g.2 p q hq
  refine ⟨κ, K, h1, h2, h3, h4, fun j v hv => ?_⟩
  have h6 := h5 j v hv
  unfold slOK at *
  rcases kf_cR h p j with ⟨e1, e2⟩ | ⟨a, a', e1, e2, e3⟩
  · rw [e1] at h6
    rw [e2]
    exact h6
  · rw [e1] at h6
    rw [e2]
    exact e3 v h6
theorem vI_re {H : qT} {τ τ' : List Int} {j j' : Nat} {y y' o o' : Int} (h1 : τ[j]? = some y) (h2 : τ'[j']? = some y') (e : y' + o' = y + o) : ∀ v, vOK H τ (.inl (j, o)) v → vOK H τ' (.inl (j', o')) v := by
  intro v h
  obtain ⟨g1, g2⟩ := vI_of h1 h
  rw [g2]
  exact vI h2 e.symm g1 rfl
theorem hOK_get {H : qT} {τ : List Int} {C : qC} {aw : List rC} (g : hOK H τ C aw) {p κ j : Nat} {K : qKd} (hp : H.2[p]? = some κ) (hK : H.1[κ]? = some K) (hj : j < K.2.1) : ∃ q v, aw[p]? = some q ∧ q.1 = K.1 ∧ q.2.length = K.2.1 ∧ q.2[j]? = some v ∧ sl aw p j = some v ∧ slOK H τ C K p j v := by
  obtain ⟨q, q1, q2, q3, q4⟩ := hOK_at g hp hK
  have hl : j < q.2.length := by rw [q3]; exact hj
  refine ⟨q, q.2[j], q1, q2, q3, List.getElem?_eq_getElem hl, ?_, q4 j _ (List.getElem?_eq_getElem hl)⟩
  unfold sl
  rw [q1]
  exact List.getElem?_eq_getElem hl
theorem kf_np {C : qC} {p j : Nat} (h : lall (fun e => !(Nat.beq e.1.1 p)) C = true) : kf C p j = none := by
  cases hk : kf C p j with
  | none => rfl
  | some a =>
    have := lall_iff.mp h _ (kf_mem hk)
    dsimp only at this
    rw [Nat.beq_refl] at this
    cases this
theorem sgn_eI {z : Int} (h : inR z) : sgn (eI z) = z := eI_inj (sgn_in (eI_lt z)).1 h (sgn_in (eI_lt z)).2
theorem eI_of {t : Int} {b : Nat} (h1 : 0 ≤ t) (h2 : t ≤ 2147483647) (h : eI t = b) : t = (b : Int) := by
  have := eI_cast t
  omega
theorem cd_ag {md : List (Nat × Nat)} {aw aw' : List rC} (h : ag qH md aw aw') (hm : mdin md 73 0 = false ∨ True) (hf : mdfree md QF = true) : cd aw' = cd aw := by
  funext j
  unfold cd
  rw [h.2 pCode 73 j (by decide +kernel) (mdfree_ok hf (by decide))]
abbrev PostC (aw : List rC) : Option rV → rD → Prop := fun v D' => ∃ aw', rep D' aw' ∧ ag qH [(77, 9999)] aw aw' ∧ ∃ o ∈ ct_0.2.2.2.2.2, ∃ τ1, xt [0] τ1 ∧ eOK2 τ1 o.2.2.1 ∧ hOK qH τ1 o.2.2.2 aw' ∧ resOK qH τ1 o.2.1 v
theorem comes_step0 {L : List Nat} {M : rM} (hM : mT 28 = some M) {d : Nat} (hd : 4 ≤ d) (k n b m : Nat) (lw : rK) (D : rD) (aw : List rC) (hkm : k + m = b) (hb : b ≤ 1120) (hn : n ≤ 60) (hto : sl aw pTo 0 = some (.inl b)) (hdr : (drun (cd aw) k m n).isSome = true) (hr : rep D aw) (hh : hOK qH [0, 0] [((211, 33), .inl (1, 0))] aw) (hl0 : ∃ v, lget lw 0 = some v ∧ vOK qH [] (.inr (.inr (some 53))) v) (hl1 : lget lw 1 = some (.inl n)) (hl2 : lget lw 2 = some (.inl k))
    (hgo : ∀ (n' : Nat) (lw' : rK) (D' : rD) (aw' : List rC), ag qH [(77, 9999)] aw aw' → n' ≤ 60 → 1 ≤ m → (drun (cd aw) (k + 1) (m - 1) n').isSome = true → rep D' aw' → hOK qH [0, 0] [((211, 33), .inl (1, 0))] aw' → (∃ v, lget lw' 0 = some v ∧ vOK qH [] (.inr (.inr (some 53))) v) → lget lw' 1 = some (.inl n') → lget lw' 2 = some (.inl (k + 1)) → Ev L d M (12, lw', [], D', 0, 0) (PostC aw)) : Ev L d M (12, lw, [], D, 0, 0) (PostC aw) := by
  have hk : k ≤ 1120 := by omega
  have en : eI (n : Int) = n := eI_nat (by omega)
  have ek : eI (k : Int) = k := eI_nat (by omega)
  have hE : eOK2 [0, 0, (n : Int), (k : Int)] E_c10 := eOK2_L ⟨⟨by decide, by decide⟩, ⟨by decide, by decide⟩, ⟨by dsimp only; omega, by dsimp only; omega⟩, ⟨by dsimp only; omega, by dsimp only; omega⟩, trivial⟩ rfl all_nil
  refine runH (P := P_c10) (Q := QB) qH_w hM ch_c10 all_nil (aw0 := aw) (aw := aw) (fun g => by cases g) rfl (τ0 := [0, 0, (n : Int), (k : Int)]) (σ := [0, 0, (n : Int), (k : Int)]) rfl rfl (Nat.zero_le _) ⟨Nat.zero_le _, Nat.zero_le _⟩ (xt_refl _) ⟨hE, hOK_xt (xt_app [0, 0] [(n : Int), (k : Int)]) hh, lvOK_cons hl0 (lvOK_cons ⟨_, hl1, vI (y := (n : Int)) rfl (Int.add_zero _).symm ⟨by omega, by omega⟩ en.symm⟩ (lvOK_cons ⟨_, hl2, vI (y := (k : Int)) rfl (Int.add_zero _).symm ⟨by omega, by omega⟩ ek.symm⟩ lvOK_nil)), trivial, hr⟩ (ag_refl _ _ _) ?_ ?_
  · intro o ho τ1 aw' w D' x1 a1 a2 a3 a4 a5
    have ho := List.mem_singleton.mp ho
    subst ho
    obtain ⟨y, y1, y2⟩ := a3.2.2.1 4 _ rfl
    obtain ⟨v, v1, v2⟩ := a5
    obtain ⟨g1, g2⟩ := vI_of y1 v2
    refine ⟨aw', a1, a2, _, List.mem_singleton.mpr rfl, [0, y], ?_, eOK2_L ⟨⟨by decide, by decide⟩, y2, trivial⟩ rfl all_nil, hOK_nil a4, v, v1, by rw [g2]; exact vI (y := y) rfl rfl g1 rfl⟩
    intro j y hj
    match j, hj with
    | 0, hj => exact hj
  · intro c hcc τ aw' lw' sw' D' x1 a1 a2 a3 a4 a5 a6
    have hcc := List.mem_singleton.mp hcc
    subst hcc
    match sw', a6 with
    | [p0, p1], _ =>
      obtain ⟨v0, w0, y0⟩ := a5 0 _ rfl
      obtain ⟨v1, w1, y1⟩ := a5 1 _ rfl
      obtain ⟨v2, w2, y2⟩ := a5 2 _ rfl
      obtain ⟨v3, w3, y3⟩ := a5 200 _ rfl
      obtain ⟨v4, w4, y4⟩ := a5 201 _ rfl
      have w0 : lget lw' 0 = some v0 := w0
      have w1 : lget lw' 1 = some v1 := w1
      have w2 : lget lw' 2 = some v2 := w2
      have w3 : some p0 = some v3 := w3
      have w4 : some p1 = some v4 := w4
      cases w3
      cases w4
      have t1 := x1 1 0 rfl
      have t2 := x1 2 (n : Int) rfl
      have t3 := x1 3 (k : Int) rfl
      obtain ⟨t, t4, t5, t6⟩ := a3.2.2.1 4 _ rfl
      obtain ⟨i1, i2⟩ := vI_of t2 y1
      obtain ⟨i3, i4⟩ := vI_of t3 y2
      obtain ⟨i5, i6⟩ := vI_of t3 y3
      rw [Int.add_zero, en] at i2
      rw [Int.add_zero, ek] at i4 i6
      rw [i2] at w1
      rw [i4] at w2
      obtain ⟨p, q1, q2⟩ := y4
      have hp : p = pCode := qH_w 73 _ pCode (rfl : qH.1[73]? = some (14, 1120, some pCode, [.inl (-2147483648, 2147483647)])) rfl p q2
      subst hp
      rw [q1, i6]
      -- the rule's end
      obtain ⟨qt, vt, z1, z2, z3, z4, z5, z6⟩ := hOK_get a4 (by decide +kernel : qH.2[pTo]? = some 67) (rfl : qH.1[67]? = some (14, 2, some pTo, [.inl (0, 1120)])) (show 0 < 2 by decide)
      have z6 : vOK qH τ (.inl (4, 0)) vt := z6
      obtain ⟨z7, z8⟩ := vI_of t4 z6
      rw [Int.add_zero] at z7 z8
      have hto' : sl aw' pTo 0 = some (.inl b) := by rw [a2.2 pTo 67 0 (by decide +kernel) (by decide)]; exact hto
      rw [z5, z8] at hto'
      have hbt : eI t = b := by injection hto' with e; injection e
      have htb := eI_of (show (0 : Int) ≤ t from t5) (by have : t ≤ 1120 := t6; omega) hbt
      obtain ⟨fx, fy, f1, f2, f3⟩ := a3.2.2.2.1 (3, 4, 1) List.mem_cons_self
      rw [t3] at f1
      cases f1
      rw [t4] at f2
      cases f2
      have hlt : k + 1 ≤ b := by
        have f3 : (k : Int) + 1 ≤ t := f3
        omega
      -- the sign
      obtain ⟨qc, vc, c1, c2, c3, c4, c5, c6⟩ := hOK_get (j := k) a4 (by decide +kernel : qH.2[pCode]? = some 73) (rfl : qH.1[73]? = some (14, 1120, some pCode, [.inl (-2147483648, 2147483647)])) (show k < 1120 by omega)
      have hkf' : kf [((211, 33), (.inl (1, 0) : qV)), ((225, 0), .inl (4, 0))] pCode k = none := kf_np rfl
      unfold slOK at c6
      rw [show kf _ pCode k = none from hkf'] at c6
      obtain ⟨sc, c7, c8⟩ := c6
      have hsd : ∀ o : Option Nat, sdAt (14, 1120, o, [.inl (-2147483648, 2147483647)]) k = some (.inl (-2147483648, 2147483647)) := by
        intro o
        unfold sdAt
        rw [show Nat.blt 14 13 = false from rfl, cond_false, blt_of (show k < 1120 by omega), cond_true]
        rfl
      rw [hsd] at c7
      cases c7
      obtain ⟨z, c9, c10, -, -⟩ := c8
      subst c9
      have hcd : cd aw k = z := by
        rw [← cd_ag a2 (Or.inr trivial) (by decide)]
        unfold cd
        rw [c5]
        exact sgn_eI c10
      refine Ev_step (st_iald (mt_X12_comes_30 hM) a1 (show aw'[pCode]? = some (14, qc.2) by rw [c1]; congr 1; exact Prod.ext c2 rfl) c4 (by omega)) ?_
      obtain ⟨m', hm'⟩ : ∃ m', m = m' + 1 := ⟨m - 1, by omega⟩
      subst hm'
      have hdr' : (match dstep (cd aw k) n with | some d => drun (cd aw) (k + 1) m' d | none => none).isSome = true := hdr
      rw [hcd] at hdr'
      have hsub : m' + 1 - 1 = m' := by omega
      rw [hsub] at hgo
      unfold dstep at hdr'
      by_cases h126 : z = 126
      · rw [if_pos h126] at hdr'
        by_cases h1n : 1 ≤ n
        · rw [if_pos h1n] at hdr'
          dsimp only at hdr'
          refine runH (P := P_c2a0) (Q := QB) qH_w hM ch_c2a0 all_nil (aw0 := aw) (aw := aw') (fun g => by cases g) rfl (τ0 := [0, 0, (n : Int), (k : Int), z, t]) (σ := [0, 0, (n : Int), (k : Int), z, t]) rfl rfl (Nat.le_trans (by decide) hd) ⟨Nat.zero_le _, Nat.zero_le _⟩ (xt_refl _) ⟨eOK2_L ⟨⟨by decide, by decide⟩, ⟨by decide, by decide⟩, ⟨by dsimp only; omega, by dsimp only; omega⟩, ⟨by dsimp only; omega, by dsimp only; omega⟩, ⟨by have := c10.1; dsimp only; omega, by have := c10.2; dsimp only; omega⟩, ⟨t5, t6⟩, trivial⟩ rfl all_nil, hOK_cR (C := [((211, 33), .inl (1, 0)), ((225, 0), .inl (4, 0))]) ⟨rfl, vI_re t1 rfl rfl, rfl, vI_re t4 rfl rfl, trivial⟩ a4, lvOK_cons ⟨_, w0, y0⟩ (lvOK_cons ⟨_, w1, vI (y := (n : Int)) rfl (Int.add_zero _).symm ⟨by omega, by omega⟩ en.symm⟩ (lvOK_cons ⟨_, w2, vI (y := (k : Int)) rfl (Int.add_zero _).symm ⟨by omega, by omega⟩ ek.symm⟩ lvOK_nil)), ⟨vI (y := z) rfl (Int.add_zero _).symm c10 rfl, trivial⟩, a1⟩ a2 all_nil ?_
          intro c2 hcc2 τ2 aw2 lw2 sw2 D2 x2 b1 b2 b3 b4 b5 b6
          have hcc2 := List.mem_singleton.mp hcc2
          subst hcc2
          match sw2, b6 with
          | [], _ =>
            obtain ⟨o0, r0, r1⟩ := b5 0 _ rfl
            obtain ⟨o1, r2, r3⟩ := b5 1 _ rfl
            obtain ⟨o2, r4, r5⟩ := b5 2 _ rfl
            have r0 : lget lw2 0 = some o0 := r0
            have r2 : lget lw2 1 = some o1 := r2
            have r4 : lget lw2 2 = some o2 := r4
            obtain ⟨j1, j2⟩ := vI_of (x2 2 (n : Int) rfl) r3
            obtain ⟨j3, j4⟩ := vI_of (x2 3 (k : Int) rfl) r5
            rw [j2] at r2
            rw [j4, show ((k : Int) + 1) = ((k + 1 : Nat) : Int) by omega, eI_nat (by omega)] at r4
            rw [show ((n : Int) + 0) = ((n : Nat) : Int) by omega, eI_nat (by omega)] at r2
            exact hgo (n) lw2 D2 aw2 b2 (by omega) (by omega) hdr' b1 (hOK_cR (C := [((211, 33), .inl (1, 0))]) ⟨rfl, vI_re (x2 1 0 rfl) rfl rfl, trivial⟩ b4) ⟨_, r0, r1⟩ r2 r4
        · rw [if_neg h1n] at hdr'
          cases hdr'
      · rw [if_neg h126] at hdr'
        by_cases hle : 97 ≤ z ∧ z ≤ 122
        · rw [if_pos hle] at hdr'
          by_cases h60 : n < 60
          · rw [if_pos h60] at hdr'
            dsimp only at hdr'
            refine runH (P := P_c2b0) (Q := QB) qH_w hM ch_c2b0 (all_cons (co_203) all_nil) (aw0 := aw) (aw := aw') (fun g => by cases g) rfl (τ0 := [0, 0, (n : Int), (k : Int), z, t]) (σ := [0, 0, (n : Int), (k : Int), z, t]) rfl rfl (Nat.le_trans (by decide) hd) ⟨Nat.zero_le _, Nat.zero_le _⟩ (xt_refl _) ⟨eOK2_L ⟨⟨by decide, by decide⟩, ⟨by decide, by decide⟩, ⟨by dsimp only; omega, by dsimp only; omega⟩, ⟨by dsimp only; omega, by dsimp only; omega⟩, ⟨by have := c10.1; dsimp only; omega, by have := c10.2; dsimp only; omega⟩, ⟨t5, t6⟩, trivial⟩ rfl all_nil, hOK_cR (C := [((211, 33), .inl (1, 0)), ((225, 0), .inl (4, 0))]) ⟨rfl, vI_re t1 rfl rfl, rfl, vI_re t4 rfl rfl, trivial⟩ a4, lvOK_cons ⟨_, w0, y0⟩ (lvOK_cons ⟨_, w1, vI (y := (n : Int)) rfl (Int.add_zero _).symm ⟨by omega, by omega⟩ en.symm⟩ (lvOK_cons ⟨_, w2, vI (y := (k : Int)) rfl (Int.add_zero _).symm ⟨by omega, by omega⟩ ek.symm⟩ lvOK_nil)), ⟨vI (y := z) rfl (Int.add_zero _).symm c10 rfl, trivial⟩, a1⟩ a2 all_nil ?_
            intro c2 hcc2 τ2 aw2 lw2 sw2 D2 x2 b1 b2 b3 b4 b5 b6
            have hcc2 := List.mem_singleton.mp hcc2
            subst hcc2
            match sw2, b6 with
            | [], _ =>
              obtain ⟨o0, r0, r1⟩ := b5 0 _ rfl
              obtain ⟨o1, r2, r3⟩ := b5 1 _ rfl
              obtain ⟨o2, r4, r5⟩ := b5 2 _ rfl
              have r0 : lget lw2 0 = some o0 := r0
              have r2 : lget lw2 1 = some o1 := r2
              have r4 : lget lw2 2 = some o2 := r4
              obtain ⟨j1, j2⟩ := vI_of (x2 2 (n : Int) rfl) r3
              obtain ⟨j3, j4⟩ := vI_of (x2 3 (k : Int) rfl) r5
              rw [j2] at r2
              rw [j4, show ((k : Int) + 1) = ((k + 1 : Nat) : Int) by omega, eI_nat (by omega)] at r4
              rw [show ((n : Int) + 1) = ((n + 1 : Nat) : Int) by omega, eI_nat (by omega)] at r2
              exact hgo (n + 1) lw2 D2 aw2 b2 (by omega) (by omega) hdr' b1 (hOK_cR (C := [((211, 33), .inl (1, 0))]) ⟨rfl, vI_re (x2 1 0 rfl) rfl rfl, trivial⟩ b4) ⟨_, r0, r1⟩ r2 r4
          · rw [if_neg h60] at hdr'
            cases hdr'
        · rw [if_neg hle] at hdr'
          by_cases h2n : 2 ≤ n
          · rw [if_pos h2n] at hdr'
            dsimp only at hdr'
            by_cases g96 : z ≤ 96
            · refine runH (P := P_c2d0) (Q := QB) qH_w hM ch_c2d0 all_nil (aw0 := aw) (aw := aw') (fun g => by cases g) rfl (τ0 := [0, 0, (n : Int), (k : Int), z, t]) (σ := [0, 0, (n : Int), (k : Int), z, t]) rfl rfl (Nat.le_trans (by decide) hd) ⟨Nat.zero_le _, Nat.zero_le _⟩ (xt_refl _) ⟨eOK2_L ⟨⟨by decide, by decide⟩, ⟨by decide, by decide⟩, ⟨by dsimp only; omega, by dsimp only; omega⟩, ⟨by dsimp only; omega, by dsimp only; omega⟩, ⟨by have := c10.1; dsimp only; omega, by have := c10.2; dsimp only; omega⟩, ⟨t5, t6⟩, trivial⟩ rfl all_nil, hOK_cR (C := [((211, 33), .inl (1, 0)), ((225, 0), .inl (4, 0))]) ⟨rfl, vI_re t1 rfl rfl, rfl, vI_re t4 rfl rfl, trivial⟩ a4, lvOK_cons ⟨_, w0, y0⟩ (lvOK_cons ⟨_, w1, vI (y := (n : Int)) rfl (Int.add_zero _).symm ⟨by omega, by omega⟩ en.symm⟩ (lvOK_cons ⟨_, w2, vI (y := (k : Int)) rfl (Int.add_zero _).symm ⟨by omega, by omega⟩ ek.symm⟩ lvOK_nil)), ⟨vI (y := z) rfl (Int.add_zero _).symm c10 rfl, trivial⟩, a1⟩ a2 all_nil ?_
              intro c2 hcc2 τ2 aw2 lw2 sw2 D2 x2 b1 b2 b3 b4 b5 b6
              have hcc2 := List.mem_singleton.mp hcc2
              subst hcc2
              match sw2, b6 with
              | [], _ =>
                obtain ⟨o0, r0, r1⟩ := b5 0 _ rfl
                obtain ⟨o1, r2, r3⟩ := b5 1 _ rfl
                obtain ⟨o2, r4, r5⟩ := b5 2 _ rfl
                have r0 : lget lw2 0 = some o0 := r0
                have r2 : lget lw2 1 = some o1 := r2
                have r4 : lget lw2 2 = some o2 := r4
                obtain ⟨j1, j2⟩ := vI_of (x2 2 (n : Int) rfl) r3
                obtain ⟨j3, j4⟩ := vI_of (x2 3 (k : Int) rfl) r5
                rw [j2] at r2
                rw [j4, show ((k : Int) + 1) = ((k + 1 : Nat) : Int) by omega, eI_nat (by omega)] at r4
                rw [show ((n : Int) + -1) = ((n - 1 : Nat) : Int) by omega, eI_nat (by omega)] at r2
                exact hgo (n - 1) lw2 D2 aw2 b2 (by omega) (by omega) hdr' b1 (hOK_cR (C := [((211, 33), .inl (1, 0))]) ⟨rfl, vI_re (x2 1 0 rfl) rfl rfl, trivial⟩ b4) ⟨_, r0, r1⟩ r2 r4
            · by_cases g125 : z ≤ 125
              · refine runH (P := P_c2e0) (Q := QB) qH_w hM ch_c2e0 all_nil (aw0 := aw) (aw := aw') (fun g => by cases g) rfl (τ0 := [0, 0, (n : Int), (k : Int), z, t]) (σ := [0, 0, (n : Int), (k : Int), z, t]) rfl rfl (Nat.le_trans (by decide) hd) ⟨Nat.zero_le _, Nat.zero_le _⟩ (xt_refl _) ⟨eOK2_L ⟨⟨by decide, by decide⟩, ⟨by decide, by decide⟩, ⟨by dsimp only; omega, by dsimp only; omega⟩, ⟨by dsimp only; omega, by dsimp only; omega⟩, ⟨by have := c10.1; dsimp only; omega, by have := c10.2; dsimp only; omega⟩, ⟨t5, t6⟩, trivial⟩ rfl all_nil, hOK_cR (C := [((211, 33), .inl (1, 0)), ((225, 0), .inl (4, 0))]) ⟨rfl, vI_re t1 rfl rfl, rfl, vI_re t4 rfl rfl, trivial⟩ a4, lvOK_cons ⟨_, w0, y0⟩ (lvOK_cons ⟨_, w1, vI (y := (n : Int)) rfl (Int.add_zero _).symm ⟨by omega, by omega⟩ en.symm⟩ (lvOK_cons ⟨_, w2, vI (y := (k : Int)) rfl (Int.add_zero _).symm ⟨by omega, by omega⟩ ek.symm⟩ lvOK_nil)), ⟨vI (y := z) rfl (Int.add_zero _).symm c10 rfl, trivial⟩, a1⟩ a2 all_nil ?_
                intro c2 hcc2 τ2 aw2 lw2 sw2 D2 x2 b1 b2 b3 b4 b5 b6
                have hcc2 := List.mem_singleton.mp hcc2
                subst hcc2
                match sw2, b6 with
                | [], _ =>
                  obtain ⟨o0, r0, r1⟩ := b5 0 _ rfl
                  obtain ⟨o1, r2, r3⟩ := b5 1 _ rfl
                  obtain ⟨o2, r4, r5⟩ := b5 2 _ rfl
                  have r0 : lget lw2 0 = some o0 := r0
                  have r2 : lget lw2 1 = some o1 := r2
                  have r4 : lget lw2 2 = some o2 := r4
                  obtain ⟨j1, j2⟩ := vI_of (x2 2 (n : Int) rfl) r3
                  obtain ⟨j3, j4⟩ := vI_of (x2 3 (k : Int) rfl) r5
                  rw [j2] at r2
                  rw [j4, show ((k : Int) + 1) = ((k + 1 : Nat) : Int) by omega, eI_nat (by omega)] at r4
                  rw [show ((n : Int) + -1) = ((n - 1 : Nat) : Int) by omega, eI_nat (by omega)] at r2
                  exact hgo (n - 1) lw2 D2 aw2 b2 (by omega) (by omega) hdr' b1 (hOK_cR (C := [((211, 33), .inl (1, 0))]) ⟨rfl, vI_re (x2 1 0 rfl) rfl rfl, trivial⟩ b4) ⟨_, r0, r1⟩ r2 r4
              · refine runH (P := P_c2f0) (Q := QB) qH_w hM ch_c2f0 all_nil (aw0 := aw) (aw := aw') (fun g => by cases g) rfl (τ0 := [0, 0, (n : Int), (k : Int), z, t]) (σ := [0, 0, (n : Int), (k : Int), z, t]) rfl rfl (Nat.le_trans (by decide) hd) ⟨Nat.zero_le _, Nat.zero_le _⟩ (xt_refl _) ⟨eOK2_L ⟨⟨by decide, by decide⟩, ⟨by decide, by decide⟩, ⟨by dsimp only; omega, by dsimp only; omega⟩, ⟨by dsimp only; omega, by dsimp only; omega⟩, ⟨by have := c10.1; dsimp only; omega, by have := c10.2; dsimp only; omega⟩, ⟨t5, t6⟩, trivial⟩ rfl all_nil, hOK_cR (C := [((211, 33), .inl (1, 0)), ((225, 0), .inl (4, 0))]) ⟨rfl, vI_re t1 rfl rfl, rfl, vI_re t4 rfl rfl, trivial⟩ a4, lvOK_cons ⟨_, w0, y0⟩ (lvOK_cons ⟨_, w1, vI (y := (n : Int)) rfl (Int.add_zero _).symm ⟨by omega, by omega⟩ en.symm⟩ (lvOK_cons ⟨_, w2, vI (y := (k : Int)) rfl (Int.add_zero _).symm ⟨by omega, by omega⟩ ek.symm⟩ lvOK_nil)), ⟨vI (y := z) rfl (Int.add_zero _).symm c10 rfl, trivial⟩, a1⟩ a2 all_nil ?_
                intro c2 hcc2 τ2 aw2 lw2 sw2 D2 x2 b1 b2 b3 b4 b5 b6
                have hcc2 := List.mem_singleton.mp hcc2
                subst hcc2
                match sw2, b6 with
                | [], _ =>
                  obtain ⟨o0, r0, r1⟩ := b5 0 _ rfl
                  obtain ⟨o1, r2, r3⟩ := b5 1 _ rfl
                  obtain ⟨o2, r4, r5⟩ := b5 2 _ rfl
                  have r0 : lget lw2 0 = some o0 := r0
                  have r2 : lget lw2 1 = some o1 := r2
                  have r4 : lget lw2 2 = some o2 := r4
                  obtain ⟨j1, j2⟩ := vI_of (x2 2 (n : Int) rfl) r3
                  obtain ⟨j3, j4⟩ := vI_of (x2 3 (k : Int) rfl) r5
                  rw [j2] at r2
                  rw [j4, show ((k : Int) + 1) = ((k + 1 : Nat) : Int) by omega, eI_nat (by omega)] at r4
                  rw [show ((n : Int) + -1) = ((n - 1 : Nat) : Int) by omega, eI_nat (by omega)] at r2
                  exact hgo (n - 1) lw2 D2 aw2 b2 (by omega) (by omega) hdr' b1 (hOK_cR (C := [((211, 33), .inl (1, 0))]) ⟨rfl, vI_re (x2 1 0 rfl) rfl rfl, trivial⟩ b4) ⟨_, r0, r1⟩ r2 r4
          · rw [if_neg h2n] at hdr'
            cases hdr'
theorem comes_loop0 {L : List Nat} {M : rM} (hM : mT 28 = some M) {d : Nat} (hd : 4 ≤ d) : ∀ (m k n b : Nat) (lw : rK) (D : rD) (aw : List rC), k + m = b → b ≤ 1120 → n ≤ 60 → sl aw pTo 0 = some (.inl b) → (drun (cd aw) k m n).isSome = true → rep D aw → hOK qH [0, 0] [((211, 33), .inl (1, 0))] aw → (∃ v, lget lw 0 = some v ∧ vOK qH [] (.inr (.inr (some 53))) v) → lget lw 1 = some (.inl n) → lget lw 2 = some (.inl k) → Ev L d M (12, lw, [], D, 0, 0) (PostC aw) := by
  intro m
  induction m with
  | zero =>
    intro k n b lw D aw hkm hb hn hto hdr hr hh h0 h1 h2
    exact comes_step0 hM hd k n b 0 lw D aw hkm hb hn hto hdr hr hh h0 h1 h2 (fun _ _ _ _ _ _ h => absurd h (by decide))
  | succ m ih =>
    intro k n b lw D aw hkm hb hn hto hdr hr hh h0 h1 h2
    refine comes_step0 hM hd k n b (m + 1) lw D aw hkm hb hn hto hdr hr hh h0 h1 h2 (fun n' lw' D' aw' hag hn' _ g1 g2 g3 g4 g5 g6 => ?_)
    have ec := cd_ag hag (Or.inr trivial) (by decide)
    refine Ev_mono (ih (k + 1) n' b lw' D' aw' (by omega) hb hn' (by rw [hag.2 pTo 67 0 (by decide +kernel) (by decide)]; exact hto) (by rw [ec]; exact g1) g2 g3 g4 g5 g6) ?_
    rintro v D2 ⟨aw2, b1, b2, b3⟩
    exact ⟨aw2, b1, ag_trans hag b2, b3⟩
theorem comes_step1 {L : List Nat} {M : rM} (hM : mT 28 = some M) {d : Nat} (hd : 4 ≤ d) (k n b m : Nat) (lw : rK) (D : rD) (aw : List rC) (hkm : k + m = b) (hb : b ≤ 1120) (hn : n ≤ 60) (hto : sl aw pTo 1 = some (.inl b)) (hdr : (drun (cd aw) k m n).isSome = true) (hr : rep D aw) (hh : hOK qH [0, 1] [((211, 33), .inl (1, 0))] aw) (hl0 : ∃ v, lget lw 0 = some v ∧ vOK qH [] (.inr (.inr (some 53))) v) (hl1 : lget lw 1 = some (.inl n)) (hl2 : lget lw 2 = some (.inl k))
    (hgo : ∀ (n' : Nat) (lw' : rK) (D' : rD) (aw' : List rC), ag qH [(77, 9999)] aw aw' → n' ≤ 60 → 1 ≤ m → (drun (cd aw) (k + 1) (m - 1) n').isSome = true → rep D' aw' → hOK qH [0, 1] [((211, 33), .inl (1, 0))] aw' → (∃ v, lget lw' 0 = some v ∧ vOK qH [] (.inr (.inr (some 53))) v) → lget lw' 1 = some (.inl n') → lget lw' 2 = some (.inl (k + 1)) → Ev L d M (12, lw', [], D', 0, 0) (PostC aw)) : Ev L d M (12, lw, [], D, 0, 0) (PostC aw) := by
  have hk : k ≤ 1120 := by omega
  have en : eI (n : Int) = n := eI_nat (by omega)
  have ek : eI (k : Int) = k := eI_nat (by omega)
  have hE : eOK2 [0, 1, (n : Int), (k : Int)] E_c11 := eOK2_L ⟨⟨by decide, by decide⟩, ⟨by decide, by decide⟩, ⟨by dsimp only; omega, by dsimp only; omega⟩, ⟨by dsimp only; omega, by dsimp only; omega⟩, trivial⟩ rfl all_nil
  refine runH (P := P_c11) (Q := QB) qH_w hM ch_c11 all_nil (aw0 := aw) (aw := aw) (fun g => by cases g) rfl (τ0 := [0, 1, (n : Int), (k : Int)]) (σ := [0, 1, (n : Int), (k : Int)]) rfl rfl (Nat.zero_le _) ⟨Nat.zero_le _, Nat.zero_le _⟩ (xt_refl _) ⟨hE, hOK_xt (xt_app [0, 1] [(n : Int), (k : Int)]) hh, lvOK_cons hl0 (lvOK_cons ⟨_, hl1, vI (y := (n : Int)) rfl (Int.add_zero _).symm ⟨by omega, by omega⟩ en.symm⟩ (lvOK_cons ⟨_, hl2, vI (y := (k : Int)) rfl (Int.add_zero _).symm ⟨by omega, by omega⟩ ek.symm⟩ lvOK_nil)), trivial, hr⟩ (ag_refl _ _ _) ?_ ?_
  · intro o ho τ1 aw' w D' x1 a1 a2 a3 a4 a5
    have ho := List.mem_singleton.mp ho
    subst ho
    obtain ⟨y, y1, y2⟩ := a3.2.2.1 4 _ rfl
    obtain ⟨v, v1, v2⟩ := a5
    obtain ⟨g1, g2⟩ := vI_of y1 v2
    refine ⟨aw', a1, a2, _, List.mem_singleton.mpr rfl, [0, y], ?_, eOK2_L ⟨⟨by decide, by decide⟩, y2, trivial⟩ rfl all_nil, hOK_nil a4, v, v1, by rw [g2]; exact vI (y := y) rfl rfl g1 rfl⟩
    intro j y hj
    match j, hj with
    | 0, hj => exact hj
  · intro c hcc τ aw' lw' sw' D' x1 a1 a2 a3 a4 a5 a6
    have hcc := List.mem_singleton.mp hcc
    subst hcc
    match sw', a6 with
    | [p0, p1], _ =>
      obtain ⟨v0, w0, y0⟩ := a5 0 _ rfl
      obtain ⟨v1, w1, y1⟩ := a5 1 _ rfl
      obtain ⟨v2, w2, y2⟩ := a5 2 _ rfl
      obtain ⟨v3, w3, y3⟩ := a5 200 _ rfl
      obtain ⟨v4, w4, y4⟩ := a5 201 _ rfl
      have w0 : lget lw' 0 = some v0 := w0
      have w1 : lget lw' 1 = some v1 := w1
      have w2 : lget lw' 2 = some v2 := w2
      have w3 : some p0 = some v3 := w3
      have w4 : some p1 = some v4 := w4
      cases w3
      cases w4
      have t1 := x1 1 1 rfl
      have t2 := x1 2 (n : Int) rfl
      have t3 := x1 3 (k : Int) rfl
      obtain ⟨t, t4, t5, t6⟩ := a3.2.2.1 4 _ rfl
      obtain ⟨i1, i2⟩ := vI_of t2 y1
      obtain ⟨i3, i4⟩ := vI_of t3 y2
      obtain ⟨i5, i6⟩ := vI_of t3 y3
      rw [Int.add_zero, en] at i2
      rw [Int.add_zero, ek] at i4 i6
      rw [i2] at w1
      rw [i4] at w2
      obtain ⟨p, q1, q2⟩ := y4
      have hp : p = pCode := qH_w 73 _ pCode (rfl : qH.1[73]? = some (14, 1120, some pCode, [.inl (-2147483648, 2147483647)])) rfl p q2
      subst hp
      rw [q1, i6]
      -- the rule's end
      obtain ⟨qt, vt, z1, z2, z3, z4, z5, z6⟩ := hOK_get a4 (by decide +kernel : qH.2[pTo]? = some 67) (rfl : qH.1[67]? = some (14, 2, some pTo, [.inl (0, 1120)])) (show 1 < 2 by decide)
      have z6 : vOK qH τ (.inl (4, 0)) vt := z6
      obtain ⟨z7, z8⟩ := vI_of t4 z6
      rw [Int.add_zero] at z7 z8
      have hto' : sl aw' pTo 1 = some (.inl b) := by rw [a2.2 pTo 67 1 (by decide +kernel) (by decide)]; exact hto
      rw [z5, z8] at hto'
      have hbt : eI t = b := by injection hto' with e; injection e
      have htb := eI_of (show (0 : Int) ≤ t from t5) (by have : t ≤ 1120 := t6; omega) hbt
      obtain ⟨fx, fy, f1, f2, f3⟩ := a3.2.2.2.1 (3, 4, 1) List.mem_cons_self
      rw [t3] at f1
      cases f1
      rw [t4] at f2
      cases f2
      have hlt : k + 1 ≤ b := by
        have f3 : (k : Int) + 1 ≤ t := f3
        omega
      -- the sign
      obtain ⟨qc, vc, c1, c2, c3, c4, c5, c6⟩ := hOK_get (j := k) a4 (by decide +kernel : qH.2[pCode]? = some 73) (rfl : qH.1[73]? = some (14, 1120, some pCode, [.inl (-2147483648, 2147483647)])) (show k < 1120 by omega)
      have hkf' : kf [((211, 33), (.inl (1, 0) : qV)), ((225, 1), .inl (4, 0))] pCode k = none := kf_np rfl
      unfold slOK at c6
      rw [show kf _ pCode k = none from hkf'] at c6
      obtain ⟨sc, c7, c8⟩ := c6
      have hsd : ∀ o : Option Nat, sdAt (14, 1120, o, [.inl (-2147483648, 2147483647)]) k = some (.inl (-2147483648, 2147483647)) := by
        intro o
        unfold sdAt
        rw [show Nat.blt 14 13 = false from rfl, cond_false, blt_of (show k < 1120 by omega), cond_true]
        rfl
      rw [hsd] at c7
      cases c7
      obtain ⟨z, c9, c10, -, -⟩ := c8
      subst c9
      have hcd : cd aw k = z := by
        rw [← cd_ag a2 (Or.inr trivial) (by decide)]
        unfold cd
        rw [c5]
        exact sgn_eI c10
      refine Ev_step (st_iald (mt_X12_comes_30 hM) a1 (show aw'[pCode]? = some (14, qc.2) by rw [c1]; congr 1; exact Prod.ext c2 rfl) c4 (by omega)) ?_
      obtain ⟨m', hm'⟩ : ∃ m', m = m' + 1 := ⟨m - 1, by omega⟩
      subst hm'
      have hdr' : (match dstep (cd aw k) n with | some d => drun (cd aw) (k + 1) m' d | none => none).isSome = true := hdr
      rw [hcd] at hdr'
      have hsub : m' + 1 - 1 = m' := by omega
      rw [hsub] at hgo
      unfold dstep at hdr'
      by_cases h126 : z = 126
      · rw [if_pos h126] at hdr'
        by_cases h1n : 1 ≤ n
        · rw [if_pos h1n] at hdr'
          dsimp only at hdr'
          refine runH (P := P_c2a1) (Q := QB) qH_w hM ch_c2a1 all_nil (aw0 := aw) (aw := aw') (fun g => by cases g) rfl (τ0 := [0, 1, (n : Int), (k : Int), z, t]) (σ := [0, 1, (n : Int), (k : Int), z, t]) rfl rfl (Nat.le_trans (by decide) hd) ⟨Nat.zero_le _, Nat.zero_le _⟩ (xt_refl _) ⟨eOK2_L ⟨⟨by decide, by decide⟩, ⟨by decide, by decide⟩, ⟨by dsimp only; omega, by dsimp only; omega⟩, ⟨by dsimp only; omega, by dsimp only; omega⟩, ⟨by have := c10.1; dsimp only; omega, by have := c10.2; dsimp only; omega⟩, ⟨t5, t6⟩, trivial⟩ rfl all_nil, hOK_cR (C := [((211, 33), .inl (1, 0)), ((225, 1), .inl (4, 0))]) ⟨rfl, vI_re t1 rfl rfl, rfl, vI_re t4 rfl rfl, trivial⟩ a4, lvOK_cons ⟨_, w0, y0⟩ (lvOK_cons ⟨_, w1, vI (y := (n : Int)) rfl (Int.add_zero _).symm ⟨by omega, by omega⟩ en.symm⟩ (lvOK_cons ⟨_, w2, vI (y := (k : Int)) rfl (Int.add_zero _).symm ⟨by omega, by omega⟩ ek.symm⟩ lvOK_nil)), ⟨vI (y := z) rfl (Int.add_zero _).symm c10 rfl, trivial⟩, a1⟩ a2 all_nil ?_
          intro c2 hcc2 τ2 aw2 lw2 sw2 D2 x2 b1 b2 b3 b4 b5 b6
          have hcc2 := List.mem_singleton.mp hcc2
          subst hcc2
          match sw2, b6 with
          | [], _ =>
            obtain ⟨o0, r0, r1⟩ := b5 0 _ rfl
            obtain ⟨o1, r2, r3⟩ := b5 1 _ rfl
            obtain ⟨o2, r4, r5⟩ := b5 2 _ rfl
            have r0 : lget lw2 0 = some o0 := r0
            have r2 : lget lw2 1 = some o1 := r2
            have r4 : lget lw2 2 = some o2 := r4
            obtain ⟨j1, j2⟩ := vI_of (x2 2 (n : Int) rfl) r3
            obtain ⟨j3, j4⟩ := vI_of (x2 3 (k : Int) rfl) r5
            rw [j2] at r2
            rw [j4, show ((k : Int) + 1) = ((k + 1 : Nat) : Int) by omega, eI_nat (by omega)] at r4
            rw [show ((n : Int) + 0) = ((n : Nat) : Int) by omega, eI_nat (by omega)] at r2
            exact hgo (n) lw2 D2 aw2 b2 (by omega) (by omega) hdr' b1 (hOK_cR (C := [((211, 33), .inl (1, 0))]) ⟨rfl, vI_re (x2 1 1 rfl) rfl rfl, trivial⟩ b4) ⟨_, r0, r1⟩ r2 r4
        · rw [if_neg h1n] at hdr'
          cases hdr'
      · rw [if_neg h126] at hdr'
        by_cases hle : 97 ≤ z ∧ z ≤ 122
        · rw [if_pos hle] at hdr'
          by_cases h60 : n < 60
          · rw [if_pos h60] at hdr'
            dsimp only at hdr'
            refine runH (P := P_c2b1) (Q := QB) qH_w hM ch_c2b1 (all_cons (co_203) all_nil) (aw0 := aw) (aw := aw') (fun g => by cases g) rfl (τ0 := [0, 1, (n : Int), (k : Int), z, t]) (σ := [0, 1, (n : Int), (k : Int), z, t]) rfl rfl (Nat.le_trans (by decide) hd) ⟨Nat.zero_le _, Nat.zero_le _⟩ (xt_refl _) ⟨eOK2_L ⟨⟨by decide, by decide⟩, ⟨by decide, by decide⟩, ⟨by dsimp only; omega, by dsimp only; omega⟩, ⟨by dsimp only; omega, by dsimp only; omega⟩, ⟨by have := c10.1; dsimp only; omega, by have := c10.2; dsimp only; omega⟩, ⟨t5, t6⟩, trivial⟩ rfl all_nil, hOK_cR (C := [((211, 33), .inl (1, 0)), ((225, 1), .inl (4, 0))]) ⟨rfl, vI_re t1 rfl rfl, rfl, vI_re t4 rfl rfl, trivial⟩ a4, lvOK_cons ⟨_, w0, y0⟩ (lvOK_cons ⟨_, w1, vI (y := (n : Int)) rfl (Int.add_zero _).symm ⟨by omega, by omega⟩ en.symm⟩ (lvOK_cons ⟨_, w2, vI (y := (k : Int)) rfl (Int.add_zero _).symm ⟨by omega, by omega⟩ ek.symm⟩ lvOK_nil)), ⟨vI (y := z) rfl (Int.add_zero _).symm c10 rfl, trivial⟩, a1⟩ a2 all_nil ?_
            intro c2 hcc2 τ2 aw2 lw2 sw2 D2 x2 b1 b2 b3 b4 b5 b6
            have hcc2 := List.mem_singleton.mp hcc2
            subst hcc2
            match sw2, b6 with
            | [], _ =>
              obtain ⟨o0, r0, r1⟩ := b5 0 _ rfl
              obtain ⟨o1, r2, r3⟩ := b5 1 _ rfl
              obtain ⟨o2, r4, r5⟩ := b5 2 _ rfl
              have r0 : lget lw2 0 = some o0 := r0
              have r2 : lget lw2 1 = some o1 := r2
              have r4 : lget lw2 2 = some o2 := r4
              obtain ⟨j1, j2⟩ := vI_of (x2 2 (n : Int) rfl) r3
              obtain ⟨j3, j4⟩ := vI_of (x2 3 (k : Int) rfl) r5
              rw [j2] at r2
              rw [j4, show ((k : Int) + 1) = ((k + 1 : Nat) : Int) by omega, eI_nat (by omega)] at r4
              rw [show ((n : Int) + 1) = ((n + 1 : Nat) : Int) by omega, eI_nat (by omega)] at r2
              exact hgo (n + 1) lw2 D2 aw2 b2 (by omega) (by omega) hdr' b1 (hOK_cR (C := [((211, 33), .inl (1, 0))]) ⟨rfl, vI_re (x2 1 1 rfl) rfl rfl, trivial⟩ b4) ⟨_, r0, r1⟩ r2 r4
          · rw [if_neg h60] at hdr'
            cases hdr'
        · rw [if_neg hle] at hdr'
          by_cases h2n : 2 ≤ n
          · rw [if_pos h2n] at hdr'
            dsimp only at hdr'
            by_cases g96 : z ≤ 96
            · refine runH (P := P_c2d1) (Q := QB) qH_w hM ch_c2d1 all_nil (aw0 := aw) (aw := aw') (fun g => by cases g) rfl (τ0 := [0, 1, (n : Int), (k : Int), z, t]) (σ := [0, 1, (n : Int), (k : Int), z, t]) rfl rfl (Nat.le_trans (by decide) hd) ⟨Nat.zero_le _, Nat.zero_le _⟩ (xt_refl _) ⟨eOK2_L ⟨⟨by decide, by decide⟩, ⟨by decide, by decide⟩, ⟨by dsimp only; omega, by dsimp only; omega⟩, ⟨by dsimp only; omega, by dsimp only; omega⟩, ⟨by have := c10.1; dsimp only; omega, by have := c10.2; dsimp only; omega⟩, ⟨t5, t6⟩, trivial⟩ rfl all_nil, hOK_cR (C := [((211, 33), .inl (1, 0)), ((225, 1), .inl (4, 0))]) ⟨rfl, vI_re t1 rfl rfl, rfl, vI_re t4 rfl rfl, trivial⟩ a4, lvOK_cons ⟨_, w0, y0⟩ (lvOK_cons ⟨_, w1, vI (y := (n : Int)) rfl (Int.add_zero _).symm ⟨by omega, by omega⟩ en.symm⟩ (lvOK_cons ⟨_, w2, vI (y := (k : Int)) rfl (Int.add_zero _).symm ⟨by omega, by omega⟩ ek.symm⟩ lvOK_nil)), ⟨vI (y := z) rfl (Int.add_zero _).symm c10 rfl, trivial⟩, a1⟩ a2 all_nil ?_
              intro c2 hcc2 τ2 aw2 lw2 sw2 D2 x2 b1 b2 b3 b4 b5 b6
              have hcc2 := List.mem_singleton.mp hcc2
              subst hcc2
              match sw2, b6 with
              | [], _ =>
                obtain ⟨o0, r0, r1⟩ := b5 0 _ rfl
                obtain ⟨o1, r2, r3⟩ := b5 1 _ rfl
                obtain ⟨o2, r4, r5⟩ := b5 2 _ rfl
                have r0 : lget lw2 0 = some o0 := r0
                have r2 : lget lw2 1 = some o1 := r2
                have r4 : lget lw2 2 = some o2 := r4
                obtain ⟨j1, j2⟩ := vI_of (x2 2 (n : Int) rfl) r3
                obtain ⟨j3, j4⟩ := vI_of (x2 3 (k : Int) rfl) r5
                rw [j2] at r2
                rw [j4, show ((k : Int) + 1) = ((k + 1 : Nat) : Int) by omega, eI_nat (by omega)] at r4
                rw [show ((n : Int) + -1) = ((n - 1 : Nat) : Int) by omega, eI_nat (by omega)] at r2
                exact hgo (n - 1) lw2 D2 aw2 b2 (by omega) (by omega) hdr' b1 (hOK_cR (C := [((211, 33), .inl (1, 0))]) ⟨rfl, vI_re (x2 1 1 rfl) rfl rfl, trivial⟩ b4) ⟨_, r0, r1⟩ r2 r4
            · by_cases g125 : z ≤ 125
              · refine runH (P := P_c2e1) (Q := QB) qH_w hM ch_c2e1 all_nil (aw0 := aw) (aw := aw') (fun g => by cases g) rfl (τ0 := [0, 1, (n : Int), (k : Int), z, t]) (σ := [0, 1, (n : Int), (k : Int), z, t]) rfl rfl (Nat.le_trans (by decide) hd) ⟨Nat.zero_le _, Nat.zero_le _⟩ (xt_refl _) ⟨eOK2_L ⟨⟨by decide, by decide⟩, ⟨by decide, by decide⟩, ⟨by dsimp only; omega, by dsimp only; omega⟩, ⟨by dsimp only; omega, by dsimp only; omega⟩, ⟨by have := c10.1; dsimp only; omega, by have := c10.2; dsimp only; omega⟩, ⟨t5, t6⟩, trivial⟩ rfl all_nil, hOK_cR (C := [((211, 33), .inl (1, 0)), ((225, 1), .inl (4, 0))]) ⟨rfl, vI_re t1 rfl rfl, rfl, vI_re t4 rfl rfl, trivial⟩ a4, lvOK_cons ⟨_, w0, y0⟩ (lvOK_cons ⟨_, w1, vI (y := (n : Int)) rfl (Int.add_zero _).symm ⟨by omega, by omega⟩ en.symm⟩ (lvOK_cons ⟨_, w2, vI (y := (k : Int)) rfl (Int.add_zero _).symm ⟨by omega, by omega⟩ ek.symm⟩ lvOK_nil)), ⟨vI (y := z) rfl (Int.add_zero _).symm c10 rfl, trivial⟩, a1⟩ a2 all_nil ?_
                intro c2 hcc2 τ2 aw2 lw2 sw2 D2 x2 b1 b2 b3 b4 b5 b6
                have hcc2 := List.mem_singleton.mp hcc2
                subst hcc2
                match sw2, b6 with
                | [], _ =>
                  obtain ⟨o0, r0, r1⟩ := b5 0 _ rfl
                  obtain ⟨o1, r2, r3⟩ := b5 1 _ rfl
                  obtain ⟨o2, r4, r5⟩ := b5 2 _ rfl
                  have r0 : lget lw2 0 = some o0 := r0
                  have r2 : lget lw2 1 = some o1 := r2
                  have r4 : lget lw2 2 = some o2 := r4
                  obtain ⟨j1, j2⟩ := vI_of (x2 2 (n : Int) rfl) r3
                  obtain ⟨j3, j4⟩ := vI_of (x2 3 (k : Int) rfl) r5
                  rw [j2] at r2
                  rw [j4, show ((k : Int) + 1) = ((k + 1 : Nat) : Int) by omega, eI_nat (by omega)] at r4
                  rw [show ((n : Int) + -1) = ((n - 1 : Nat) : Int) by omega, eI_nat (by omega)] at r2
                  exact hgo (n - 1) lw2 D2 aw2 b2 (by omega) (by omega) hdr' b1 (hOK_cR (C := [((211, 33), .inl (1, 0))]) ⟨rfl, vI_re (x2 1 1 rfl) rfl rfl, trivial⟩ b4) ⟨_, r0, r1⟩ r2 r4
              · refine runH (P := P_c2f1) (Q := QB) qH_w hM ch_c2f1 all_nil (aw0 := aw) (aw := aw') (fun g => by cases g) rfl (τ0 := [0, 1, (n : Int), (k : Int), z, t]) (σ := [0, 1, (n : Int), (k : Int), z, t]) rfl rfl (Nat.le_trans (by decide) hd) ⟨Nat.zero_le _, Nat.zero_le _⟩ (xt_refl _) ⟨eOK2_L ⟨⟨by decide, by decide⟩, ⟨by decide, by decide⟩, ⟨by dsimp only; omega, by dsimp only; omega⟩, ⟨by dsimp only; omega, by dsimp only; omega⟩, ⟨by have := c10.1; dsimp only; omega, by have := c10.2; dsimp only; omega⟩, ⟨t5, t6⟩, trivial⟩ rfl all_nil, hOK_cR (C := [((211, 33), .inl (1, 0)), ((225, 1), .inl (4, 0))]) ⟨rfl, vI_re t1 rfl rfl, rfl, vI_re t4 rfl rfl, trivial⟩ a4, lvOK_cons ⟨_, w0, y0⟩ (lvOK_cons ⟨_, w1, vI (y := (n : Int)) rfl (Int.add_zero _).symm ⟨by omega, by omega⟩ en.symm⟩ (lvOK_cons ⟨_, w2, vI (y := (k : Int)) rfl (Int.add_zero _).symm ⟨by omega, by omega⟩ ek.symm⟩ lvOK_nil)), ⟨vI (y := z) rfl (Int.add_zero _).symm c10 rfl, trivial⟩, a1⟩ a2 all_nil ?_
                intro c2 hcc2 τ2 aw2 lw2 sw2 D2 x2 b1 b2 b3 b4 b5 b6
                have hcc2 := List.mem_singleton.mp hcc2
                subst hcc2
                match sw2, b6 with
                | [], _ =>
                  obtain ⟨o0, r0, r1⟩ := b5 0 _ rfl
                  obtain ⟨o1, r2, r3⟩ := b5 1 _ rfl
                  obtain ⟨o2, r4, r5⟩ := b5 2 _ rfl
                  have r0 : lget lw2 0 = some o0 := r0
                  have r2 : lget lw2 1 = some o1 := r2
                  have r4 : lget lw2 2 = some o2 := r4
                  obtain ⟨j1, j2⟩ := vI_of (x2 2 (n : Int) rfl) r3
                  obtain ⟨j3, j4⟩ := vI_of (x2 3 (k : Int) rfl) r5
                  rw [j2] at r2
                  rw [j4, show ((k : Int) + 1) = ((k + 1 : Nat) : Int) by omega, eI_nat (by omega)] at r4
                  rw [show ((n : Int) + -1) = ((n - 1 : Nat) : Int) by omega, eI_nat (by omega)] at r2
                  exact hgo (n - 1) lw2 D2 aw2 b2 (by omega) (by omega) hdr' b1 (hOK_cR (C := [((211, 33), .inl (1, 0))]) ⟨rfl, vI_re (x2 1 1 rfl) rfl rfl, trivial⟩ b4) ⟨_, r0, r1⟩ r2 r4
          · rw [if_neg h2n] at hdr'
            cases hdr'
theorem comes_loop1 {L : List Nat} {M : rM} (hM : mT 28 = some M) {d : Nat} (hd : 4 ≤ d) : ∀ (m k n b : Nat) (lw : rK) (D : rD) (aw : List rC), k + m = b → b ≤ 1120 → n ≤ 60 → sl aw pTo 1 = some (.inl b) → (drun (cd aw) k m n).isSome = true → rep D aw → hOK qH [0, 1] [((211, 33), .inl (1, 0))] aw → (∃ v, lget lw 0 = some v ∧ vOK qH [] (.inr (.inr (some 53))) v) → lget lw 1 = some (.inl n) → lget lw 2 = some (.inl k) → Ev L d M (12, lw, [], D, 0, 0) (PostC aw) := by
  intro m
  induction m with
  | zero =>
    intro k n b lw D aw hkm hb hn hto hdr hr hh h0 h1 h2
    exact comes_step1 hM hd k n b 0 lw D aw hkm hb hn hto hdr hr hh h0 h1 h2 (fun _ _ _ _ _ _ h => absurd h (by decide))
  | succ m ih =>
    intro k n b lw D aw hkm hb hn hto hdr hr hh h0 h1 h2
    refine comes_step1 hM hd k n b (m + 1) lw D aw hkm hb hn hto hdr hr hh h0 h1 h2 (fun n' lw' D' aw' hag hn' _ g1 g2 g3 g4 g5 g6 => ?_)
    have ec := cd_ag hag (Or.inr trivial) (by decide)
    refine Ev_mono (ih (k + 1) n' b lw' D' aw' (by omega) hb hn' (by rw [hag.2 pTo 67 1 (by decide +kernel) (by decide)]; exact hto) (by rw [ec]; exact g1) g2 g3 g4 g5 g6) ?_
    rintro v D2 ⟨aw2, b1, b2, b3⟩
    exact ⟨aw2, b1, ag_trans hag b2, b3⟩
theorem co_0 {L : List Nat} : CtOK qH QB L ct_0 := by
  intro M d τ Aw D aw hM hd hr he hh hlv hq
  have hM : mT 28 = some M := hM
  have hd : 4 ≤ d := hd
  have hq := hq rfl
  have h0 := he.2.1
  refine runH (P := P_c0) (Q := QB) qH_w hM ch_c0 all_nil (aw0 := aw) (aw := aw) (fun g => by cases g) rfl (τ0 := τ) (σ := τ) he.1.symm h0 (Nat.zero_le _) ⟨Nat.zero_le _, Nat.zero_le _⟩ (xt_refl _) ⟨he, hh, hlv, trivial, hr⟩ (ag_refl _ _ _) all_nil ?_
  · intro c hcc τ1 aw' lw' sw' D' x1 a1 a2 a3 a4 a5 a6
    rcases List.mem_cons.mp hcc with hcc | hcc
    · subst hcc
      match sw', a6 with
      | [], _ =>
        obtain ⟨v0, w0, y0⟩ := a5 0 _ rfl
        obtain ⟨v1, w1, y1⟩ := a5 1 _ rfl
        obtain ⟨v2, w2, y2⟩ := a5 2 _ rfl
        have w0 : lget lw' 0 = some v0 := w0
        have w1 : lget lw' 1 = some v1 := w1
        have w2 : lget lw' 2 = some v2 := w2
        obtain ⟨bz, t1, t2, t3⟩ := a3.2.2.1 1 _ rfl
        have hbz : bz = 0 := Int.le_antisymm t3 t2
        subst hbz
        obtain ⟨f, t4, t5, t6⟩ := a3.2.2.1 2 _ rfl
        obtain ⟨i1, i2⟩ := vI_of a3.2.1 y1
        obtain ⟨i3, i4⟩ := vI_of t4 y2
        rw [Int.add_zero] at i2 i4
        have i2 : v1 = .inl 0 := i2
        rw [i2] at w1
        obtain ⟨qt, vt, z1, z2, z3, z4, z5, z6⟩ := hOK_get a4 (by decide +kernel : qH.2[pFrom]? = some 66) (rfl : qH.1[66]? = some (14, 2, some pFrom, [.inl (0, 1120)])) (show 0 < 2 by decide)
        have z6 : vOK qH τ1 (.inl (2, 0)) vt := z6
        obtain ⟨z7, z8⟩ := vI_of t4 z6
        rw [Int.add_zero] at z8
        obtain ⟨a, b, q1, q2, q3, q4, q5, q6⟩ := hq 0 (by decide)
        rw [a2.2 pFrom 66 0 (by decide +kernel) (by decide), q1, z8] at z5
        have haf : a = eI f := by injection z5 with e; injection e
        rw [i4, ← haf] at w2
        have ec := cd_ag a2 (Or.inr trivial) (by decide)
        have hhc : hOK qH [0, 0] [((211, 33), .inl (1, 0))] aw' := by
          obtain ⟨l1, l2⟩ := cdrop_ok (H := qH) (f := fun p j => Nat.beq p 211) a3 a4 (C' := [((211, 33), .inl (1, 0))]) (by rfl)
          exact hOK_cR (C := [((211, 33), .inl (1, 0))]) ⟨rfl, vI_re t1 rfl rfl, trivial⟩ l1
        refine Ev_mono (comes_loop0 hM hd (b - a) a 0 b lw' D' aw' (by omega) (by omega) (by decide) (by rw [a2.2 pTo 67 0 (by decide +kernel) (by decide)]; exact q2) (by rw [ec]; exact q6) a1 hhc ⟨_, w0, y0⟩ w1 w2) ?_
        rintro v D2 ⟨aw2, b1, b2, o, b3, τ2, b4, b5, b6, b7⟩
        refine ⟨aw2, b1, ag_trans a2 b2, o, b3, τ2, ?_, b5, b6, b7⟩
        intro j y hj
        have hlt := (List.getElem?_eq_some_iff.mp hj).1
        have hl2 : τ.length = 1 := he.1.symm
        have e : j = 0 := by omega
        subst e
        rw [h0] at hj
        cases hj
        exact b4 0 0 rfl
    · have hcc := List.mem_singleton.mp hcc
      subst hcc
      match sw', a6 with
      | [], _ =>
        obtain ⟨v0, w0, y0⟩ := a5 0 _ rfl
        obtain ⟨v1, w1, y1⟩ := a5 1 _ rfl
        obtain ⟨v2, w2, y2⟩ := a5 2 _ rfl
        have w0 : lget lw' 0 = some v0 := w0
        have w1 : lget lw' 1 = some v1 := w1
        have w2 : lget lw' 2 = some v2 := w2
        obtain ⟨bz, t1, t2, t3⟩ := a3.2.2.1 1 _ rfl
        have hbz : bz = 1 := Int.le_antisymm t3 t2
        subst hbz
        obtain ⟨f, t4, t5, t6⟩ := a3.2.2.1 2 _ rfl
        obtain ⟨i1, i2⟩ := vI_of a3.2.1 y1
        obtain ⟨i3, i4⟩ := vI_of t4 y2
        rw [Int.add_zero] at i2 i4
        have i2 : v1 = .inl 0 := i2
        rw [i2] at w1
        obtain ⟨qt, vt, z1, z2, z3, z4, z5, z6⟩ := hOK_get a4 (by decide +kernel : qH.2[pFrom]? = some 66) (rfl : qH.1[66]? = some (14, 2, some pFrom, [.inl (0, 1120)])) (show 1 < 2 by decide)
        have z6 : vOK qH τ1 (.inl (2, 0)) vt := z6
        obtain ⟨z7, z8⟩ := vI_of t4 z6
        rw [Int.add_zero] at z8
        obtain ⟨a, b, q1, q2, q3, q4, q5, q6⟩ := hq 1 (by decide)
        rw [a2.2 pFrom 66 1 (by decide +kernel) (by decide), q1, z8] at z5
        have haf : a = eI f := by injection z5 with e; injection e
        rw [i4, ← haf] at w2
        have ec := cd_ag a2 (Or.inr trivial) (by decide)
        have hhc : hOK qH [0, 1] [((211, 33), .inl (1, 0))] aw' := by
          obtain ⟨l1, l2⟩ := cdrop_ok (H := qH) (f := fun p j => Nat.beq p 211) a3 a4 (C' := [((211, 33), .inl (1, 0))]) (by rfl)
          exact hOK_cR (C := [((211, 33), .inl (1, 0))]) ⟨rfl, vI_re t1 rfl rfl, trivial⟩ l1
        refine Ev_mono (comes_loop1 hM hd (b - a) a 0 b lw' D' aw' (by omega) (by omega) (by decide) (by rw [a2.2 pTo 67 1 (by decide +kernel) (by decide)]; exact q2) (by rw [ec]; exact q6) a1 hhc ⟨_, w0, y0⟩ w1 w2) ?_
        rintro v D2 ⟨aw2, b1, b2, o, b3, τ2, b4, b5, b6, b7⟩
        refine ⟨aw2, b1, ag_trans a2 b2, o, b3, τ2, ?_, b5, b6, b7⟩
        intro j y hj
        have hlt := (List.getElem?_eq_some_iff.mp hj).1
        have hl2 : τ.length = 1 := he.1.symm
        have e : j = 0 := by omega
        subst e
        rw [h0] at hj
        cases hj
        exact b4 0 0 rfl
