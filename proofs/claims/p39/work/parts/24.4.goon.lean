def P_s0 : qP := (qH, false, [], false, [], [], [13])
def po_s0 : List qPo := [([.inr (211, 3)], some (.inl (0, 0)), ([(0, 0), (0, 1601), (0, 1600)], [(2, 1, 0)], []), [((211, 3), .inl (2, 0))])]
def cu_s0 : List qCu := []
def hc_s0 : List hCu := [(13, 2, ([.inr (211, 3)], [(200, .inl (1, 0)), (201, .inr (.inr (some 55)))], ([(0, 0), (0, 1601), (0, 1600)], [(1, 2, 1)], []), [((211, 3), .inl (2, 0))]))]
def E_s0 : qE := ([(0, 0), (0, 1601)], [], [])
def C_s0 : qC := []
def lv_s0 : qK := [(0, .inr (.inr (some 53))), (1, .inl (1, 0))]
def st_s0 : List qV := []
set_option maxRecDepth 1000000 in
theorem ch_s0 : chkHm P_s0 2 0 1000000 0 247 E_s0 C_s0 0 lv_s0 st_s0 po_s0 cu_s0 hc_s0 = true := by decide +kernel
def P_s1 : qP := (qH, false, [], false, [], [], [17])
def po_s1 : List qPo := []
def cu_s1 : List qCu := []
def hc_s1 : List hCu := [(17, 2, ([], [(200, .inl (0, 255)), (201, .inl (1, 0))], ([(0, 0), ((-128), 127)], [], []), []))]
def E_s1 : qE := ([(0, 0), ((-128), 127)], [], [])
def C_s1 : qC := []
def lv_s1 : qK := []
def st_s1 : List qV := [.inl (1, 0)]
set_option maxRecDepth 1000000 in
theorem ch_s1 : chkHm P_s1 2 0 1000000 0 247 E_s1 C_s1 14 lv_s1 st_s1 po_s1 cu_s1 hc_s1 = true := by decide +kernel
def P_s2 : qP := (qH, false, [], false, [], [], [])
def po_s2 : List qPo := [([], some (.inl (1, 0)), ([(0, 0), (0, 255)], [], []), [])]
def cu_s2 : List qCu := []
def hc_s2 : List hCu := []
def E_s2 : qE := ([(0, 0), (0, 255)], [], [])
def C_s2 : qC := []
def lv_s2 : qK := []
def st_s2 : List qV := [.inl (1, 0)]
set_option maxRecDepth 1000000 in
theorem ch_s2 : chkHm P_s2 2 0 1000000 0 247 E_s2 C_s2 18 lv_s2 st_s2 po_s2 cu_s2 hc_s2 = true := by decide +kernel
theorem mt_X12_sign_13 {M : rM} (h : mT 247 = some M) : mTab M 13 = some (.baload, 1) := by
  have e : (mT 247).bind (fun M => mTab M 13) = some (.baload, 1) := by rfl
  rw [h] at e
  exact e
theorem mt_X12_sign_17 {M : rM} (h : mT 247 = some M) : mTab M 17 = some (.iand, 1) := by
  have e : (mT 247).bind (fun M => mTab M 17) = some (.iand, 1) := by rfl
  rw [h] at e
  exact e
def P_g0 : qP := (qH, false, [(53, 6), (53, 7), (53, 8), (53, 9), (53, 10)], false, [], [], [8, 63])
def po_g0 : List qPo := []
def cu_g0 : List qCu := [(8, ([.inr (211, 6)], [(0, .inr (.inr (some 53)))], ([(0, 0), (0, 1600), (0, 1600), (0, 1600)], [(1, 2, 0), (1, 3, 0), (1, 2, 0), (3, 2, 0)], []), [((211, 3), .inl (2, 0)), ((211, 6), .inl (3, 0)), ((211, 7), .inl (1, 0))]), [(false, (0, 90)), (true, (3, 1600))])]
def hc_g0 : List hCu := [(63, 2, ([.inr (211, 6)], [(0, .inr (.inr (some 53))), (200, .inl (3, 0)), (201, .inr (.inr (some 53)))], ([(0, 0), (0, 1600), (0, 1600), (0, 1600)], [(1, 2, 0), (1, 3, 0), (3, 2, 0)], []), [((211, 3), .inl (2, 0)), ((211, 6), .inl (3, 0)), ((211, 7), .inl (1, 0))]))]
def E_g0 : qE := ([(0, 0), (0, 1600), (0, 1600)], [(1, 2, 0)], [])
def C_g0 : qC := [((211, 3), .inl (2, 0)), ((211, 7), .inl (1, 0))]
def lv_g0 : qK := [(0, .inr (.inr (some 53)))]
def st_g0 : List qV := []
set_option maxRecDepth 1000000 in
theorem ch_g0 : chkHm P_g0 3 2 1000000 1 245 E_g0 C_g0 0 lv_g0 st_g0 po_g0 cu_g0 hc_g0 = true := by decide +kernel
def P_g1l : qP := (qH, false, [(53, 6), (53, 7), (53, 8), (53, 9), (53, 10)], false, [], [], [119, 156])
def po_g1l : List qPo := [([], none, ([(0, 0), (0, 1600), (0, 1600)], [(1, 2, 0)], []), [((211, 6), .inl (2, 0)), ((211, 7), .inl (2, 0)), ((211, 8), .inl (0, 0))]), ([.inr (211, 8), .inr (211, 6), .inr (211, 7)], none, ([(0, 0), (0, 1600), (0, 1600), (1, 5), (0, 1599), (1, 1600)], [(1, 2, 0), (1, 4, 0), (4, 5, 1), (5, 2, 0)], []), [((211, 6), .inl (4, 0)), ((211, 7), .inl (5, 0)), ((211, 8), .inl (3, 0))])]
def cu_g1l : List qCu := []
def hc_g1l : List hCu := []
def E_g1l : qE := ([(0, 0), (0, 1600), (0, 1600), (0, 1600), (0, 47)], [(1, 2, 0), (1, 3, 0), (3, 2, 0)], [])
def C_g1l : qC := [((211, 3), .inl (2, 0)), ((211, 6), .inl (3, 0)), ((211, 7), .inl (1, 0))]
def lv_g1l : qK := [(0, .inr (.inr (some 53)))]
def st_g1l : List qV := [.inl (4, 0)]
set_option maxRecDepth 1000000 in
theorem ch_g1l : chkHm P_g1l 3 2 1000000 1 245 E_g1l C_g1l 66 lv_g1l st_g1l po_g1l cu_g1l hc_g1l = true := by decide +kernel
def P_g1h : qP := (qH, false, [(53, 6), (53, 7), (53, 8), (53, 9), (53, 10)], false, [], [], [119, 156])
def po_g1h : List qPo := [([], none, ([(0, 0), (0, 1600), (0, 1600)], [(1, 2, 0)], []), [((211, 6), .inl (2, 0)), ((211, 7), .inl (2, 0)), ((211, 8), .inl (0, 0))]), ([.inr (211, 8), .inr (211, 6), .inr (211, 7)], none, ([(0, 0), (0, 1600), (0, 1600), (1, 5), (0, 1599), (1, 1600)], [(1, 2, 0), (1, 4, 0), (4, 5, 1), (5, 2, 0)], []), [((211, 6), .inl (4, 0)), ((211, 7), .inl (5, 0)), ((211, 8), .inl (3, 0))])]
def cu_g1h : List qCu := [(119, ([.inl 1, .inr (211, 6), .inr (211, 7)], [(0, .inr (.inr (some 53))), (1, .inl (3, 0))], ([(0, 0), (0, 1600), (1, 1600), (97, 122), (0, 1599), (1, 1600)], [(1, 2, 0), (1, 4, 0), (4, 5, 1), (5, 2, 0), (4, 2, 1)], []), [((211, 3), .inl (2, 0)), ((211, 6), .inl (4, 0)), ((211, 7), .inl (5, 0))]), [(false, (0, 89)), (true, (5, 1600))]), (156, ([.inl 1, .inl 2, .inr (211, 6), .inr (211, 7)], [(0, .inr (.inr (some 53))), (1, .inl (3, 0)), (2, .inl (4, 0))], ([(0, 0), (0, 1600), (1, 1600), (97, 122), (0, 1600), (0, 1599), (1, 1600)], [(1, 2, 0), (1, 5, 0), (5, 6, 1), (6, 2, 0), (5, 2, 1)], []), [((211, 3), .inl (2, 0)), ((211, 6), .inl (5, 0)), ((211, 7), .inl (6, 0))]), [(false, (0, 88)), (true, (4, 1600))])]
def hc_g1h : List hCu := []
def E_g1h : qE := ([(0, 0), (0, 1600), (0, 1600), (0, 1600), (58, 255)], [(1, 2, 0), (1, 3, 0), (3, 2, 0)], [])
def C_g1h : qC := [((211, 3), .inl (2, 0)), ((211, 6), .inl (3, 0)), ((211, 7), .inl (1, 0))]
def lv_g1h : qK := [(0, .inr (.inr (some 53)))]
def st_g1h : List qV := [.inl (4, 0)]
set_option maxRecDepth 1000000 in
theorem ch_g1h : chkHm P_g1h 3 2 1000000 1 245 E_g1h C_g1h 66 lv_g1h st_g1h po_g1h cu_g1h hc_g1h = true := by decide +kernel
def P_g2 : qP := (qH, false, [(53, 6), (53, 7), (53, 8), (53, 9), (53, 10)], false, [], [], [264])
def po_g2 : List qPo := [([], none, ([(0, 0), (0, 1600), (0, 1600), (0, 1600), (48, 57)], [(1, 2, 0), (1, 3, 0), (3, 2, 0)], []), [((211, 6), .inl (2, 0)), ((211, 7), .inl (2, 0)), ((211, 8), .inl (0, 0))])]
def cu_g2 : List qCu := []
def hc_g2 : List hCu := [(264, 2, ([], [(0, .inr (.inr (some 53))), (200, .inl (3, 0)), (201, .inr (.inr (some 53)))], ([(0, 0), (0, 1600), (0, 1600), (0, 1600), (48, 57)], [(1, 2, 0), (1, 3, 0), (3, 2, 0), (3, 2, 1)], []), [((211, 3), .inl (2, 0)), ((211, 6), .inl (3, 0)), ((211, 7), .inl (3, 0)), ((211, 9), .inl (0, 0))]))]
def E_g2 : qE := ([(0, 0), (0, 1600), (0, 1600), (0, 1600), (48, 57)], [(1, 2, 0), (1, 3, 0), (3, 2, 0)], [])
def C_g2 : qC := [((211, 3), .inl (2, 0)), ((211, 6), .inl (3, 0)), ((211, 7), .inl (1, 0))]
def lv_g2 : qK := [(0, .inr (.inr (some 53)))]
def st_g2 : List qV := [.inl (4, 0)]
set_option maxRecDepth 1000000 in
theorem ch_g2 : chkHm P_g2 5 2 1000000 1 245 E_g2 C_g2 66 lv_g2 st_g2 po_g2 cu_g2 hc_g2 = true := by decide +kernel
def P_g3 : qP := (qH, false, [(53, 6), (53, 7), (53, 8), (53, 9), (53, 10)], false, [], [], [259])
def po_g3 : List qPo := [([], none, ([(0, 0), (0, 1600), (0, 1600)], [(1, 2, 0)], []), [((211, 6), .inl (2, 0)), ((211, 7), .inl (2, 0)), ((211, 8), .inl (0, 0))]), ([.inr (211, 8), .inr (211, 6), .inr (211, 7)], none, ([(0, 0), (0, 1600), (0, 1600), (1, 5), (0, 1599), (1, 1600)], [(1, 2, 0), (1, 4, 0), (4, 5, 1), (5, 2, 0)], []), [((211, 6), .inl (4, 0)), ((211, 7), .inl (5, 0)), ((211, 8), .inl (3, 0))])]
def cu_g3 : List qCu := [(259, ([.inr (211, 6), .inr (211, 7)], [(0, .inr (.inr (some 53)))], ([(0, 0), (0, 1600), (0, 1600), (0, 1599), (1, 1600)], [(1, 2, 0), (1, 3, 0), (3, 4, 1), (4, 2, 0), (3, 2, 1)], []), [((211, 3), .inl (2, 0)), ((211, 6), .inl (3, 0)), ((211, 7), .inl (4, 0))]), [(false, (0, 87)), (true, (4, 1600))])]
def hc_g3 : List hCu := []
def E_g3 : qE := ([(0, 0), (0, 1600), (0, 1600), (0, 1599), (48, 57)], [(1, 2, 0), (1, 3, 0), (3, 2, 0), (3, 2, 1)], [])
def C_g3 : qC := [((211, 3), .inl (2, 0)), ((211, 6), .inl (3, 0)), ((211, 7), .inl (3, 0)), ((211, 9), .inl (0, 0))]
def lv_g3 : qK := [(0, .inr (.inr (some 53)))]
def st_g3 : List qV := [.inl (4, 0)]
set_option maxRecDepth 1000000 in
theorem ch_g3 : chkHm P_g3 3 2 1000000 1 245 E_g3 C_g3 267 lv_g3 st_g3 po_g3 cu_g3 hc_g3 = true := by decide +kernel
theorem mk_X12_goOn_63 {M : rM} (h : mT 245 = some M) : mTab M 63 = some (.invokevirtual 185, 3) ∧ kf tA (mOwn M) 185 = some (0, 247, 1, 12) := by
  have e : (mT 245).bind (fun M => mTab M 63) = some (.invokevirtual 185, 3) := by rfl
  have e2 : (mT 245).bind (fun M => kf tA (mOwn M) 185) = some (0, 247, 1, 12) := by decide +kernel
  rw [h] at e e2
  exact ⟨e, e2⟩
theorem mk_X12_goOn_264 {M : rM} (h : mT 245 = some M) : mTab M 264 = some (.invokevirtual 185, 3) ∧ kf tA (mOwn M) 185 = some (0, 247, 1, 12) := by
  have e : (mT 245).bind (fun M => mTab M 264) = some (.invokevirtual 185, 3) := by rfl
  have e2 : (mT 245).bind (fun M => kf tA (mOwn M) 185) = some (0, 247, 1, 12) := by decide +kernel
  rw [h] at e e2
  exact ⟨e, e2⟩
/-! by hand: a sign of the text, exactly; the next token -/
def SGN (aw : List rC) (k : Nat) : Nat := match sl aw 211 3 with
  | some (.inl s) => if k < s then (match sl aw 213 k with
    | some (.inl t) => t &&& 255
    | _ => 0) else 0
  | _ => 0
theorem SGN_le (aw : List rC) (k : Nat) : SGN aw k ≤ 255 := by
  unfold SGN
  split
  · split
    · split
      · exact Nat.and_le_right
      · exact Nat.zero_le _
    · exact Nat.zero_le _
  · exact Nat.zero_le _
theorem SGN_ag {md : List (Nat × Nat)} {aw aw' : List rC} (h : ag qH md aw aw') (h1 : mdin md 53 3 = false) (h2 : mdfree md [55] = true) (k : Nat) : SGN aw' k = SGN aw k := by
  unfold SGN
  rw [h.2 211 53 3 (by decide +kernel) h1, h.2 213 55 k (by decide +kernel) (mdfree_ok h2 (by decide))]
theorem hOK_agn {H : qT} {τ τ' : List Int} {C : qC} {aw aw2 : List rC} (h : hOK H τ C aw) (h2 : hOK H τ' [] aw2) (ha : ag H [] aw aw2) : hOK H τ C aw2 := by
  refine ⟨h2.1, fun p q hq => ?_⟩
  obtain ⟨κ, K, h1, h3, h4, h5, -⟩ := h2.2 p q hq
  refine ⟨κ, K, h1, h3, h4, h5, fun j v hv => ?_⟩
  have e := ha.2 p κ j h1 rfl
  unfold sl at e
  rw [hq] at e
  dsimp only at e
  rw [hv] at e
  cases hqa : aw[p]? with
  | none => rw [hqa] at e; cases e
  | some q' =>
    rw [hqa] at e
    obtain ⟨κ', K', g1, g2, g3, g4, g5⟩ := h.2 p q' hqa
    rw [h1] at g1
    cases g1
    rw [h3] at g2
    cases g2
    exact g5 j v e.symm
theorem st_callv {L : List Nat} {M : rM} {pc i mi np rc j : Nat} {lw : rK} {st As r : List rV} {D : rD} {aw : List rC} {c z : Nat} {q : rC} (hm : mTab M pc = some (.invokevirtual i, 3) ∧ kf tA (mOwn M) i = some (0, mi, np, rc)) (hcut : cut np st [] = some (As, .inr (.inr (some (j + 1))) :: r)) (hrep : rep D aw) (hq : aw[j]? = some q) (hrc : q.1 = rc) (h8 : csum r ≤ 8) : step tT L M [] pc lw st D c z = some (.inr (.inr (.inr (.inr (mi, .inr (.inr (some (j + 1))) :: As, r))))) := by
  unfold step
  rw [hm.1]
  show acall tT (mOwn M) i 0 [] pc lw st D c z = _
  unfold acall
  rw [show kf tT.2.2.2 (mOwn M) i = some (0, mi, np, rc) from hm.2]
  dsimp only
  rw [show Nat.beq 0 0 = true from rfl, cond_true, hcut]
  dsimp only
  rw [hrep.2 j, hq]
  dsimp only
  rw [hrc, Nat.beq_refl, cond_true, Nat.ble_eq_true_of_le h8, cond_true]
  rfl
theorem atM {τ : List Int} {C : qC} {aw : List rC} (h : hOK qH τ C aw) : ∃ q, aw[211]? = some q ∧ q.1 = 12 := by
  obtain ⟨q, q1, q2, -⟩ := hOK_at h (p := 211) (κ := 53) (by decide +kernel) rfl
  exact ⟨q, q1, q2⟩
theorem refM {v : rV} (h : vOK qH [] (.inr (.inr (some 53))) v) : v = .inr (.inr (some (211 + 1))) := by
  obtain ⟨p, h1, h2⟩ := h
  have hp : p = 211 := qH_w 53 _ 211 (rfl : qH.1[53]? = some _) rfl p h2
  rw [h1, hp]
theorem vM {σ : List Int} : vOK qH σ (.inr (.inr (some 53))) (.inr (.inr (some (211 + 1)))) := ⟨211, rfl, by decide +kernel⟩
theorem hOK_0 {σ : List Int} {E : qE} {C : qC} {aw : List rC} (h : eOK2 σ E) (g : hOK qH σ C aw) (hc : isS (cdrop qH E (fun _ _ => false) C) = true) : hOK qH [0] [] aw := by
  cases hd : cdrop qH E (fun _ _ => false) C with
  | none => rw [hd] at hc; cases hc
  | some C' =>
    obtain ⟨l1, l2⟩ := cdrop_ok h g hd
    refine ⟨l1.1, fun p q hq => ?_⟩
    obtain ⟨κ, K, h1, h2, h3, h4, h5⟩ := l1.2 p q hq
    refine ⟨κ, K, h1, h2, h3, h4, fun j v hv => ?_⟩
    have h6 := h5 j v hv
    unfold slOK at *
    rw [l2 p j] at h6
    exact h6
theorem sign_ok {L : List Nat} {M : rM} (hM : mT 247 = some M) {d : Nat} (k : Nat) (hk : k ≤ 1601) {D : rD} {aw : List rC} {lw : rK} (hr : rep D aw) (hh : hOK qH [0] [] aw) (h0 : ∃ v, lget lw 0 = some v ∧ vOK qH [] (.inr (.inr (some 53))) v) (h1 : lget lw 1 = some (.inl k)) : Ev L d M (0, lw, [], D, 0, 0) (fun v D' => ∃ aw', rep D' aw' ∧ ag qH [] aw aw' ∧ hOK qH [0] [] aw' ∧ v = some (.inl (SGN aw k))) := by
  have ek : eI (k : Int) = k := eI_nat (by omega)
  refine runH (P := P_s0) (Q := QB) qH_w hM ch_s0 all_nil (aw0 := aw) (aw := aw) (fun g => by cases g) rfl (τ0 := [0, (k : Int)]) (σ := [0, (k : Int)]) rfl rfl (Nat.zero_le _) ⟨Nat.zero_le _, Nat.zero_le _⟩ (xt_refl _) ⟨eOK2_L ⟨⟨by decide, by decide⟩, ⟨by dsimp only; omega, by dsimp only; omega⟩, trivial⟩ rfl all_nil, hOK_nil hh, lvOK_cons h0 (lvOK_cons ⟨_, h1, vI (y := (k : Int)) rfl (Int.add_zero _).symm ⟨by omega, by omega⟩ ek.symm⟩ lvOK_nil), trivial, hr⟩ (ag_refl _ _ _) ?_ ?_
  · intro o ho τ1 aw' w D' x1 a1 a2 a3 a4 a5
    have ho := List.mem_singleton.mp ho
    subst ho
    obtain ⟨s, s1, s2, s3⟩ := a3.2.2.1 2 _ rfl
    obtain ⟨v, v1, v2⟩ := a5
    obtain ⟨g1, g2⟩ := vI_of (x1 0 0 rfl) v2
    have g2 : v = .inl 0 := g2
    obtain ⟨qt, vt, z1, z2, z3, z4, z5, z6⟩ := hOK_get a4 (by decide +kernel : qH.2[211]? = some 53) (rfl : qH.1[53]? = some _) (show 3 < 66 by decide)
    have z6 : vOK qH τ1 (.inl (2, 0)) vt := z6
    obtain ⟨z7, z8⟩ := vI_of s1 z6
    rw [Int.add_zero] at z8
    obtain ⟨fx, fy, f1, f2, f3⟩ := a3.2.2.2.1 (2, 1, 0) List.mem_cons_self
    rw [s1] at f1
    cases f1
    rw [x1 1 (k : Int) rfl] at f2
    cases f2
    have f3 : s + 0 ≤ (k : Int) := f3
    have s2 : (0 : Int) ≤ s := s2
    have s3 : s ≤ 1600 := s3
    have es : (eI s : Int) = s := by have := eI_cast s; omega
    refine ⟨aw', a1, a2, hOK_0 a3 a4 rfl, ?_⟩
    rw [v1, g2]
    unfold SGN
    rw [← a2.2 211 53 3 (by decide +kernel) rfl, z5, z8]
    dsimp only
    rw [if_neg (by omega)]
  · intro c hcc τ aw' lw' sw' D' x1 a1 a2 a3 a4 a5 a6
    have hcc := List.mem_singleton.mp hcc
    subst hcc
    match sw', a6 with
    | [p0, p1], _ =>
      obtain ⟨v3, w3, y3⟩ := a5 200 _ rfl
      obtain ⟨v4, w4, y4⟩ := a5 201 _ rfl
      have w3 : some p0 = some v3 := w3
      have w4 : some p1 = some v4 := w4
      cases w3
      cases w4
      obtain ⟨s, s1, s2, s3⟩ := a3.2.2.1 2 _ rfl
      obtain ⟨i1, i2⟩ := vI_of (x1 1 (k : Int) rfl) y3
      rw [Int.add_zero, ek] at i2
      obtain ⟨p, q1, q2⟩ := y4
      have hp : p = 213 := qH_w 55 _ 213 (rfl : qH.1[55]? = some _) rfl p q2
      subst hp
      rw [q1, i2]
      obtain ⟨qt, vt, z1, z2, z3, z4, z5, z6⟩ := hOK_get a4 (by decide +kernel : qH.2[211]? = some 53) (rfl : qH.1[53]? = some _) (show 3 < 66 by decide)
      have z6 : vOK qH τ (.inl (2, 0)) vt := z6
      obtain ⟨z7, z8⟩ := vI_of s1 z6
      rw [Int.add_zero] at z8
      obtain ⟨fx, fy, f1, f2, f3⟩ := a3.2.2.2.1 (1, 2, 1) List.mem_cons_self
      rw [s1] at f2
      cases f2
      rw [x1 1 (k : Int) rfl] at f1
      cases f1
      have f3 : (k : Int) + 1 ≤ s := f3
      have s2 : (0 : Int) ≤ s := s2
      have s3 : s ≤ 1600 := s3
      have es : (eI s : Int) = s := by have := eI_cast s; omega
      obtain ⟨qc, vc, c1, c2, c3, c4, c5, c6⟩ := hOK_get (j := k) a4 (by decide +kernel : qH.2[213]? = some 55) (rfl : qH.1[55]? = some (13, 1600, some 213, [.inl (-128, 127)])) (show k < 1600 by omega)
      unfold slOK at c6
      have hkf' : kf [((211, 3), (.inl (2, 0) : qV))] 213 k = none := kf_np rfl
      rw [show kf _ 213 k = none from hkf'] at c6
      obtain ⟨sc, c7, c8⟩ := c6
      have hsd : ∀ o : Option Nat, sdAt (13, 1600, o, [.inl (-128, 127)]) k = some (.inl (-128, 127)) := by
        intro o
        unfold sdAt
        rw [show Nat.blt 13 13 = false from rfl, cond_false, blt_of (show k < 1600 by omega), cond_true]
        rfl
      rw [hsd] at c7
      cases c7
      obtain ⟨z, c9, c10, c11, c12⟩ := c8
      subst c9
      have hS : SGN aw k = eI z &&& 255 := by
        unfold SGN
        rw [← a2.2 211 53 3 (by decide +kernel) rfl, z5, z8]
        dsimp only
        rw [if_pos (by omega), ← a2.2 213 55 k (by decide +kernel) rfl, c5]
      have hle : eI z &&& 255 ≤ 255 := Nat.and_le_right
      refine Ev_step (st_bald (mt_X12_sign_13 hM) a1 (show aw'[213]? = some (13, qc.2) by rw [c1]; congr 1; exact Prod.ext c2 rfl) c4 (by omega)) ?_
      have hh' := hOK_0 a3 a4 rfl
      refine runH (P := P_s1) (Q := QB) qH_w hM ch_s1 all_nil (aw0 := aw) (aw := aw') (fun g => by cases g) rfl (τ0 := [0, z]) (σ := [0, z]) rfl rfl (Nat.zero_le _) ⟨Nat.zero_le _, Nat.zero_le _⟩ (xt_refl _) ⟨eOK2_L ⟨⟨by decide, by decide⟩, ⟨c11, c12⟩, trivial⟩ rfl all_nil, hOK_nil hh', lvOK_nil, ⟨vI (y := z) rfl (Int.add_zero _).symm c10 rfl, trivial⟩, a1⟩ a2 all_nil ?_
      intro c2 hcc2 τ2 aw2 lw2 sw2 D2 x2 b1 b2 b3 b4 b5 b6
      have hcc2 := List.mem_singleton.mp hcc2
      subst hcc2
      match sw2, b6 with
      | [p0, p1], _ =>
        obtain ⟨o3, r3, r4⟩ := b5 200 _ rfl
        obtain ⟨o4, r5, r6⟩ := b5 201 _ rfl
        have r3 : some p0 = some o3 := r3
        have r5 : some p1 = some o4 := r5
        cases r3
        cases r5
        obtain ⟨j1, j2⟩ := vI_of (x2 0 0 rfl) r4
        obtain ⟨j3, j4⟩ := vI_of (x2 1 z rfl) r6
        rw [Int.add_zero] at j4
        have j2 : p0 = .inl 255 := j2
        rw [j2, j4]
        refine Ev_step (st_iand (mt_X12_sign_17 hM) (by have := eI_lt z; omega) (by decide)) ?_
        rw [cN_and (eI_lt z) (by decide)]
        have eg : eI ((eI z &&& 255 : Nat) : Int) = eI z &&& 255 := eI_nat (by omega)
        refine runH (P := P_s2) (Q := QB) qH_w hM ch_s2 all_nil (aw0 := aw) (aw := aw2) (fun g => by cases g) rfl (τ0 := [0, ((eI z &&& 255 : Nat) : Int)]) (σ := [0, ((eI z &&& 255 : Nat) : Int)]) rfl rfl (Nat.zero_le _) ⟨Nat.zero_le _, Nat.zero_le _⟩ (xt_refl _) ⟨eOK2_L ⟨⟨by decide, by decide⟩, ⟨by dsimp only; omega, by dsimp only; omega⟩, trivial⟩ rfl all_nil, hOK_nil b4, lvOK_nil, ⟨vI (y := ((eI z &&& 255 : Nat) : Int)) rfl (Int.add_zero _).symm ⟨by omega, by omega⟩ eg.symm, trivial⟩, b1⟩ b2 ?_ all_nil
        intro o ho τ1 aw3 w D3 x3 d1 d2 d3 d4 d5
        have ho := List.mem_singleton.mp ho
        subst ho
        obtain ⟨v, v1, v2⟩ := d5
        obtain ⟨g1, g2⟩ := vI_of (x3 1 _ rfl) v2
        rw [Int.add_zero, eg] at g2
        exact ⟨aw3, d1, d2, hOK_nil d4, by rw [v1, g2, hS]⟩
theorem ev_sign {L : List Nat} {M : rM} {pc i : Nat} (hmk : mTab M pc = some (.invokevirtual i, 3) ∧ kf tA (mOwn M) i = some (0, 247, 1, 12)) {lw : rK} {r : List rV} {D : rD} {aw : List rC} {c z k d : Nat} (hcz : c ≤ mC M ∧ z ≤ mS M) (hr : rep D aw) (hh : hOK qH [0] [] aw) (hk : k ≤ 1601) (h8 : csum r ≤ 8) {v0 : rV} (hv0 : vOK qH [] (.inr (.inr (some 53))) v0) {Post : Option rV → rD → Prop} (kk : ∀ D' aw', rep D' aw' → ag qH [] aw aw' → hOK qH [0] [] aw' → Ev L (d + 1) M (Nat.add pc 3, lw, .inl (SGN aw k) :: r, D', c, z) Post) : Ev L (d + 1) M (pc, lw, .inl k :: v0 :: r, D, c, z) Post := by
  rw [refM hv0]
  obtain ⟨q, q1, q2⟩ := atM hh
  obtain ⟨M', m1, m2, m3, m4, m5⟩ : ∃ M', mT 247 = some M' ∧ mLoc M' ≤ 80 ∧ mC M' = 0 ∧ mS M' = 0 ∧ mLoc M' = 2 := ⟨_, rfl, by decide +kernel, rfl, rfl, rfl⟩
  refine Ev_call (st_callv hmk (As := [.inl k]) rfl hr q1 q2 h8) m1 (by rw [m5]; exact Nat.le_refl 2) m2 (by rw [m3]; exact hcz.1) (by rw [m4]; exact hcz.2) (sign_ok m1 (d := d) k hk hr hh ⟨_, rfl, vM⟩ rfl) ?_
  rintro v D' ⟨aw', a1, a2, a3, a4⟩
  subst a4
  rw [m3, m4]
  exact kk D' aw' a1 a2 a3
theorem list3 {τ : List Int} {a b c : Int} (hl : τ.length = 3) (h0 : τ[0]? = some a) (h1 : τ[1]? = some b) (h2 : τ[2]? = some c) : τ = [a, b, c] := by
  match τ, hl with
  | [x, y, z], _ =>
    simp at h0 h1 h2
    rw [h0, h1, h2]
set_option maxHeartbeats 4000000 in
theorem ho_2 {L : List Nat} : CtOK qH QB L ct_2 := by
  intro M d τ Aw D aw hM hd hr he hh hlv _
  have hM : mT 245 = some M := hM
  have hd : 3 ≤ d := hd
  obtain ⟨d', hd'⟩ : ∃ d', d = d' + 1 := ⟨d - 1, by omega⟩
  obtain ⟨e, e1, e2, e3⟩ := he.2.2.1 1 _ rfl
  obtain ⟨s, s1, s2, s3⟩ := he.2.2.1 2 _ rfl
  have hτ := list3 he.1.symm he.2.1 e1 s1
  subst hτ
  obtain ⟨fx, fy, f1, f2, f3⟩ := he.2.2.2.1 (1, 2, 0) List.mem_cons_self
  cases f1
  cases f2
  have f3 : e + 0 ≤ s := f3
  have e2 : (0 : Int) ≤ e := e2
  have e3 : e ≤ 1600 := e3
  have s2 : (0 : Int) ≤ s := s2
  have s3 : s ≤ 1600 := s3
  have hcz : (0 : Nat) ≤ mC M ∧ (0 : Nat) ≤ mS M := ⟨Nat.zero_le _, Nat.zero_le _⟩
  refine runH (P := P_g0) (Q := QB) qH_w hM ch_g0 all_nil (aw0 := aw) (aw := aw) (fun g => by cases g) rfl (τ0 := [0, e, s]) (σ := [0, e, s]) rfl rfl (by omega) hcz (xt_refl _) ⟨he, hh, hlv, trivial, hr⟩ (ag_refl _ _ _) all_nil ?_
  intro c hcc τ1 aw1 lw1 sw1 D1 x1 a1 a2 a3 a4 a5 a6
  have hcc := List.mem_singleton.mp hcc
  subst hcc
  match sw1, a6 with
  | [p0, p1], _ =>
    obtain ⟨v0, w0, y0⟩ := a5 0 _ rfl
    obtain ⟨v3, w3, y3⟩ := a5 200 _ rfl
    obtain ⟨v4, w4, y4⟩ := a5 201 _ rfl
    have w0 : lget lw1 0 = some v0 := w0
    have w3 : some p0 = some v3 := w3
    have w4 : some p1 = some v4 := w4
    cases w3
    cases w4
    obtain ⟨a, b1, b2, b3⟩ := a3.2.2.1 3 _ rfl
    have b2 : (0 : Int) ≤ a := b2
    have b3 : a ≤ 1600 := b3
    have te := x1 1 e rfl
    have ts := x1 2 s rfl
    obtain ⟨gx, gy, g1, g2, g3⟩ := a3.2.2.2.1 (1, 3, 0) (List.mem_cons_of_mem _ List.mem_cons_self)
    rw [te] at g1
    cases g1
    rw [b1] at g2
    cases g2
    have g3 : e + 0 ≤ a := g3
    obtain ⟨hx', hy', h1, h2, h3⟩ := a3.2.2.2.1 (3, 2, 0) (List.mem_cons_of_mem _ (List.mem_cons_of_mem _ List.mem_cons_self))
    rw [b1] at h1
    cases h1
    rw [ts] at h2
    cases h2
    have h3 : a + 0 ≤ s := h3
    obtain ⟨i1, i2⟩ := vI_of b1 y3
    rw [Int.add_zero] at i2
    have ea : (eI a : Int) = a := by have := eI_cast a; omega
    rw [i2, hd']
    have hF : ∀ g : Int, ∀ f ∈ [(1, 2, (0 : Int)), (1, 3, 0), (3, 2, 0)], ∃ x y, ([0, e, s, a, g] : List Int)[f.1]? = some x ∧ ([0, e, s, a, g] : List Int)[f.2.1]? = some y ∧ x + f.2.2 ≤ y := fun g => all_cons ⟨e, s, rfl, rfl, f3⟩ (all_cons ⟨e, a, rfl, rfl, g3⟩ (all_cons ⟨a, s, rfl, rfl, h3⟩ all_nil))
    refine ev_sign (mk_X12_goOn_63 hM) hcz a1 (hOK_0 a3 a4 rfl) (by omega) (Nat.zero_le _) y4 (fun D2 aw2 c1 c2 c3 => ?_)
    have hgle := SGN_le aw1 (eI a)
    generalize hg : SGN aw1 (eI a) = g at hgle ⊢
    have eg : eI (g : Int) = g := eI_nat (by omega)
    have hag : ag qH [(53, 6), (53, 7), (53, 8), (53, 9), (53, 10)] aw aw2 := ag_trans a2 (ag_sub (a := []) rfl c2)
    have hhc : hOK qH [0, e, s, a, (g : Int)] [((211, 3), .inl (2, 0)), ((211, 6), .inl (3, 0)), ((211, 7), .inl (1, 0))] aw2 := hOK_cR (C := [((211, 3), .inl (2, 0)), ((211, 6), .inl (3, 0)), ((211, 7), .inl (1, 0))]) ⟨rfl, vI_re ts rfl rfl, rfl, vI_re b1 rfl rfl, rfl, vI_re te rfl rfl, trivial⟩ (hOK_agn a4 c3 c2)
    have hx5 : xt [0, e, s] [0, e, s, a, (g : Int)] := xt_app [0, e, s] [a, (g : Int)]
    have hst : stOK2 qH [0, e, s, a, (g : Int)] [.inl (4, 0)] [.inl g] := ⟨vI (y := (g : Int)) rfl (Int.add_zero _).symm ⟨by omega, by omega⟩ eg.symm, trivial⟩
    rcases Nat.lt_or_ge g 48 with k1 | k1
    · refine runH (P := P_g1l) (Q := QB) qH_w hM ch_g1l all_nil (aw0 := aw) (aw := aw2) (fun g => by cases g) rfl (τ0 := [0, e, s]) (σ := [0, e, s, a, (g : Int)]) rfl rfl (by omega) hcz hx5 ⟨eOK2_L ⟨⟨by decide, by decide⟩, ⟨e2, e3⟩, ⟨s2, s3⟩, ⟨b2, b3⟩, ⟨by dsimp only; omega, by dsimp only; omega⟩, trivial⟩ rfl (hF g), hhc, lvOK_cons ⟨_, w0, y0⟩ lvOK_nil, hst, c1⟩ hag ?_ all_nil
      exact fun o ho τ2 aw' w D' x2 d1 d2 d3 d4 d5 => ⟨aw', d1, d2, o, ho, τ2, x2, d3, d4, d5⟩
    · rcases Nat.lt_or_ge g 58 with k2 | k2
      · refine runH (P := P_g2) (Q := QB) qH_w hM ch_g2 all_nil (aw0 := aw) (aw := aw2) (fun g => by cases g) rfl (τ0 := [0, e, s, a, (g : Int)]) (σ := [0, e, s, a, (g : Int)]) rfl rfl (by omega) hcz (xt_refl _) ⟨eOK2_L ⟨⟨by decide, by decide⟩, ⟨e2, e3⟩, ⟨s2, s3⟩, ⟨b2, b3⟩, ⟨by dsimp only; omega, by dsimp only; omega⟩, trivial⟩ rfl (hF g), hhc, lvOK_cons ⟨_, w0, y0⟩ lvOK_nil, hst, c1⟩ hag ?_ ?_
        · intro o ho τ2 aw' w D' x2 d1 d2 d3 d4 d5
          have ho := List.mem_singleton.mp ho
          subst ho
          exact ⟨aw', d1, d2, _, List.mem_cons_self, [0, e, s], xt_refl _, he, hOK_cR (C := [((211, 6), .inl (2, 0)), ((211, 7), .inl (2, 0)), ((211, 8), .inl (0, 0))]) ⟨rfl, vI_re (x2 2 s rfl) rfl rfl, rfl, vI_re (x2 2 s rfl) rfl rfl, rfl, vI_re (x2 0 0 rfl) rfl rfl, trivial⟩ d4, d5⟩
        · intro c4 hcc2 τ2 aw3 lw3 sw3 D3 x2 d1 d2 d3 d4 d5 d6
          have hcc2 := List.mem_singleton.mp hcc2
          subst hcc2
          match sw3, d6 with
          | [p0, p1], _ =>
            obtain ⟨o0, r0, z0⟩ := d5 0 _ rfl
            obtain ⟨o3, r3, z3⟩ := d5 200 _ rfl
            obtain ⟨o4, r4, z4⟩ := d5 201 _ rfl
            have r0 : lget lw3 0 = some o0 := r0
            have r3 : some p0 = some o3 := r3
            have r4 : some p1 = some o4 := r4
            cases r3
            cases r4
            obtain ⟨j1, j2⟩ := vI_of (x2 3 a rfl) z3
            rw [Int.add_zero] at j2
            rw [j2]
            obtain ⟨qx, qy, q1, q2, q3⟩ := d3.2.2.2.1 (3, 2, 1) (List.mem_cons_of_mem _ (List.mem_cons_of_mem _ (List.mem_cons_of_mem _ List.mem_cons_self)))
            rw [x2 3 a rfl] at q1
            cases q1
            rw [x2 2 s rfl] at q2
            cases q2
            have q3 : a + 1 ≤ s := q3
            refine ev_sign (mk_X12_goOn_264 hM) hcz d1 (hOK_0 d3 d4 rfl) (by omega) (Nat.zero_le _) z4 (fun D4 aw4 n1 n2 n3 => ?_)
            have hsg : SGN aw3 (eI a) = g := by
              rw [SGN_ag d2 rfl rfl, ← SGN_ag hag rfl rfl, SGN_ag c2 rfl rfl, hg]
            rw [hsg]
            refine runH (P := P_g3) (Q := QB) qH_w hM ch_g3 all_nil (aw0 := aw) (aw := aw4) (fun g => by cases g) rfl (τ0 := [0, e, s]) (σ := [0, e, s, a, (g : Int)]) rfl rfl (by omega) hcz hx5 ⟨eOK2_L ⟨⟨by decide, by decide⟩, ⟨e2, e3⟩, ⟨s2, s3⟩, ⟨b2, by dsimp only; omega⟩, ⟨by dsimp only; omega, by dsimp only; omega⟩, trivial⟩ rfl (all_cons ⟨e, s, rfl, rfl, f3⟩ (all_cons ⟨e, a, rfl, rfl, g3⟩ (all_cons ⟨a, s, rfl, rfl, h3⟩ (all_cons ⟨a, s, rfl, rfl, q3⟩ all_nil)))), hOK_cR (C := [((211, 3), .inl (2, 0)), ((211, 6), .inl (3, 0)), ((211, 7), .inl (3, 0)), ((211, 9), .inl (0, 0))]) ⟨rfl, vI_re (x2 2 s rfl) rfl rfl, rfl, vI_re (x2 3 a rfl) rfl rfl, rfl, vI_re (x2 3 a rfl) rfl rfl, rfl, vI_re (x2 0 0 rfl) rfl rfl, trivial⟩ (hOK_agn d4 n3 n2), lvOK_cons ⟨_, r0, z0⟩ lvOK_nil, hst, n1⟩ (ag_trans d2 (ag_sub (a := []) rfl n2)) ?_ all_nil
            exact fun o ho τ3 aw' w D' x3 m1 m2 m3 m4 m5 => ⟨aw', m1, m2, o, ho, τ3, x3, m3, m4, m5⟩
      · refine runH (P := P_g1h) (Q := QB) qH_w hM ch_g1h all_nil (aw0 := aw) (aw := aw2) (fun g => by cases g) rfl (τ0 := [0, e, s]) (σ := [0, e, s, a, (g : Int)]) rfl rfl (by omega) hcz hx5 ⟨eOK2_L ⟨⟨by decide, by decide⟩, ⟨e2, e3⟩, ⟨s2, s3⟩, ⟨b2, b3⟩, ⟨by dsimp only; omega, by dsimp only; omega⟩, trivial⟩ rfl (hF g), hhc, lvOK_cons ⟨_, w0, y0⟩ lvOK_nil, hst, c1⟩ hag ?_ all_nil
        exact fun o ho τ2 aw' w D' x2 d1 d2 d3 d4 d5 => ⟨aw', d1, d2, o, ho, τ2, x2, d3, d4, d5⟩
