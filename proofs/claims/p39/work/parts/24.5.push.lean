def P_pu0 : qP := (qH, false, [], false, [], [], [9])
def po_pu0 : List qPo := []
def cu_pu0 : List qCu := []
def hc_pu0 : List hCu := [(9, 3, ([], [(0, .inr (.inr (some 53))), (1, .inl (1, 0)), (2, .inl (2, 0)), (200, .inl (1, 0)), (201, .inl (3, 0)), (202, .inr (.inr (some 75)))], ([(0, 0), (0, 8), ((-2147483648), 2147483647), (0, 40)], [], []), [((211, 37), .inl (3, 0))]))]
def E_pu0 : qE := ([(0, 0), (0, 8), ((-2147483648), 2147483647), (0, 40)], [], [])
def C_pu0 : qC := [((211, 37), .inl (3, 0))]
def lv_pu0 : qK := [(0, .inr (.inr (some 53))), (1, .inl (1, 0)), (2, .inl (2, 0))]
def st_pu0 : List qV := []
set_option maxRecDepth 1000000 in
theorem ch_pu0 : chkHm P_pu0 4 0 1000000 0 255 E_pu0 C_pu0 0 lv_pu0 st_pu0 po_pu0 cu_pu0 hc_pu0 = true := by decide +kernel
def P_pu1 : qP := (qH, false, [], false, [], [], [19])
def po_pu1 : List qPo := []
def cu_pu1 : List qCu := []
def hc_pu1 : List hCu := [(19, 3, ([], [(0, .inr (.inr (some 53))), (1, .inl (1, 0)), (2, .inl (2, 0)), (200, .inl (2, 0)), (201, .inl (3, 0)), (202, .inr (.inr (some 76)))], ([(0, 0), (0, 8), ((-2147483648), 2147483647), (0, 40)], [], []), [((211, 37), .inl (3, 0))]))]
def E_pu1 : qE := ([(0, 0), (0, 8), ((-2147483648), 2147483647), (0, 40)], [], [])
def C_pu1 : qC := [((211, 37), .inl (3, 0))]
def lv_pu1 : qK := [(0, .inr (.inr (some 53))), (1, .inl (1, 0)), (2, .inl (2, 0))]
def st_pu1 : List qV := []
set_option maxRecDepth 1000000 in
theorem ch_pu1 : chkHm P_pu1 4 0 1000000 0 255 E_pu1 C_pu1 10 lv_pu1 st_pu1 po_pu1 cu_pu1 hc_pu1 = true := by decide +kernel
def P_pu2 : qP := (qH, false, [(53, 37)], false, [], [], [])
def po_pu2 : List qPo := [([], none, ([(0, 0), (0, 8), ((-2147483648), 2147483647), (0, 40)], [], []), [((211, 37), .inl (3, 1))])]
def cu_pu2 : List qCu := []
def hc_pu2 : List hCu := []
def E_pu2 : qE := ([(0, 0), (0, 8), ((-2147483648), 2147483647), (0, 40)], [], [])
def C_pu2 : qC := [((211, 37), .inl (3, 0))]
def lv_pu2 : qK := [(0, .inr (.inr (some 53))), (1, .inl (1, 0)), (2, .inl (2, 0))]
def st_pu2 : List qV := []
set_option maxRecDepth 1000000 in
theorem ch_pu2 : chkHm P_pu2 4 0 1000000 0 255 E_pu2 C_pu2 20 lv_pu2 st_pu2 po_pu2 cu_pu2 hc_pu2 = true := by decide +kernel
theorem mt_X12_pushE_9 {M : rM} (h : mT 255 = some M) : mTab M 9 = some (.iastore, 1) := by
  have e : (mT 255).bind (fun M => mTab M 9) = some (.iastore, 1) := by rfl
  rw [h] at e
  exact e
theorem mt_X12_pushE_19 {M : rM} (h : mT 255 = some M) : mTab M 19 = some (.iastore, 1) := by
  have e : (mT 255).bind (fun M => mTab M 19) = some (.iastore, 1) := by rfl
  rw [h] at e
  exact e
def P_em0 : qP := (qH, false, [], false, [], [], [9])
def po_em0 : List qPo := []
def cu_em0 : List qCu := []
def hc_em0 : List hCu := [(9, 3, ([], [(0, .inr (.inr (some 53))), (1, .inl (1, 0)), (2, .inl (2, 0)), (200, .inl (1, 0)), (201, .inl (3, 0)), (202, .inr (.inr (some 73)))], ([(0, 0), ((-2147483648), 2147483647), ((-2147483648), 2147483647), (0, 1119)], [], []), [((211, 35), .inl (3, 0))]))]
def E_em0 : qE := ([(0, 0), ((-2147483648), 2147483647), ((-2147483648), 2147483647), (0, 1119)], [], [])
def C_em0 : qC := [((211, 35), .inl (3, 0))]
def lv_em0 : qK := [(0, .inr (.inr (some 53))), (1, .inl (1, 0)), (2, .inl (2, 0))]
def st_em0 : List qV := []
set_option maxRecDepth 1000000 in
theorem ch_em0 : chkHm P_em0 4 0 1000000 0 256 E_em0 C_em0 0 lv_em0 st_em0 po_em0 cu_em0 hc_em0 = true := by decide +kernel
def P_em1 : qP := (qH, false, [], false, [], [], [19])
def po_em1 : List qPo := []
def cu_em1 : List qCu := []
def hc_em1 : List hCu := [(19, 3, ([], [(0, .inr (.inr (some 53))), (1, .inl (1, 0)), (2, .inl (2, 0)), (200, .inl (2, 0)), (201, .inl (3, 0)), (202, .inr (.inr (some 74)))], ([(0, 0), ((-2147483648), 2147483647), ((-2147483648), 2147483647), (0, 1119)], [], []), [((211, 35), .inl (3, 0))]))]
def E_em1 : qE := ([(0, 0), ((-2147483648), 2147483647), ((-2147483648), 2147483647), (0, 1119)], [], [])
def C_em1 : qC := [((211, 35), .inl (3, 0))]
def lv_em1 : qK := [(0, .inr (.inr (some 53))), (1, .inl (1, 0)), (2, .inl (2, 0))]
def st_em1 : List qV := []
set_option maxRecDepth 1000000 in
theorem ch_em1 : chkHm P_em1 4 0 1000000 0 256 E_em1 C_em1 10 lv_em1 st_em1 po_em1 cu_em1 hc_em1 = true := by decide +kernel
def P_em2 : qP := (qH, false, [(53, 35)], false, [], [], [])
def po_em2 : List qPo := [([], none, ([(0, 0), ((-2147483648), 2147483647), ((-2147483648), 2147483647), (0, 1119)], [], []), [((211, 35), .inl (3, 1))])]
def cu_em2 : List qCu := []
def hc_em2 : List hCu := []
def E_em2 : qE := ([(0, 0), ((-2147483648), 2147483647), ((-2147483648), 2147483647), (0, 1119)], [], [])
def C_em2 : qC := [((211, 35), .inl (3, 0))]
def lv_em2 : qK := [(0, .inr (.inr (some 53))), (1, .inl (1, 0)), (2, .inl (2, 0))]
def st_em2 : List qV := []
set_option maxRecDepth 1000000 in
theorem ch_em2 : chkHm P_em2 4 0 1000000 0 256 E_em2 C_em2 20 lv_em2 st_em2 po_em2 cu_em2 hc_em2 = true := by decide +kernel
theorem mt_X12_emit_9 {M : rM} (h : mT 256 = some M) : mTab M 9 = some (.iastore, 1) := by
  have e : (mT 256).bind (fun M => mTab M 9) = some (.iastore, 1) := by rfl
  rw [h] at e
  exact e
theorem mt_X12_emit_19 {M : rM} (h : mT 256 = some M) : mTab M 19 = some (.iastore, 1) := by
  have e : (mT 256).bind (fun M => mTab M 19) = some (.iastore, 1) := by rfl
  rw [h] at e
  exact e
/-! by hand: a row's element is written -/
theorem sl_set {aw : List rC} {k n : Nat} {l : List rV} {x : rV} {g : Nat} (hq : aw[k]? = some (g, l)) (hn : n < l.length) (p j : Nat) : sl (aw.set k (g, l.set n x)) p j = if p = k ∧ j = n then some x else sl aw p j := by
  have hk : k < aw.length := (List.getElem?_eq_some_iff.mp hq).1
  unfold sl
  rw [List.getElem?_set]
  by_cases e : k = p
  · subst e
    rw [if_pos rfl, if_pos hk, hq]
    dsimp only
    rw [List.getElem?_set]
    by_cases e2 : n = j
    · subst e2
      rw [if_pos rfl, if_pos hn, if_pos ⟨rfl, rfl⟩]
    · rw [if_neg e2, if_neg (fun h => e2 h.2.symm)]
  · rw [if_neg e, if_neg (fun h => e h.1.symm)]
theorem hOK_el {τ : List Int} {C : qC} {aw : List rC} (g : hOK qH τ C aw) {k κ n len : Nat} {l : List rV} {o : Option Nat} {s : qR} {z : Int} (hq : aw[k]? = some (14, l)) (hp : qH.2[k]? = some κ) (hK : qH.1[κ]? = some (14, len, o, [.inl s])) (hc : lall (fun e => !(Nat.beq e.1.1 k)) C = true) (hz : inR z) (h1 : s.1 ≤ z) (h2 : z ≤ s.2) : hOK qH τ C (aw.set k (14, l.set n (.inl (eI z)))) := by
  obtain ⟨q0, q1, q2, q3, q4⟩ := hOK_at g hp hK
  rw [hq] at q1
  cases q1
  refine hOK_set g hq hp hK (by simp) (fun j v hv => ?_) (fun _ _ _ => rfl)
  by_cases e : n = j
  · subst e
    rw [List.getElem?_set, if_pos rfl] at hv
    split at hv
    · next hlt =>
      cases hv
      unfold slOK
      rw [kf_np hc]
      refine ⟨.inl s, ?_, z, rfl, hz, h1, h2⟩
      unfold sdAt
      have hlt : n < l.length := hlt
      have q3 : l.length = len := q3
      dsimp only
      rw [show Nat.blt 14 13 = false from rfl, cond_false, blt_of (show n < len by omega), cond_true]
      rfl
    · cases hv
  · rw [List.getElem?_set, if_neg e] at hv
    exact q4 j v hv
theorem hOK_mk {τ σ : List Int} {C : qC} {aw : List rC} (g : hOK qH σ [] aw) (h : ∀ e ∈ C, ∃ v, sl aw e.1.1 e.1.2 = some v ∧ vOK qH τ e.2 v) : hOK qH τ C aw := by
  refine ⟨g.1, fun p q hq => ?_⟩
  obtain ⟨κ, K, h1, h2, h3, h4, h5⟩ := g.2 p q hq
  refine ⟨κ, K, h1, h2, h3, h4, fun j v hv => ?_⟩
  unfold slOK
  cases hk : kf C p j with
  | none => exact h5 j v hv
  | some a =>
    obtain ⟨v', e1, e2⟩ := h _ (kf_mem hk)
    unfold sl at e1
    dsimp only at e1
    rw [hq] at e1
    dsimp only at e1
    rw [hv] at e1
    cases e1
    exact e2
/-- a slot's number, out of what is said of the cells -/
theorem sl_of {τ : List Int} {C : qC} {aw : List rC} (g : hOK qH τ C aw) {p κ j i : Nat} {K : qKd} {y o : Int} (hp : qH.2[p]? = some κ) (hK : qH.1[κ]? = some K) (hj : j < K.2.1) (hk : kf C p j = some (.inl (i, o))) (hy : τ[i]? = some y) : inR (y + o) ∧ sl aw p j = some (.inl (eI (y + o))) := by
  obtain ⟨q, v, q1, q2, q3, q4, q5, q6⟩ := hOK_get g hp hK hj
  unfold slOK at q6
  rw [hk] at q6
  obtain ⟨g1, g2⟩ := vI_of hy q6
  exact ⟨g1, by rw [q5, g2]⟩
theorem X12_pushE_ok {L : List Nat} {M : rM} (hM : mT 255 = some M) {d : Nat} (x y p : Nat) (hx : x ≤ 8) (hy : y < 4294967296) (hp : p ≤ 40) {D : rD} {aw : List rC} {lw : rK} (hr : rep D aw) (hh : hOK qH [0] [] aw) (hs : sl aw 211 37 = some (.inl p)) (h0 : ∃ v, lget lw 0 = some v ∧ vOK qH [] (.inr (.inr (some 53))) v) (h1 : lget lw 1 = some (.inl x)) (h2 : lget lw 2 = some (.inl y)) : Ev L d M (0, lw, [], D, 0, 0) (fun v D' => v = none ∧ ∃ aw', rep D' aw' ∧ (p + 1 ≤ 40 → hOK qH [0] [] aw') ∧ ag qH [(53, 37), (75, 9999), (76, 9999)] aw aw' ∧ sl aw' 211 37 = some (.inl (p + 1)) ∧ (∀ j, sl aw' 233 j = if j = p then some (.inl x) else sl aw 233 j) ∧ ∀ j, sl aw' 234 j = if j = p then some (.inl y) else sl aw 234 j) := by
  obtain ⟨gx1, gx2⟩ := sgn_in (n := x) (by omega)
  obtain ⟨gy1, gy2⟩ := sgn_in hy
  have ep : eI (p : Int) = p := eI_nat (by omega)
  have hxb : ((0 : Int), (8 : Int)).1 ≤ sgn x ∧ sgn x ≤ ((0 : Int), (8 : Int)).2 := (by unfold sgn; rw [blt_of (show x < 2147483648 by omega), cond_true]; have e : (Int.ofNat x : Int) = (x : Int) := rfl; rw [e]; exact ⟨by omega, by omega⟩)
  have hE : eOK2 [0, sgn x, sgn y, (p : Int)] E_pu0 := eOK2_L ⟨⟨by decide, by decide⟩, hxb, gy1, ⟨by dsimp only; omega, by dsimp only; omega⟩, trivial⟩ rfl all_nil
  have hlv : ∀ {lw' : rK}, (∃ v, lget lw' 0 = some v ∧ vOK qH [] (.inr (.inr (some 53))) v) → lget lw' 1 = some (.inl x) → lget lw' 2 = some (.inl y) → lvOK qH [0, sgn x, sgn y, (p : Int)] lv_pu0 lw' := fun a b c => lvOK_cons a (lvOK_cons ⟨_, b, vI (y := sgn x) rfl (Int.add_zero _).symm gx1 gx2.symm⟩ (lvOK_cons ⟨_, c, vI (y := sgn y) rfl (Int.add_zero _).symm gy1 gy2.symm⟩ lvOK_nil))
  have hC : ∀ {aw1 : List rC}, hOK qH [0] [] aw1 → sl aw1 211 37 = some (.inl p) → hOK qH [0, sgn x, sgn y, (p : Int)] [((211, 37), .inl (3, 0))] aw1 := fun a b => hOK_mk a (all_cons ⟨_, b, vI (y := (p : Int)) rfl (Int.add_zero _).symm ⟨by omega, by omega⟩ ep.symm⟩ all_nil)
  refine runH (P := P_pu0) (Q := QB) qH_w hM ch_pu0 all_nil (aw0 := aw) (aw := aw) (fun g => by cases g) rfl (τ0 := [0, sgn x, sgn y, (p : Int)]) (σ := [0, sgn x, sgn y, (p : Int)]) rfl rfl (Nat.zero_le _) ⟨Nat.zero_le _, Nat.zero_le _⟩ (xt_refl _) ⟨hE, hC hh hs, hlv h0 h1 h2, trivial, hr⟩ (ag_refl _ _ _) all_nil ?_
  intro c hcc τ1 aw1 lw1 sw1 D1 x1 a1 a2 a3 a4 a5 a6
  have hcc := List.mem_singleton.mp hcc
  subst hcc
  match sw1, a6 with
  | [p0, p1, p2], _ =>
    obtain ⟨v0, w0, y0⟩ := a5 0 _ rfl
    obtain ⟨v1, w1, y1⟩ := a5 1 _ rfl
    obtain ⟨v2, w2, y2⟩ := a5 2 _ rfl
    obtain ⟨v3, w3, y3⟩ := a5 200 _ rfl
    obtain ⟨v4, w4, y4⟩ := a5 201 _ rfl
    obtain ⟨v5, w5, y5⟩ := a5 202 _ rfl
    have w0 : lget lw1 0 = some v0 := w0
    have w1 : lget lw1 1 = some v1 := w1
    have w2 : lget lw1 2 = some v2 := w2
    have w3 : some p0 = some v3 := w3
    have w4 : some p1 = some v4 := w4
    have w5 : some p2 = some v5 := w5
    cases w3
    cases w4
    cases w5
    have i1 := (vI_of (x1 1 (sgn x) rfl) y1).2
    have i2 := (vI_of (x1 2 (sgn y) rfl) y2).2
    have i3 := (vI_of (x1 1 (sgn x) rfl) y3).2
    have i4 := (vI_of (x1 3 (p : Int) rfl) y4).2
    rw [Int.add_zero, gx2] at i1 i3
    rw [Int.add_zero, gy2] at i2
    rw [Int.add_zero, ep] at i4
    rw [i1] at w1
    rw [i2] at w2
    obtain ⟨pp, q1, q2⟩ := y5
    have hpp : pp = 233 := qH_w 75 _ 233 (rfl : qH.1[75]? = some _) rfl pp q2
    subst hpp
    rw [q1, i3, i4]
    obtain ⟨qc, c1, c2, c3, c4⟩ := hOK_at a4 (p := 233) (κ := 75) (by decide +kernel) (rfl : qH.1[75]? = some (14, 90, some 233, [.inl ((0 : Int), (8 : Int))]))
    have hqc : aw1[233]? = some (14, qc.2) := by rw [c1]; congr 1; exact Prod.ext c2 rfl
    have hlen : p < qc.2.length := by rw [c3]; show p < 90; omega
    obtain ⟨D2, r2, hst⟩ := st_iast (L := L) (v := x) (r := []) (lw := lw1) (c := 0) (z := 0) (mt_X12_pushE_9 hM) a1 hqc hlen (by omega)
    refine Ev_step hst ?_
    have hh1 := hOK_0 a3 a4 rfl
    have hh2 : hOK qH [0] [] (aw1.set 233 (14, qc.2.set p (.inl x))) := by
      have := hOK_el (n := p) hh1 hqc (by decide +kernel : qH.2[233]? = some 75) (rfl : qH.1[75]? = some (14, 90, some 233, [.inl ((0 : Int), (8 : Int))])) rfl gx1 hxb.1 hxb.2
      rw [gx2] at this
      exact this
    have hag2 : ag qH [(53, 37), (75, 9999), (76, 9999)] aw (aw1.set 233 (14, qc.2.set p (.inl x))) := ag_trans (ag_sub (a := []) rfl a2) (ag_set hqc (by decide +kernel : qH.2[233]? = some 75) (fun j hj => by rw [show mdin [(53, 37), (75, 9999), (76, 9999)] 75 j = true from mdin_all rfl] at hj; cases hj))
    have hsl2 := sl_set (x := .inl x) hqc hlen
    have hs2 : sl (aw1.set 233 (14, qc.2.set p (.inl x))) 211 37 = some (.inl p) := by
      rw [hsl2, if_neg (fun h => absurd h.1 (by decide)), a2.2 211 53 37 (by decide +kernel) rfl]
      exact hs
    generalize hA2 : aw1.set 233 (14, qc.2.set p (.inl x)) = A2 at *
    refine runH (P := P_pu1) (Q := QB) qH_w hM ch_pu1 all_nil (aw0 := A2) (aw := A2) (fun g => by cases g) rfl (τ0 := [0, sgn x, sgn y, (p : Int)]) (σ := [0, sgn x, sgn y, (p : Int)]) rfl rfl (Nat.zero_le _) ⟨Nat.zero_le _, Nat.zero_le _⟩ (xt_refl _) ⟨hE, hC hh2 hs2, hlv ⟨_, w0, y0⟩ w1 w2, trivial, r2⟩ (ag_refl _ _ _) all_nil ?_
    intro c' hcc' τ3 aw3 lw3 sw3 D3 x3 b1 b2 b3 b4 b5 b6
    have hcc' := List.mem_singleton.mp hcc'
    subst hcc'
    match sw3, b6 with
    | [p0, p1, p2], _ =>
      obtain ⟨v0, w0, y0⟩ := b5 0 _ rfl
      obtain ⟨v1, w1, y1⟩ := b5 1 _ rfl
      obtain ⟨v2, w2, y2⟩ := b5 2 _ rfl
      obtain ⟨v3, w3, y3⟩ := b5 200 _ rfl
      obtain ⟨v4, w4, y4⟩ := b5 201 _ rfl
      obtain ⟨v5, w5, y5⟩ := b5 202 _ rfl
      have w0 : lget lw3 0 = some v0 := w0
      have w1 : lget lw3 1 = some v1 := w1
      have w2 : lget lw3 2 = some v2 := w2
      have w3 : some p0 = some v3 := w3
      have w4 : some p1 = some v4 := w4
      have w5 : some p2 = some v5 := w5
      cases w3
      cases w4
      cases w5
      have i1 := (vI_of (x3 1 (sgn x) rfl) y1).2
      have i2 := (vI_of (x3 2 (sgn y) rfl) y2).2
      have i3 := (vI_of (x3 2 (sgn y) rfl) y3).2
      have i4 := (vI_of (x3 3 (p : Int) rfl) y4).2
      rw [Int.add_zero, gx2] at i1
      rw [Int.add_zero, gy2] at i2 i3
      rw [Int.add_zero, ep] at i4
      rw [i1] at w1
      rw [i2] at w2
      obtain ⟨pp, q1, q2⟩ := y5
      have hpp : pp = 234 := qH_w 76 _ 234 (rfl : qH.1[76]? = some _) rfl pp q2
      subst hpp
      rw [q1, i3, i4]
      obtain ⟨qd, d1, d2, d3, d4⟩ := hOK_at b4 (p := 234) (κ := 76) (by decide +kernel) (rfl : qH.1[76]? = some (14, 90, some 234, [.inl (-2147483648, 2147483647)]))
      have hqd : aw3[234]? = some (14, qd.2) := by rw [d1]; congr 1; exact Prod.ext d2 rfl
      have hlen2 : p < qd.2.length := by rw [d3]; show p < 90; omega
      obtain ⟨D4, r4, hst4⟩ := st_iast (L := L) (v := y) (r := []) (lw := lw3) (c := 0) (z := 0) (mt_X12_pushE_19 hM) b1 hqd hlen2 (by omega)
      refine Ev_step hst4 ?_
      have hh3 := hOK_0 b3 b4 rfl
      have hh4 : hOK qH [0] [] (aw3.set 234 (14, qd.2.set p (.inl y))) := by
        have := hOK_el (n := p) hh3 hqd (by decide +kernel : qH.2[234]? = some 76) (rfl : qH.1[76]? = some (14, 90, some 234, [.inl (-2147483648, 2147483647)])) rfl gy1 gy1.1 gy1.2
        rw [gy2] at this
        exact this
      have hag4 : ag qH [(53, 37), (75, 9999), (76, 9999)] aw (aw3.set 234 (14, qd.2.set p (.inl y))) := ag_trans (ag_trans hag2 (ag_sub (a := []) rfl b2)) (ag_set hqd (by decide +kernel : qH.2[234]? = some 76) (fun j hj => by rw [show mdin [(53, 37), (75, 9999), (76, 9999)] 76 j = true from mdin_all rfl] at hj; cases hj))
      have hsl4 := sl_set (x := .inl y) hqd hlen2
      have hs4 : sl (aw3.set 234 (14, qd.2.set p (.inl y))) 211 37 = some (.inl p) := by
        rw [hsl4, if_neg (fun h => absurd h.1 (by decide)), b2.2 211 53 37 (by decide +kernel) rfl]
        exact hs2
      have hb2a := b2.2
      generalize hA4 : aw3.set 234 (14, qd.2.set p (.inl y)) = A4 at *
      refine runH (P := P_pu2) (Q := QB) qH_w hM ch_pu2 all_nil (aw0 := A4) (aw := A4) (fun g => by cases g) rfl (τ0 := [0, sgn x, sgn y, (p : Int)]) (σ := [0, sgn x, sgn y, (p : Int)]) rfl rfl (Nat.zero_le _) ⟨Nat.zero_le _, Nat.zero_le _⟩ (xt_refl _) ⟨hE, hC hh4 hs4, hlv ⟨_, w0, y0⟩ w1 w2, trivial, r4⟩ (ag_refl _ _ _) ?_ all_nil
      intro o ho τ5 aw5 w5' D5 x5 e1 e2 e3 e4 e5
      have ho := List.mem_singleton.mp ho
      subst ho
      have e5 : w5' = none := e5
      obtain ⟨f1, f2⟩ := sl_of e4 (by decide +kernel : qH.2[211]? = some 53) (rfl : qH.1[53]? = some _) (show 37 < 66 by decide) (rfl : kf [((211, 37), (.inl (3, 1) : qV))] 211 37 = some (.inl (3, 1))) (x5 3 (p : Int) rfl)
      rw [show (p : Int) + 1 = ((p + 1 : Nat) : Int) by omega, eI_nat (by omega)] at f2
      refine ⟨e5, aw5, e1, fun hcl => ?_, ag_trans hag4 (ag_sub (a := [(53, 37)]) rfl e2), f2, fun j => ?_, fun j => ?_⟩
      · have hE' : eOK2 [0, ((p + 1 : Nat) : Int)] ([(0, 0), (0, 40)], [], []) := eOK2_L ⟨⟨by decide, by decide⟩, ⟨by dsimp only; omega, by dsimp only; omega⟩, trivial⟩ rfl all_nil
        exact hOK_0 hE' (hOK_cR (C := [((211, 37), .inl (3, 1))]) (C' := [((211, 37), .inl (1, 0))]) ⟨rfl, vI_re (x5 3 (p : Int) rfl) rfl (by omega), trivial⟩ e4) rfl
      · rw [e2.2 233 75 j (by decide +kernel) rfl, hsl4, if_neg (fun h => absurd h.1 (by decide)), hb2a 233 75 j (by decide +kernel) rfl, hsl2]
        by_cases hj : j = p
        · rw [if_pos ⟨rfl, hj⟩, if_pos hj]
        · rw [if_neg (fun h => hj h.2), if_neg hj, a2.2 233 75 j (by decide +kernel) rfl]
      · rw [e2.2 234 76 j (by decide +kernel) rfl, hsl4]
        by_cases hj : j = p
        · rw [if_pos ⟨rfl, hj⟩, if_pos hj]
        · rw [if_neg (fun h => hj h.2), if_neg hj, hb2a 234 76 j (by decide +kernel) rfl, hsl2, if_neg (fun h => absurd h.1 (by decide)), a2.2 234 76 j (by decide +kernel) rfl]
theorem X12_emit_ok {L : List Nat} {M : rM} (hM : mT 256 = some M) {d : Nat} (x y p : Nat) (hx : x < 4294967296) (hy : y < 4294967296) (hp : p ≤ 1119) {D : rD} {aw : List rC} {lw : rK} (hr : rep D aw) (hh : hOK qH [0] [] aw) (hs : sl aw 211 35 = some (.inl p)) (h0 : ∃ v, lget lw 0 = some v ∧ vOK qH [] (.inr (.inr (some 53))) v) (h1 : lget lw 1 = some (.inl x)) (h2 : lget lw 2 = some (.inl y)) : Ev L d M (0, lw, [], D, 0, 0) (fun v D' => v = none ∧ ∃ aw', rep D' aw' ∧ (p + 1 ≤ 1120 → hOK qH [0] [] aw') ∧ ag qH [(53, 35), (73, 9999), (74, 9999)] aw aw' ∧ sl aw' 211 35 = some (.inl (p + 1)) ∧ (∀ j, sl aw' 231 j = if j = p then some (.inl x) else sl aw 231 j) ∧ ∀ j, sl aw' 232 j = if j = p then some (.inl y) else sl aw 232 j) := by
  obtain ⟨gx1, gx2⟩ := sgn_in (n := x) (by omega)
  obtain ⟨gy1, gy2⟩ := sgn_in hy
  have ep : eI (p : Int) = p := eI_nat (by omega)
  have hxb : ((-2147483648 : Int), (2147483647 : Int)).1 ≤ sgn x ∧ sgn x ≤ ((-2147483648 : Int), (2147483647 : Int)).2 := gx1
  have hE : eOK2 [0, sgn x, sgn y, (p : Int)] E_em0 := eOK2_L ⟨⟨by decide, by decide⟩, gx1, gy1, ⟨by dsimp only; omega, by dsimp only; omega⟩, trivial⟩ rfl all_nil
  have hlv : ∀ {lw' : rK}, (∃ v, lget lw' 0 = some v ∧ vOK qH [] (.inr (.inr (some 53))) v) → lget lw' 1 = some (.inl x) → lget lw' 2 = some (.inl y) → lvOK qH [0, sgn x, sgn y, (p : Int)] lv_em0 lw' := fun a b c => lvOK_cons a (lvOK_cons ⟨_, b, vI (y := sgn x) rfl (Int.add_zero _).symm gx1 gx2.symm⟩ (lvOK_cons ⟨_, c, vI (y := sgn y) rfl (Int.add_zero _).symm gy1 gy2.symm⟩ lvOK_nil))
  have hC : ∀ {aw1 : List rC}, hOK qH [0] [] aw1 → sl aw1 211 35 = some (.inl p) → hOK qH [0, sgn x, sgn y, (p : Int)] [((211, 35), .inl (3, 0))] aw1 := fun a b => hOK_mk a (all_cons ⟨_, b, vI (y := (p : Int)) rfl (Int.add_zero _).symm ⟨by omega, by omega⟩ ep.symm⟩ all_nil)
  refine runH (P := P_em0) (Q := QB) qH_w hM ch_em0 all_nil (aw0 := aw) (aw := aw) (fun g => by cases g) rfl (τ0 := [0, sgn x, sgn y, (p : Int)]) (σ := [0, sgn x, sgn y, (p : Int)]) rfl rfl (Nat.zero_le _) ⟨Nat.zero_le _, Nat.zero_le _⟩ (xt_refl _) ⟨hE, hC hh hs, hlv h0 h1 h2, trivial, hr⟩ (ag_refl _ _ _) all_nil ?_
  intro c hcc τ1 aw1 lw1 sw1 D1 x1 a1 a2 a3 a4 a5 a6
  have hcc := List.mem_singleton.mp hcc
  subst hcc
  match sw1, a6 with
  | [p0, p1, p2], _ =>
    obtain ⟨v0, w0, y0⟩ := a5 0 _ rfl
    obtain ⟨v1, w1, y1⟩ := a5 1 _ rfl
    obtain ⟨v2, w2, y2⟩ := a5 2 _ rfl
    obtain ⟨v3, w3, y3⟩ := a5 200 _ rfl
    obtain ⟨v4, w4, y4⟩ := a5 201 _ rfl
    obtain ⟨v5, w5, y5⟩ := a5 202 _ rfl
    have w0 : lget lw1 0 = some v0 := w0
    have w1 : lget lw1 1 = some v1 := w1
    have w2 : lget lw1 2 = some v2 := w2
    have w3 : some p0 = some v3 := w3
    have w4 : some p1 = some v4 := w4
    have w5 : some p2 = some v5 := w5
    cases w3
    cases w4
    cases w5
    have i1 := (vI_of (x1 1 (sgn x) rfl) y1).2
    have i2 := (vI_of (x1 2 (sgn y) rfl) y2).2
    have i3 := (vI_of (x1 1 (sgn x) rfl) y3).2
    have i4 := (vI_of (x1 3 (p : Int) rfl) y4).2
    rw [Int.add_zero, gx2] at i1 i3
    rw [Int.add_zero, gy2] at i2
    rw [Int.add_zero, ep] at i4
    rw [i1] at w1
    rw [i2] at w2
    obtain ⟨pp, q1, q2⟩ := y5
    have hpp : pp = 231 := qH_w 73 _ 231 (rfl : qH.1[73]? = some _) rfl pp q2
    subst hpp
    rw [q1, i3, i4]
    obtain ⟨qc, c1, c2, c3, c4⟩ := hOK_at a4 (p := 231) (κ := 73) (by decide +kernel) (rfl : qH.1[73]? = some (14, 1120, some 231, [.inl ((-2147483648 : Int), (2147483647 : Int))]))
    have hqc : aw1[231]? = some (14, qc.2) := by rw [c1]; congr 1; exact Prod.ext c2 rfl
    have hlen : p < qc.2.length := by rw [c3]; show p < 1120; omega
    obtain ⟨D2, r2, hst⟩ := st_iast (L := L) (v := x) (r := []) (lw := lw1) (c := 0) (z := 0) (mt_X12_emit_9 hM) a1 hqc hlen (by omega)
    refine Ev_step hst ?_
    have hh1 := hOK_0 a3 a4 rfl
    have hh2 : hOK qH [0] [] (aw1.set 231 (14, qc.2.set p (.inl x))) := by
      have := hOK_el (n := p) hh1 hqc (by decide +kernel : qH.2[231]? = some 73) (rfl : qH.1[73]? = some (14, 1120, some 231, [.inl ((-2147483648 : Int), (2147483647 : Int))])) rfl gx1 hxb.1 hxb.2
      rw [gx2] at this
      exact this
    have hag2 : ag qH [(53, 35), (73, 9999), (74, 9999)] aw (aw1.set 231 (14, qc.2.set p (.inl x))) := ag_trans (ag_sub (a := []) rfl a2) (ag_set hqc (by decide +kernel : qH.2[231]? = some 73) (fun j hj => by rw [show mdin [(53, 35), (73, 9999), (74, 9999)] 73 j = true from mdin_all rfl] at hj; cases hj))
    have hsl2 := sl_set (x := .inl x) hqc hlen
    have hs2 : sl (aw1.set 231 (14, qc.2.set p (.inl x))) 211 35 = some (.inl p) := by
      rw [hsl2, if_neg (fun h => absurd h.1 (by decide)), a2.2 211 53 35 (by decide +kernel) rfl]
      exact hs
    generalize hA2 : aw1.set 231 (14, qc.2.set p (.inl x)) = A2 at *
    refine runH (P := P_em1) (Q := QB) qH_w hM ch_em1 all_nil (aw0 := A2) (aw := A2) (fun g => by cases g) rfl (τ0 := [0, sgn x, sgn y, (p : Int)]) (σ := [0, sgn x, sgn y, (p : Int)]) rfl rfl (Nat.zero_le _) ⟨Nat.zero_le _, Nat.zero_le _⟩ (xt_refl _) ⟨hE, hC hh2 hs2, hlv ⟨_, w0, y0⟩ w1 w2, trivial, r2⟩ (ag_refl _ _ _) all_nil ?_
    intro c' hcc' τ3 aw3 lw3 sw3 D3 x3 b1 b2 b3 b4 b5 b6
    have hcc' := List.mem_singleton.mp hcc'
    subst hcc'
    match sw3, b6 with
    | [p0, p1, p2], _ =>
      obtain ⟨v0, w0, y0⟩ := b5 0 _ rfl
      obtain ⟨v1, w1, y1⟩ := b5 1 _ rfl
      obtain ⟨v2, w2, y2⟩ := b5 2 _ rfl
      obtain ⟨v3, w3, y3⟩ := b5 200 _ rfl
      obtain ⟨v4, w4, y4⟩ := b5 201 _ rfl
      obtain ⟨v5, w5, y5⟩ := b5 202 _ rfl
      have w0 : lget lw3 0 = some v0 := w0
      have w1 : lget lw3 1 = some v1 := w1
      have w2 : lget lw3 2 = some v2 := w2
      have w3 : some p0 = some v3 := w3
      have w4 : some p1 = some v4 := w4
      have w5 : some p2 = some v5 := w5
      cases w3
      cases w4
      cases w5
      have i1 := (vI_of (x3 1 (sgn x) rfl) y1).2
      have i2 := (vI_of (x3 2 (sgn y) rfl) y2).2
      have i3 := (vI_of (x3 2 (sgn y) rfl) y3).2
      have i4 := (vI_of (x3 3 (p : Int) rfl) y4).2
      rw [Int.add_zero, gx2] at i1
      rw [Int.add_zero, gy2] at i2 i3
      rw [Int.add_zero, ep] at i4
      rw [i1] at w1
      rw [i2] at w2
      obtain ⟨pp, q1, q2⟩ := y5
      have hpp : pp = 232 := qH_w 74 _ 232 (rfl : qH.1[74]? = some _) rfl pp q2
      subst hpp
      rw [q1, i3, i4]
      obtain ⟨qd, d1, d2, d3, d4⟩ := hOK_at b4 (p := 232) (κ := 74) (by decide +kernel) (rfl : qH.1[74]? = some (14, 1120, some 232, [.inl (-2147483648, 2147483647)]))
      have hqd : aw3[232]? = some (14, qd.2) := by rw [d1]; congr 1; exact Prod.ext d2 rfl
      have hlen2 : p < qd.2.length := by rw [d3]; show p < 1120; omega
      obtain ⟨D4, r4, hst4⟩ := st_iast (L := L) (v := y) (r := []) (lw := lw3) (c := 0) (z := 0) (mt_X12_emit_19 hM) b1 hqd hlen2 (by omega)
      refine Ev_step hst4 ?_
      have hh3 := hOK_0 b3 b4 rfl
      have hh4 : hOK qH [0] [] (aw3.set 232 (14, qd.2.set p (.inl y))) := by
        have := hOK_el (n := p) hh3 hqd (by decide +kernel : qH.2[232]? = some 74) (rfl : qH.1[74]? = some (14, 1120, some 232, [.inl (-2147483648, 2147483647)])) rfl gy1 gy1.1 gy1.2
        rw [gy2] at this
        exact this
      have hag4 : ag qH [(53, 35), (73, 9999), (74, 9999)] aw (aw3.set 232 (14, qd.2.set p (.inl y))) := ag_trans (ag_trans hag2 (ag_sub (a := []) rfl b2)) (ag_set hqd (by decide +kernel : qH.2[232]? = some 74) (fun j hj => by rw [show mdin [(53, 35), (73, 9999), (74, 9999)] 74 j = true from mdin_all rfl] at hj; cases hj))
      have hsl4 := sl_set (x := .inl y) hqd hlen2
      have hs4 : sl (aw3.set 232 (14, qd.2.set p (.inl y))) 211 35 = some (.inl p) := by
        rw [hsl4, if_neg (fun h => absurd h.1 (by decide)), b2.2 211 53 35 (by decide +kernel) rfl]
        exact hs2
      have hb2a := b2.2
      generalize hA4 : aw3.set 232 (14, qd.2.set p (.inl y)) = A4 at *
      refine runH (P := P_em2) (Q := QB) qH_w hM ch_em2 all_nil (aw0 := A4) (aw := A4) (fun g => by cases g) rfl (τ0 := [0, sgn x, sgn y, (p : Int)]) (σ := [0, sgn x, sgn y, (p : Int)]) rfl rfl (Nat.zero_le _) ⟨Nat.zero_le _, Nat.zero_le _⟩ (xt_refl _) ⟨hE, hC hh4 hs4, hlv ⟨_, w0, y0⟩ w1 w2, trivial, r4⟩ (ag_refl _ _ _) ?_ all_nil
      intro o ho τ5 aw5 w5' D5 x5 e1 e2 e3 e4 e5
      have ho := List.mem_singleton.mp ho
      subst ho
      have e5 : w5' = none := e5
      obtain ⟨f1, f2⟩ := sl_of e4 (by decide +kernel : qH.2[211]? = some 53) (rfl : qH.1[53]? = some _) (show 35 < 66 by decide) (rfl : kf [((211, 35), (.inl (3, 1) : qV))] 211 35 = some (.inl (3, 1))) (x5 3 (p : Int) rfl)
      rw [show (p : Int) + 1 = ((p + 1 : Nat) : Int) by omega, eI_nat (by omega)] at f2
      refine ⟨e5, aw5, e1, fun hcl => ?_, ag_trans hag4 (ag_sub (a := [(53, 35)]) rfl e2), f2, fun j => ?_, fun j => ?_⟩
      · have hE' : eOK2 [0, ((p + 1 : Nat) : Int)] ([(0, 0), (0, 1120)], [], []) := eOK2_L ⟨⟨by decide, by decide⟩, ⟨by dsimp only; omega, by dsimp only; omega⟩, trivial⟩ rfl all_nil
        exact hOK_0 hE' (hOK_cR (C := [((211, 35), .inl (3, 1))]) (C' := [((211, 35), .inl (1, 0))]) ⟨rfl, vI_re (x5 3 (p : Int) rfl) rfl (by omega), trivial⟩ e4) rfl
      · rw [e2.2 231 73 j (by decide +kernel) rfl, hsl4, if_neg (fun h => absurd h.1 (by decide)), hb2a 231 73 j (by decide +kernel) rfl, hsl2]
        by_cases hj : j = p
        · rw [if_pos ⟨rfl, hj⟩, if_pos hj]
        · rw [if_neg (fun h => hj h.2), if_neg hj, a2.2 231 73 j (by decide +kernel) rfl]
      · rw [e2.2 232 74 j (by decide +kernel) rfl, hsl4]
        by_cases hj : j = p
        · rw [if_pos ⟨rfl, hj⟩, if_pos hj]
        · rw [if_neg (fun h => hj h.2), if_neg hj, hb2a 232 74 j (by decide +kernel) rfl, hsl2, if_neg (fun h => absurd h.1 (by decide)), a2.2 232 74 j (by decide +kernel) rfl]
