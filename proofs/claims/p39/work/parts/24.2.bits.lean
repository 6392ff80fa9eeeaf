def P_b0 : qP := (qH, false, [], false, [], [], [4])
def po_b0 : List qPo := []
def cu_b0 : List qCu := []
def hc_b0 : List hCu := [(4, 0, ([], [(1, .inl (0, 0)), (2, .inl (1, 0))], ([(0, 0), ((-2147483648), 2147483647)], [], []), []))]
def E_b0 : qE := ([(0, 0), ((-2147483648), 2147483647)], [], [])
def C_b0 : qC := []
def lv_b0 : qK := [(0, .inl (1, 0))]
def st_b0 : List qV := []
set_option maxRecDepth 1000000 in
theorem ch_b0 : chkHm P_b0 2 2 1000000 0 133 E_b0 C_b0 0 lv_b0 st_b0 po_b0 cu_b0 hc_b0 = true := by decide +kernel
def P_b1 : qP := (qH, false, [], false, [], [], [14])
def po_b1 : List qPo := [([], some (.inl (2, 0)), ([(0, 0), ((-2147483648), 2147483647), (0, 32), ((-2147483648), 2147483647)], [], []), [])]
def cu_b1 : List qCu := []
def hc_b1 : List hCu := [(14, 3, ([], [(1, .inl (2, 1)), (200, .inl (0, 1)), (201, .inl (3, 0)), (202, .inl (3, 0))], ([(0, 0), ((-2147483648), 2147483647), (0, 32), ((-2147483648), 2147483647)], [], []), []))]
def E_b1 : qE := ([(0, 0), ((-2147483648), 2147483647), (0, 32), ((-2147483648), 2147483647)], [], [])
def C_b1 : qC := []
def lv_b1 : qK := [(1, .inl (2, 0)), (2, .inl (3, 0))]
def st_b1 : List qV := []
set_option maxRecDepth 1000000 in
theorem ch_b1 : chkHm P_b1 4 2 1000000 0 133 E_b1 C_b1 4 lv_b1 st_b1 po_b1 cu_b1 hc_b1 = true := by decide +kernel
def P_bz : qP := (qH, false, [], false, [], [], [])
def po_bz : List qPo := [([], some (.inl (2, 0)), ([(0, 0), ((-2147483648), 2147483647), (0, 32), (0, 0)], [], []), [])]
def cu_bz : List qCu := []
def hc_bz : List hCu := []
def E_bz : qE := ([(0, 0), ((-2147483648), 2147483647), (0, 32), (0, 0)], [], [])
def C_bz : qC := []
def lv_bz : qK := [(1, .inl (2, 0)), (2, .inl (3, 0))]
def st_bz : List qV := []
set_option maxRecDepth 1000000 in
theorem ch_bz : chkHm P_bz 4 2 1000000 0 133 E_bz C_bz 4 lv_bz st_bz po_bz cu_bz hc_bz = true := by decide +kernel
def P_b2 : qP := (qH, false, [], false, [], [], [4])
def po_b2 : List qPo := []
def cu_b2 : List qCu := []
def hc_b2 : List hCu := [(4, 0, ([], [(1, .inl (2, 0)), (2, .inl (3, 0))], ([(0, 0), ((-2147483648), 2147483647), (0, 32), ((-2147483648), 2147483647)], [], []), []))]
def E_b2 : qE := ([(0, 0), ((-2147483648), 2147483647), (0, 32), ((-2147483648), 2147483647)], [], [])
def C_b2 : qC := []
def lv_b2 : qK := [(1, .inl (2, 0))]
def st_b2 : List qV := [.inl (3, 0)]
set_option maxRecDepth 1000000 in
theorem ch_b2 : chkHm P_b2 4 2 1000000 0 133 E_b2 C_b2 16 lv_b2 st_b2 po_b2 cu_b2 hc_b2 = true := by decide +kernel
theorem mt_X12_bitsOf_14 {M : rM} (h : mT 133 = some M) : mTab M 14 = some (.isub, 1) := by
  have e : (mT 133).bind (fun M => mTab M 14) = some (.isub, 1) := by rfl
  rw [h] at e
  exact e
theorem mt_X12_bitsOf_15 {M : rM} (h : mT 133 = some M) : mTab M 15 = some (.iand, 1) := by
  have e : (mT 133).bind (fun M => mTab M 15) = some (.iand, 1) := by rfl
  rw [h] at e
  exact e
/-! by hand: how many bits an int has -/
def inL : List qR → List Int → Prop
  | [], [] => True
  | r :: rs, z :: zs => (r.1 ≤ z ∧ z ≤ r.2) ∧ inL rs zs
  | _, _ => False
theorem inL_len : ∀ {rs : List qR} {zs : List Int}, inL rs zs → rs.length = zs.length
  | [], [], _ => rfl
  | _ :: _, _ :: _, h => by simp [inL_len h.2]
  | [], _ :: _, h => h.elim
  | _ :: _, [], h => h.elim
theorem inL_at : ∀ {rs : List qR} {zs : List Int}, inL rs zs → ∀ (j : Nat) (r : qR), rs[j]? = some r → ∃ z, zs[j]? = some z ∧ r.1 ≤ z ∧ z ≤ r.2
  | [], [], _, j, r, h => by simp at h
  | a :: rs, b :: zs, g, j, r, h => by
    cases j with
    | zero => simp at h; subst h; exact ⟨b, rfl, g.1⟩
    | succ j => exact inL_at g.2 j r h
  | [], _ :: _, h, _, _, _ => h.elim
  | _ :: _, [], h, _, _, _ => h.elim
theorem eOK2_L {rs : List qR} {zs : List Int} {F : List (Nat × Nat × Int)} (h : inL rs zs) (h0 : zs[0]? = some 0) (hF : ∀ f ∈ F, ∃ x y, zs[f.1]? = some x ∧ zs[f.2.1]? = some y ∧ x + f.2.2 ≤ y) : eOK2 zs (rs, F, []) := ⟨inL_len h, h0, inL_at h, hF, fun _ g => absurd g List.not_mem_nil⟩
theorem hOK_nil {H : qT} {σ σ' : List Int} {aw : List rC} (h : hOK H σ [] aw) : hOK H σ' [] aw := by
  refine ⟨h.1, fun p q hq => ?_⟩
  obtain ⟨κ, K, h1, h2, h3, h4, h5⟩ := h.2 p q hq
  exact ⟨κ, K, h1, h2, h3, h4, fun j v hv => h5 j v hv⟩
theorem lvOK_nil {H : qT} {σ : List Int} {lw : rK} : lvOK H σ [] lw := fun i a h => by cases h
theorem lvOK_cons {H : qT} {σ : List Int} {lw : rK} {i : Nat} {a : qV} {t : qK} (h : ∃ v, lget lw i = some v ∧ vOK H σ a v) (g : lvOK H σ t lw) : lvOK H σ ((i, a) :: t) lw := by
  intro j b hb
  rw [kget_cons] at hb
  dsimp only at hb
  cases hq : Nat.beq i j with
  | true =>
    rw [hq, cond_true] at hb
    cases hb
    rw [← Nat.eq_of_beq_eq_true hq]
    exact h
  | false =>
    rw [hq, cond_false] at hb
    exact g j b hb
theorem vI {H : qT} {σ : List Int} {j : Nat} {o y z : Int} {n : Nat} (hj : σ[j]? = some y) (hz : z = y + o) (hr : inR z) (hn : n = eI z) : vOK H σ (.inl (j, o)) (.inl n) := ⟨z, ⟨y, hj, hz⟩, hr, by rw [hn]⟩
theorem vI_of {H : qT} {σ : List Int} {j : Nat} {o y : Int} {v : rV} (hj : σ[j]? = some y) (h : vOK H σ (.inl (j, o)) v) : inR (y + o) ∧ v = .inl (eI (y + o)) := by
  obtain ⟨z, ⟨w, h1, h2⟩, h3, h4⟩ := h
  rw [hj] at h1
  cases h1
  dsimp only at h2
  subst h2
  exact ⟨h3, h4⟩
theorem cN_and {x y : Nat} (hx : x < 4294967296) (hy : y < 4294967296) : cN (nI x &&& nI y) = x &&& y := by
  show ((Int32.ofNat x &&& Int32.ofNat y).toBitVec).toNat = _
  rw [Int32.toBitVec_and, BitVec.toNat_and]
  show (BitVec.ofNat 32 x).toNat &&& (BitVec.ofNat 32 y).toNat = _
  rw [BitVec.toNat_ofNat, BitVec.toNat_ofNat, Nat.mod_eq_of_lt hx, Nat.mod_eq_of_lt hy]
theorem cN_sub1 {x : Nat} (h1 : 1 ≤ x) (hx : x < 4294967296) : cN (nI x - nI 1) = x - 1 := by
  show ((Int32.ofNat x - Int32.ofNat 1).toBitVec).toNat = _
  rw [Int32.toBitVec_sub, BitVec.toNat_sub]
  show (2 ^ 32 - (BitVec.ofNat 32 1).toNat + (BitVec.ofNat 32 x).toNat) % 2 ^ 32 = _
  rw [BitVec.toNat_ofNat, BitVec.toNat_ofNat, Nat.mod_eq_of_lt hx]
  omega
theorem st_isub {L : List Nat} {M : rM} {pc : Nat} {lw : rK} {r : List rV} {D : rD} {c z x y : Nat} (hm : mTab M pc = some (.isub, 1)) (hx : x ≤ 4294967295) (hy : y ≤ 4294967295) : step tT L M [] pc lw (.inl y :: .inl x :: r) D c z = some (.inl (Nat.add pc 1, lw, .inl (cN (nI x - nI y)) :: r, D, c, z)) := by
  unfold step
  rw [hm]
  show aop 1 [] pc lw (.inl y :: .inl x :: r) D c z = _
  unfold aop
  dsimp only
  rw [nd_lt hx]
  dsimp only
  rw [nd_lt hy]
  dsimp only
  rw [show (Nat.ble 8 1 && Nat.beq y 0) = false from rfl, cond_false, fN_eq]
  rfl
def cnt : Nat → Nat → Nat
  | 0, _ => 0
  | f + 1, n => n % 2 + cnt f (n / 2)
theorem cnt_le : ∀ f n, cnt f n ≤ f := by
  intro f
  induction f with
  | zero => intro n; exact Nat.le_refl 0
  | succ f ih => intro n; have := ih (n / 2); show n % 2 + cnt f (n / 2) ≤ f + 1; omega
theorem cnt_and : ∀ f n, 0 < n → n < 2 ^ f → cnt f (n &&& (n - 1)) + 1 = cnt f n := by
  intro f
  induction f with
  | zero => intro n h1 h2; simp at h2; omega
  | succ f ih =>
    intro n h1 h2
    show (n &&& (n - 1)) % 2 + cnt f ((n &&& (n - 1)) / 2) + 1 = n % 2 + cnt f (n / 2)
    rw [Nat.and_div_two]
    have hm : (n &&& (n - 1)) % 2 = 0 := by
      rcases Nat.mod_two_eq_zero_or_one (n &&& (n - 1)) with h | h
      · exact h
      · have := Nat.and_mod_two_eq_one.mp h
        omega
    rw [hm]
    rcases Nat.mod_two_eq_zero_or_one n with h | h
    · have e : (n - 1) / 2 = n / 2 - 1 := by omega
      have h3 : n / 2 < 2 ^ f := by rw [Nat.pow_succ] at h2; omega
      have := ih (n / 2) (by omega) h3
      rw [e, h]
      omega
    · have e : (n - 1) / 2 = n / 2 := by omega
      rw [e, Nat.and_self, h]
      omega
theorem bits_step {L : List Nat} {M : rM} (hM : mT 133 = some M) {x : Int} (hx : inR x) {d : Nat} {k : Nat} (u : Nat) (n : Int) (lw : rK) (D : rD) (aw : List rC) (hk : cnt 32 u = k) (hu : u < 4294967296) (hn : 0 ≤ n) (hnk : n + k ≤ 32) (hr : rep D aw) (hh : hOK qH [0, x] [] aw) (h1 : lget lw 1 = some (.inl (eI n))) (h2 : lget lw 2 = some (.inl u))
    (hgo : ∀ (u' : Nat) (n' : Int) (lw' : rK) (D' : rD) (aw' : List rC), ag qH [] aw aw' → cnt 32 u' + 1 = k → u' < 4294967296 → 0 ≤ n' → n' + (k - 1 : Nat) ≤ 32 → rep D' aw' → hOK qH [0, x] [] aw' → lget lw' 1 = some (.inl (eI n')) → lget lw' 2 = some (.inl u') → 1 ≤ k → Ev L d M (4, lw', [], D', 0, 0) (fun v D2 => ∃ aw2, rep D2 aw2 ∧ ag qH [] aw aw2 ∧ ∃ o ∈ ct_1.2.2.2.2.2, ∃ τ1, xt [0, x] τ1 ∧ eOK2 τ1 o.2.2.1 ∧ hOK qH τ1 o.2.2.2 aw2 ∧ resOK qH τ1 o.2.1 v)) : Ev L d M (4, lw, [], D, 0, 0) (fun v D2 => ∃ aw2, rep D2 aw2 ∧ ag qH [] aw aw2 ∧ ∃ o ∈ ct_1.2.2.2.2.2, ∃ τ1, xt [0, x] τ1 ∧ eOK2 τ1 o.2.2.1 ∧ hOK qH τ1 o.2.2.2 aw2 ∧ resOK qH τ1 o.2.1 v) := by
  obtain ⟨s1, s2⟩ := sgn_in hu
  have hnr : inR n := ⟨by omega, by omega⟩
  by_cases hu0 : u = 0
  · subst hu0
    have hc := ch_bz
    unfold chkHm at hc
    rw [hM] at hc
    dsimp only at hc
    unfold chkH at hc
    rw [Bool.and_eq_true] at hc
    have hE : eOK2 [0, x, n, 0] E_bz := eOK2_L ⟨⟨by decide, by decide⟩, hx, ⟨hn, by dsimp only; omega⟩, ⟨by decide, by decide⟩, trivial⟩ rfl all_nil
    have key := entryH (P := P_bz) (Q := QB) (L := L) (aw0 := aw) (aw := aw) (τ0 := [0, x, n, 0]) (σ := [0, x, n, 0]) (dep := 0) (δ := d) (cn := 0) (z := 0) (lw := lw) (sw := []) (D := D) qH_w all_nil (fun g => by cases g) rfl rfl rfl hc.2 hc.1 (Post := fun v D2 => ∃ aw2, rep D2 aw2 ∧ ag qH [] aw aw2 ∧ ∃ o ∈ ct_1.2.2.2.2.2, ∃ τ1, xt [0, x] τ1 ∧ eOK2 τ1 o.2.2.1 ∧ hOK qH τ1 o.2.2.2 aw2 ∧ resOK qH τ1 o.2.1 v) ?_ ⟨Nat.zero_le _, Nat.zero_le _⟩ all_nil (xt_refl _) ⟨hE, hOK_nil hh, lvOK_cons ⟨_, h1, vI (y := n) rfl (by omega) hnr rfl⟩ (lvOK_cons ⟨_, h2, vI (y := 0) rfl (Int.add_zero _).symm ⟨by decide, by decide⟩ (by decide)⟩ lvOK_nil), trivial, hr⟩ (ag_refl _ _ _)
    · rw [Nat.zero_add] at key
      exact key
    · intro o ho τ1 aw' w D' x1 a1 a2 a3 a4 a5
      have ho := List.mem_singleton.mp ho
      subst ho
      refine ⟨aw', a1, a2, _, List.mem_singleton.mpr rfl, [0, x, n], ?_, eOK2_L ⟨⟨by decide, by decide⟩, hx, ⟨hn, by dsimp only; omega⟩, trivial⟩ rfl all_nil, hOK_nil a4, ?_⟩
      · intro j y hj
        match j, hj with
        | 0, hj => exact hj
        | 1, hj => exact hj
      · obtain ⟨v, v1, v2⟩ := a5
        obtain ⟨g1, g2⟩ := vI_of (x1 2 n rfl) v2
        exact ⟨v, v1, by rw [g2]; exact vI (y := n) rfl rfl g1 rfl⟩
  have hcn := cnt_and 32 u (by omega) (by omega)
  have hc := ch_b1
  unfold chkHm at hc
  rw [hM] at hc
  dsimp only at hc
  unfold chkH at hc
  rw [Bool.and_eq_true] at hc
  have hE : eOK2 [0, x, n, sgn u] E_b1 := eOK2_L ⟨⟨by decide, by decide⟩, hx, ⟨hn, by dsimp only; omega⟩, s1, trivial⟩ rfl all_nil
  have key := entryH (P := P_b1) (Q := QB) (L := L) (aw0 := aw) (aw := aw) (τ0 := [0, x, n, sgn u]) (σ := [0, x, n, sgn u]) (dep := 0) (δ := d) (cn := 0) (z := 0) (lw := lw) (sw := []) (D := D) qH_w all_nil (fun g => by cases g) rfl rfl rfl hc.2 hc.1 (Post := fun v D2 => ∃ aw2, rep D2 aw2 ∧ ag qH [] aw aw2 ∧ ∃ o ∈ ct_1.2.2.2.2.2, ∃ τ1, xt [0, x] τ1 ∧ eOK2 τ1 o.2.2.1 ∧ hOK qH τ1 o.2.2.2 aw2 ∧ resOK qH τ1 o.2.1 v) ?_ ⟨Nat.zero_le _, Nat.zero_le _⟩ ?_ (xt_refl _) ⟨hE, hOK_nil hh, lvOK_cons ⟨_, h1, vI (y := n) rfl (by omega) hnr rfl⟩ (lvOK_cons ⟨_, h2, vI (y := sgn u) rfl (Int.add_zero _).symm s1 s2.symm⟩ lvOK_nil), trivial, hr⟩ (ag_refl _ _ _)
  · rw [Nat.zero_add] at key
    exact key
  · intro o ho τ1 aw' w D' x1 a1 a2 a3 a4 a5
    have ho := List.mem_singleton.mp ho
    subst ho
    refine ⟨aw', a1, a2, _, List.mem_singleton.mpr rfl, [0, x, n], ?_, eOK2_L ⟨⟨by decide, by decide⟩, hx, ⟨hn, by dsimp only; omega⟩, trivial⟩ rfl all_nil, hOK_nil a4, ?_⟩
    · intro j y hj
      match j, hj with
      | 0, hj => exact hj
      | 1, hj => exact hj
    · obtain ⟨v, v1, v2⟩ := a5
      obtain ⟨g1, g2⟩ := vI_of (x1 2 n rfl) v2
      exact ⟨v, v1, by rw [g2]; exact vI (y := n) rfl rfl g1 rfl⟩
  · intro c hcc τ aw' lw' sw' D' x1 a1 a2 a3 a4 a5 a6
    have hcc := List.mem_singleton.mp hcc
    subst hcc
    rw [Nat.zero_add]
    match sw', a6 with
    | [p0, p1, p2], _ =>
      obtain ⟨v1, w1, y1⟩ := a5 1 _ rfl
      obtain ⟨v2, w2, y2⟩ := a5 200 _ rfl
      obtain ⟨v3, w3, y3⟩ := a5 201 _ rfl
      obtain ⟨v4, w4, y4⟩ := a5 202 _ rfl
      have w1 : lget lw' 1 = some v1 := w1
      have w2 : some p0 = some v2 := w2
      have w3 : some p1 = some v3 := w3
      have w4 : some p2 = some v4 := w4
      cases w2
      cases w3
      cases w4
      obtain ⟨g1, g2⟩ := vI_of (x1 2 n rfl) y1
      obtain ⟨g3, g4⟩ := vI_of (x1 0 0 rfl) y2
      obtain ⟨g5, g6⟩ := vI_of (x1 3 (sgn u) rfl) y3
      obtain ⟨g7, g8⟩ := vI_of (x1 3 (sgn u) rfl) y4
      rw [Int.add_zero, s2] at g6 g8
      rw [g2] at w1
      rw [g6, g8, g4, show eI (0 + 1) = 1 by decide]
      have ew : cN (nI u - nI 1) = u - 1 := cN_sub1 (by omega) hu
      have eu : cN (nI u &&& nI (u - 1)) = u &&& (u - 1) := cN_and hu (by omega)
      refine Ev_step (st_isub (mt_X12_bitsOf_14 hM) (by omega) (by decide)) ?_
      rw [ew]
      refine Ev_step (st_iand (mt_X12_bitsOf_15 hM) (by omega) (by omega)) ?_
      rw [eu]
      have hu' : u &&& (u - 1) < 4294967296 := Nat.lt_of_le_of_lt Nat.and_le_left hu
      obtain ⟨t1, t2⟩ := sgn_in hu'
      have hcb := ch_b2
      unfold chkHm at hcb
      rw [hM] at hcb
      dsimp only at hcb
      unfold chkH at hcb
      rw [Bool.and_eq_true] at hcb
      have hE2 : eOK2 [0, x, n + 1, sgn (u &&& (u - 1))] E_b2 := eOK2_L ⟨⟨by decide, by decide⟩, hx, ⟨by dsimp only; omega, by dsimp only; omega⟩, t1, trivial⟩ rfl all_nil
      have key2 := entryH (P := P_b2) (Q := QB) (L := L) (aw0 := aw) (aw := aw') (τ0 := [0, x, n + 1, sgn (u &&& (u - 1))]) (σ := [0, x, n + 1, sgn (u &&& (u - 1))]) (dep := 0) (δ := d) (cn := 0) (z := 0) (lw := lw') (sw := [.inl (u &&& (u - 1))]) (D := D') qH_w all_nil (fun g => by cases g) rfl rfl rfl hcb.2 hcb.1 (Post := fun v D2 => ∃ aw2, rep D2 aw2 ∧ ag qH [] aw aw2 ∧ ∃ o ∈ ct_1.2.2.2.2.2, ∃ τ1, xt [0, x] τ1 ∧ eOK2 τ1 o.2.2.1 ∧ hOK qH τ1 o.2.2.2 aw2 ∧ resOK qH τ1 o.2.1 v) all_nil ⟨Nat.zero_le _, Nat.zero_le _⟩ ?_ (xt_refl _) ⟨hE2, hOK_nil a4, lvOK_cons ⟨_, w1, vI (y := n + 1) rfl (Int.add_zero _).symm g1 rfl⟩ lvOK_nil, ⟨vI (y := sgn (u &&& (u - 1))) rfl (Int.add_zero _).symm t1 t2.symm, trivial⟩, a1⟩ a2
      · rw [Nat.zero_add] at key2
        exact key2
      · intro c2 hcc2 τ2 aw2 lw2 sw2 D2 x2 b1 b2 b3 b4 b5 b6
        have hcc2 := List.mem_singleton.mp hcc2
        subst hcc2
        rw [Nat.zero_add]
        match sw2, b6 with
        | [], _ =>
          obtain ⟨q1, r1, r2⟩ := b5 1 _ rfl
          obtain ⟨q2, r3, r4⟩ := b5 2 _ rfl
          have r1 : lget lw2 1 = some q1 := r1
          have r3 : lget lw2 2 = some q2 := r3
          obtain ⟨i1, i2⟩ := vI_of (x2 2 (n + 1) rfl) r2
          obtain ⟨i3, i4⟩ := vI_of (x2 3 (sgn (u &&& (u - 1))) rfl) r4
          rw [Int.add_zero] at i2 i4
          rw [t2] at i4
          rw [i2] at r1
          rw [i4] at r3
          exact hgo (u &&& (u - 1)) (n + 1) lw2 D2 aw2 b2 (by omega) hu' (by omega) (by omega) b1 (hOK_nil b4) r1 r3 (by omega)
theorem bits_loop {L : List Nat} {M : rM} (hM : mT 133 = some M) {x : Int} (hx : inR x) {d : Nat} : ∀ (k u : Nat) (n : Int) (lw : rK) (D : rD) (aw : List rC), cnt 32 u = k → u < 4294967296 → 0 ≤ n → n + k ≤ 32 → rep D aw → hOK qH [0, x] [] aw → lget lw 1 = some (.inl (eI n)) → lget lw 2 = some (.inl u) → Ev L d M (4, lw, [], D, 0, 0) (fun v D' => ∃ aw', rep D' aw' ∧ ag qH [] aw aw' ∧ ∃ o ∈ ct_1.2.2.2.2.2, ∃ τ1, xt [0, x] τ1 ∧ eOK2 τ1 o.2.2.1 ∧ hOK qH τ1 o.2.2.2 aw' ∧ resOK qH τ1 o.2.1 v) := by
  intro k
  induction k with
  | zero =>
    intro u n lw D aw hk hu hn hnk hr hh h1 h2
    exact bits_step hM hx u n lw D aw hk hu hn hnk hr hh h1 h2 (fun _ _ _ _ _ _ _ _ _ _ _ _ _ _ h => absurd h (by decide))
  | succ k ih =>
    intro u n lw D aw hk hu hn hnk hr hh h1 h2
    exact bits_step hM hx u n lw D aw hk hu hn hnk hr hh h1 h2 (fun u' n' lw' D' aw' hag g1 g2 g3 g4 g5 g6 g7 g8 _ => by
      refine Ev_mono (ih u' n' lw' D' aw' (by omega) g2 g3 g4 g5 g6 g7 g8) ?_
      rintro v D2 ⟨aw2, b1, b2, b3⟩
      exact ⟨aw2, b1, ag_trans hag b2, b3⟩)
theorem co_1 {L : List Nat} : CtOK qH QB L ct_1 := by
  intro M d τ Aw D aw hM hd hr he hh hlv _
  have hM : mT 133 = some M := hM
  have h0 := he.2.1
  obtain ⟨x, hx1, hx2⟩ := he.2.2.1 1 _ rfl
  have hx : inR x := hx2
  have hc := ch_b0
  unfold chkHm at hc
  rw [hM] at hc
  dsimp only at hc
  unfold chkH at hc
  rw [Bool.and_eq_true] at hc
  have key := entryH (P := P_b0) (Q := QB) (L := L) (aw0 := aw) (aw := aw) (τ0 := τ) (σ := τ) (dep := 0) (δ := d) (cn := 0) (z := 0) (lw := argsL Aw 0) (sw := []) (D := D) qH_w all_nil (fun g => by cases g) rfl he.1.symm h0 hc.2 hc.1 (Post := fun v D' => ∃ aw', rep D' aw' ∧ ag qH [] aw aw' ∧ ∃ o ∈ ct_1.2.2.2.2.2, ∃ τ1, xt τ τ1 ∧ eOK2 τ1 o.2.2.1 ∧ hOK qH τ1 o.2.2.2 aw' ∧ resOK qH τ1 o.2.1 v) all_nil ⟨Nat.zero_le _, Nat.zero_le _⟩ ?_ (xt_refl _) ⟨he, hh, hlv, trivial, hr⟩ (ag_refl _ _ _)
  · rw [Nat.zero_add] at key
    exact key
  · intro c2 hcc2 τ2 aw2 lw2 sw2 D2 x2 b1 b2 b3 b4 b5 b6
    have hcc2 := List.mem_singleton.mp hcc2
    subst hcc2
    rw [Nat.zero_add]
    match sw2, b6 with
    | [], _ =>
      obtain ⟨q1, r1, r2⟩ := b5 1 _ rfl
      obtain ⟨q2, r3, r4⟩ := b5 2 _ rfl
      have r1 : lget lw2 1 = some q1 := r1
      have r3 : lget lw2 2 = some q2 := r3
      obtain ⟨i1, i2⟩ := vI_of (x2 0 0 h0) r2
      obtain ⟨i3, i4⟩ := vI_of (x2 1 x hx1) r4
      rw [Int.add_zero] at i2 i4
      rw [i2] at r1
      rw [i4] at r3
      refine Ev_mono (bits_loop hM hx (d := d) (cnt 32 (eI x)) (eI x) 0 lw2 D2 aw2 rfl (eI_lt x) (Int.le_refl 0) (by have := cnt_le 32 (eI x); omega) b1 (hOK_nil b4) r1 r3) ?_
      rintro v D3 ⟨aw3, c1, c2, o, c3, τ1, c4, c5, c6, c7⟩
      refine ⟨aw3, c1, ag_trans b2 c2, o, c3, τ1, ?_, c5, c6, c7⟩
      intro j y hj
      have hlt := (List.getElem?_eq_some_iff.mp hj).1
      have hl2 : τ.length = 2 := he.1.symm
      have : j = 0 ∨ j = 1 := by omega
      rcases this with e | e
      · subst e
        rw [h0] at hj
        cases hj
        exact c4 0 0 rfl
      · subst e
        rw [hx1] at hj
        cases hj
        exact c4 1 x rfl
