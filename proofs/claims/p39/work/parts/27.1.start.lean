/-! what stands at the loop's head -/
def x0 : rX := (0, [(0, .inr (.inr (some 0)))], [], (0, []), 0, 0)
noncomputable def slB (s : qD) (v : rV) : Bool := match s with
  | .inl r => (match v with
    | .inl n => Nat.blt n 4294967296 && (zle r.1 (sgn n) && zle (sgn n) r.2)
    | _ => false)
  | .inr none => (match v with
    | .inr (.inl n) => Nat.blt n 18446744073709551616
    | _ => false)
  | .inr (some κ) => (match v with
    | .inr (.inr (some (p + 1))) => (match rget qH.2 p with
      | some κ' => Nat.beq κ' κ
      | none => false)
    | _ => false)
theorem blt_lt {a b : Nat} (h : Nat.blt a b = true) : a < b := Nat.le_of_ble_eq_true h
theorem slB_ok {s : qD} {v : rV} (h : slB s v = true) : sOK qH s v := by
  unfold slB at h
  unfold sOK
  split at h
  · split at h
    · next r n =>
      rw [Bool.and_eq_true, Bool.and_eq_true, zle_iff, zle_iff] at h
      obtain ⟨g1, g2⟩ := sgn_in (blt_lt h.1)
      exact ⟨sgn n, by rw [g2], g1, h.2.1, h.2.2⟩
    · cases h
  · split at h
    · next n => exact ⟨n, rfl, blt_lt h⟩
    · cases h
  · split at h
    · next κ p =>
      split at h
      · next κ' hk =>
        rw [rget_eq] at hk
        exact ⟨p, rfl, by rw [hk, Nat.eq_of_beq_eq_true h]⟩
      · cases h
    · cases h
noncomputable def slsB (K : qKd) (l : List rV) : Nat → Bool := List.rec (motive := fun _ => Nat → Bool) (fun _ => true) (fun v _ ih j => (match sdAt K j with
  | some s => slB s v
  | none => false) && ih (Nat.succ j)) l
theorem slsB_ok {K : qKd} : ∀ (l : List rV) (j : Nat), slsB K l j = true → ∀ (i : Nat) (v : rV), l[i]? = some v → ∃ s, sdAt K (j + i) = some s ∧ sOK qH s v
  | [], _, _, i, v, h => by cases h
  | w :: l, j, h, i, v, hv => by
    have h : ((match sdAt K j with
      | some s => slB s w
      | none => false) && slsB K l (Nat.succ j)) = true := h
    rw [Bool.and_eq_true] at h
    cases i with
    | zero =>
      cases hv
      split at h
      · next s hs => exact ⟨s, hs, slB_ok h.1⟩
      · cases h.1
    | succ i =>
      have := slsB_ok l (Nat.succ j) h.2 i v hv
      rw [show j + (i + 1) = Nat.succ j + i by omega]
      exact this
noncomputable def cellsB (aw : List rC) : List Nat → Bool := List.rec (motive := fun _ => List Nat → Bool) (fun ks => nilB ks) (fun q _ ih ks => match ks with
  | [] => false
  | κ :: ks => (match rget qH.1 κ with
    | some K => Nat.beq q.1 K.1 && (Nat.beq q.2.length K.2.1 && (slsB K q.2 0 && ih ks))
    | none => false)) aw
theorem cellsB_ok : ∀ (aw : List rC) (ks : List Nat), cellsB aw ks = true → aw.length = ks.length ∧ ∀ (p : Nat) (q : rC), aw[p]? = some q → ∃ (κ : Nat) (K : qKd), ks[p]? = some κ ∧ qH.1[κ]? = some K ∧ q.1 = K.1 ∧ q.2.length = K.2.1 ∧ ∀ (j : Nat) (v : rV), q.2[j]? = some v → ∃ s, sdAt K j = some s ∧ sOK qH s v
  | [], ks, h => by
    have h : nilB ks = true := h
    unfold nilB at h
    split at h
    · exact ⟨rfl, fun p q hq => by cases hq⟩
    · cases h
  | q :: aw, [], h => by cases h
  | q :: aw, κ :: ks, h => by
    have h : (match rget qH.1 κ with
      | some K => Nat.beq q.1 K.1 && (Nat.beq q.2.length K.2.1 && (slsB K q.2 0 && cellsB aw ks))
      | none => false) = true := h
    split at h
    · next K hK =>
      rw [rget_eq] at hK
      rw [Bool.and_eq_true, Bool.and_eq_true, Bool.and_eq_true] at h
      obtain ⟨h1, h2, h3, h4⟩ := h
      obtain ⟨i1, i2⟩ := cellsB_ok aw ks h4
      refine ⟨by rw [List.length_cons, List.length_cons, i1], fun p q' hq => ?_⟩
      cases p with
      | zero =>
        cases hq
        exact ⟨κ, K, rfl, hK, Nat.eq_of_beq_eq_true h1, Nat.eq_of_beq_eq_true h2, fun j v hv => by
          have := slsB_ok q.2 0 h3 j v hv
          rw [Nat.zero_add] at this
          exact this⟩
      | succ p => exact i2 p q' hq
    · cases h
noncomputable def isN (o : Option rV) : Bool := match o with
  | some (.inl k) => Nat.beq k 0
  | _ => false
theorem isN_ok {o : Option rV} (h : isN o = true) : o = some (.inl 0) := by
  unfold isN at h
  split at h
  · rw [Nat.eq_of_beq_eq_true h]
  · cases h
noncomputable def isK (κ : Nat) (o : Option rV) : Bool := match o with
  | some (.inr (.inr (some (p + 1)))) => (match rget qH.2 p with
    | some κ' => Nat.beq κ' κ
    | none => false)
  | _ => false
theorem isK_ok {κ : Nat} {o : Option rV} (h : isK κ o = true) {σ : List Int} : ∃ v, o = some v ∧ vOK qH σ (.inr (.inr (some κ))) v := by
  unfold isK at h
  split at h
  · next p =>
    split at h
    · next κ' hk =>
      rw [rget_eq] at hk
      exact ⟨_, rfl, p, rfl, by rw [hk, Nat.eq_of_beq_eq_true h]⟩
    · cases h
  · cases h
noncomputable def isR0 (o : Option rV) : Bool := match o with
  | some (.inr (.inr (some 0))) => true
  | _ => false
theorem isR0_ok {o : Option rV} (h : isR0 o = true) : o = some (.inr (.inr (some 0))) := by
  unfold isR0 at h
  split at h
  · rfl
  · cases h
noncomputable def startX (x : rX) : Bool := Nat.beq x.1 18 && (nilB x.2.2.1 && (full x.2.2.2.1.2 && (Nat.beq x.2.2.2.1.1 x.2.2.2.1.2.flatten.length && (cellsB x.2.2.2.1.2.flatten qH.2 && (Nat.ble x.2.2.2.2.1 (mC mL) && (Nat.ble x.2.2.2.2.2 (mS mL) && (isR0 (lget x.2.1 0) && (isK 0 (lget x.2.1 1) && (isK 53 (lget x.2.1 2) && (isN (lget x.2.1 3) && (lall (fun e => isN (sl x.2.2.2.1.2.flatten e.1 e.2)) [(0, 13), (211, 47), (211, 48), (211, 62), (224, 0), (224, 1), (225, 0), (225, 1)])))))))))))
noncomputable def startB : Bool := match pre 100 x0 with
  | some x => startX x
  | none => false
set_option maxHeartbeats 1000000 in
theorem start_ok (h : startB = true) {L : List Nat} (hl : L.length ≤ 3072) (hv : ∀ v ∈ L, v < 4294967296) {P : Option rV → rD → Prop} (hP : ∀ D', P (some (.inl 1)) D') : Ev L 61 mL x0 P := by
  unfold startB at h
  split at h
  · next x hx =>
    obtain ⟨pc, lw, sw, D, c, z⟩ := x
    unfold startX at h
    dsimp only at h
    simp only [Bool.and_eq_true] at h
    obtain ⟨h1, h2, h3, h4, h5, h6, h7, h8, h9, h10, h11, h12⟩ := h
    have hpc := Nat.eq_of_beq_eq_true h1
    subst hpc
    have hsw : sw = [] := by
      unfold nilB at h2
      split at h2
      · rfl
      · cases h2
    subst hsw
    have hrep := rep_flat h3 (Nat.eq_of_beq_eq_true h4)
    obtain ⟨k1, k2⟩ := cellsB_ok _ _ h5
    have hh : hOK qH [0] [] D.2.flatten := ⟨k1, k2⟩
    have hs : ∀ e ∈ [(0, 13), (211, 47), (211, 48), (211, 62), (224, 0), (224, 1), (225, 0), (225, 1)], sl D.2.flatten e.1 e.2 = some (.inl 0) := fun e he => isN_ok (lall_iff.mp h12 e he)
    have hz : vOK qH [0, (L.length : Int), -1, 0, 0, 0, 0] (.inl (4, 0)) (.inl 0) := vN ⟨0, rfl, rfl⟩ (by decide)
    have hz5 : vOK qH [0, (L.length : Int), -1, 0, 0, 0, 0] (.inl (5, 0)) (.inl 0) := vN ⟨0, rfl, rfl⟩ (by decide)
    have hz6 : vOK qH [0, (L.length : Int), -1, 0, 0, 0, 0] (.inl (6, 0)) (.inl 0) := vN ⟨0, rfl, rfl⟩ (by decide)
    refine pre_ok 100 x0 _ hx ?_
    refine law_loop (δ := 7) hl hv ⟨Nat.le_of_ble_eq_true h6, Nat.le_of_ble_eq_true h7⟩ hP 3072 0 [0, (L.length : Int), -1, 0, 0, 0, 0] 0 lw D D.2.flatten (by decide) rfl rfl (by decide) ?_ ?_ ?_ hrep ?_
    · exact eOK2_L ⟨⟨by decide, by decide⟩, ⟨by dsimp only; omega, by dsimp only; omega⟩, ⟨by decide, by decide⟩, ⟨by decide, by decide⟩, ⟨by decide, by decide⟩, ⟨by decide, by decide⟩, ⟨by decide, by decide⟩, trivial⟩ rfl (all_cons ⟨_, _, rfl, rfl, by decide⟩ all_nil)
    · exact hOK_mk hh (all_cons ⟨_, hs (0, 13) (List.mem_of_getElem? (i := 0) rfl), hz⟩ (all_cons ⟨_, hs (211, 47) (List.mem_of_getElem? (i := 1) rfl), hz5⟩ (all_cons ⟨_, hs (211, 48) (List.mem_of_getElem? (i := 2) rfl), hz6⟩ (all_cons ⟨_, hs (211, 62) (List.mem_of_getElem? (i := 3) rfl), hz⟩ all_nil))))
    · exact lvOK_cons ⟨_, isR0_ok h8, rfl⟩ (lvOK_cons (isK_ok h9) (lvOK_cons (isK_ok h10) (lvOK_cons ⟨_, isN_ok h11, vN ⟨0, rfl, rfl⟩ (by decide)⟩ lvOK_nil)))
    · intro r hr
      have hf : sl D.2.flatten pFrom r = some (.inl 0) ∧ sl D.2.flatten pTo r = some (.inl 0) := by
        match r, hr with
        | 0, _ => exact ⟨hs (224, 0) (List.mem_of_getElem? (i := 4) rfl), hs (225, 0) (List.mem_of_getElem? (i := 6) rfl)⟩
        | 1, _ => exact ⟨hs (224, 1) (List.mem_of_getElem? (i := 5) rfl), hs (225, 1) (List.mem_of_getElem? (i := 7) rfl)⟩
      exact ⟨0, 0, hf.1, hf.2, Nat.le_refl _, Or.inl rfl, by omega, rfl⟩
  · cases h
set_option maxRecDepth 1000000 in
theorem start_B : startB = true := by decide +kernel
