/-! the law's loop, to its end -/
theorem lk_all : ∀ k, k ≤ 40 → ∃ ks, lawC k ks = true
  | 0, _ => ⟨_, lk_0⟩
  | 1, _ => ⟨_, lk_1⟩
  | 2, _ => ⟨_, lk_2⟩
  | 3, _ => ⟨_, lk_3⟩
  | 4, _ => ⟨_, lk_4⟩
  | 5, _ => ⟨_, lk_5⟩
  | 6, _ => ⟨_, lk_6⟩
  | 7, _ => ⟨_, lk_7⟩
  | 8, _ => ⟨_, lk_8⟩
  | 9, _ => ⟨_, lk_9⟩
  | 10, _ => ⟨_, lk_10⟩
  | 11, _ => ⟨_, lk_11⟩
  | 12, _ => ⟨_, lk_12⟩
  | 13, _ => ⟨_, lk_13⟩
  | 14, _ => ⟨_, lk_14⟩
  | 15, _ => ⟨_, lk_15⟩
  | 16, _ => ⟨_, lk_16⟩
  | 17, _ => ⟨_, lk_17⟩
  | 18, _ => ⟨_, lk_18⟩
  | 19, _ => ⟨_, lk_19⟩
  | 20, _ => ⟨_, lk_20⟩
  | 21, _ => ⟨_, lk_21⟩
  | 22, _ => ⟨_, lk_22⟩
  | 23, _ => ⟨_, lk_23⟩
  | 24, _ => ⟨_, lk_24⟩
  | 25, _ => ⟨_, lk_25⟩
  | 26, _ => ⟨_, lk_26⟩
  | 27, _ => ⟨_, lk_27⟩
  | 28, _ => ⟨_, lk_28⟩
  | 29, _ => ⟨_, lk_29⟩
  | 30, _ => ⟨_, lk_30⟩
  | 31, _ => ⟨_, lk_31⟩
  | 32, _ => ⟨_, lk_32⟩
  | 33, _ => ⟨_, lk_33⟩
  | 34, _ => ⟨_, lk_34⟩
  | 35, _ => ⟨_, lk_35⟩
  | 36, _ => ⟨_, lk_36⟩
  | 37, _ => ⟨_, lk_37⟩
  | 38, _ => ⟨_, lk_38⟩
  | 39, _ => ⟨_, lk_39⟩
  | 40, _ => ⟨_, lk_40⟩
  | k + 41, h => absurd h (by omega)
theorem law_loop {L : List Nat} (hl : L.length ≤ 3072) (hv : ∀ v ∈ L, v < 4294967296) {c z δ : Nat} {Post : Option rV → rD → Prop} (hcz : c ≤ mC mL ∧ z ≤ mS mL) (hP : ∀ D', Post (some (.inl 1)) D') : ∀ (n k : Nat) (τ : List Int) (b : Int) (lw : rK) (D : rD) (aw : List rC), k ≤ 40 → τ[1]? = some (L.length : Int) → τ[3]? = some b → 3072 - b ≤ (n : Int) → eOK2 τ (lawP k).2.2.1 → hOK qH τ (lawP k).2.2.2 aw → lvOK qH τ (lawP k).2.1 lw → rep D aw → QB aw → Ev L (54 + δ) mL (18, lw, [], D, c, z) Post := by
  have nxt : ∀ {k : Nat} {τ' : List Int} {b : Int}, eOK2 τ' (lawP k).2.2.1 → τ'[2]? = some b → ∃ b', τ'[3]? = some b' ∧ b + 1 ≤ b' ∧ b' ≤ 3072 := by
    intro k τ' b e3 e2
    obtain ⟨x, y, h1, h2, h3⟩ := e3.2.2.2.1 (2, 3, 1) (List.mem_singleton.mpr rfl)
    obtain ⟨y', g1, g2, g3⟩ := e3.2.2.1 3 _ rfl
    have h1 : τ'[2]? = some x := h1
    have h2 : τ'[3]? = some y := h2
    rw [e2] at h1
    cases h1
    rw [h2] at g1
    cases g1
    exact ⟨y, h2, h3, g3⟩
  intro n
  induction n with
  | zero =>
    intro k τ b lw D aw hk h1 h3 hn he hh hlv hr hq
    obtain ⟨ks, hc⟩ := lk_all k hk
    refine law_ok hc hcz he hh hlv hr hq (fun _ => ⟨h1, hl, hv⟩) hP h3 (fun k' hk' τ' lw' D' aw' e1 e2 e3 e4 e5 e6 e7 => ?_)
    obtain ⟨b', b1, b2, b3⟩ := nxt e3 e2
    omega
  | succ n ih =>
    intro k τ b lw D aw hk h1 h3 hn he hh hlv hr hq
    obtain ⟨ks, hc⟩ := lk_all k hk
    refine law_ok hc hcz he hh hlv hr hq (fun _ => ⟨h1, hl, hv⟩) hP h3 (fun k' hk' τ' lw' D' aw' e1 e2 e3 e4 e5 e6 e7 => ?_)
    obtain ⟨b', b1, b2, b3⟩ := nxt e3 e2
    exact ih k' τ' b' lw' D' aw' hk' e1 b1 (by omega) e3 e4 e5 e6 e7
