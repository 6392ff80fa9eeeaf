/-! by hand: a unit, whole -/
theorem RS_37 {r : Nat} {aw aw' : List rC} {a e s t c p p' w u : Nat} (h : RS r aw a e s t c p w u) (hh : hOK qH [0] [] aw') (ha : ag qH [(53, 37), (75, 9999), (76, 9999)] aw aw') (h37 : sl aw' 211 37 = some (.inl p')) : RS r aw' a e s t c p' w u := by
  obtain ⟨g0, k3, k4, k6, k7, k8, k34, k35, k36, k37, k38⟩ := h
  have key : ∀ j, mdin [(53, 37), (75, 9999), (76, 9999)] 53 j = false → sl aw' 211 j = sl aw 211 j := fun j hj => ha.2 211 53 j (by decide +kernel) hj
  exact ⟨hh, by rw [key 3 rfl]; exact k3, by rw [key 4 rfl]; exact k4, by rw [key 6 rfl]; exact k6, by rw [key 7 rfl]; exact k7, by rw [key 8 rfl]; exact k8, by rw [key 34 rfl]; exact k34, by rw [key 35 rfl]; exact k35, by rw [key 36 rfl]; exact k36, h37, by rw [key 38 rfl]; exact k38⟩
theorem RS_35 {r : Nat} {aw aw' : List rC} {a e s t c c' p w u : Nat} (h : RS r aw a e s t c p w u) (hh : hOK qH [0] [] aw') (ha : ag qH [(53, 35), (73, 9999), (74, 9999)] aw aw') (h35 : sl aw' 211 35 = some (.inl c')) : RS r aw' a e s t c' p w u := by
  obtain ⟨g0, k3, k4, k6, k7, k8, k34, k35, k36, k37, k38⟩ := h
  have key : ∀ j, mdin [(53, 35), (73, 9999), (74, 9999)] 53 j = false → sl aw' 211 j = sl aw 211 j := fun j hj => ha.2 211 53 j (by decide +kernel) hj
  exact ⟨hh, by rw [key 3 rfl]; exact k3, by rw [key 4 rfl]; exact k4, by rw [key 6 rfl]; exact k6, by rw [key 7 rfl]; exact k7, by rw [key 8 rfl]; exact k8, by rw [key 34 rfl]; exact k34, h35, by rw [key 36 rfl]; exact k36, by rw [key 37 rfl]; exact k37, by rw [key 38 rfl]; exact k38⟩
theorem ua_ok0 {L : List Nat} {M : rM} (hM : mT 260 = some M) {d : Nat} {D : rD} {aw : List rC} {lw : rK} {a e s t c p w u : Nat} (hr : rep D aw) (hS : RS 0 aw a e s t c p w u) (hT : tokOK a e s t) (hp1 : 1 ≤ p) (hp2 : p ≤ 40) (hc1 : 0 ≤ c) (hc2 : c ≤ 290) (hw : w ≤ 6) (hu : u ≤ 30) (h0 : ∃ v, lget lw 0 = some v ∧ vOK qH [] (.inr (.inr (some 53))) v) : Ev L d M (238, lw, [], D, 0, 0) (fun v D' => ∃ aw', rep D' aw' ∧ ag qH [(53, 36)] aw aw' ∧ v = some (.inl 1) ∧ RS 0 aw' a e s t c p (w + 1) u) := by
  obtain ⟨hT1, hT2, hT3⟩ := hT
  rcases hT1 with ⟨t0, t1, t2⟩ | ⟨t0, t1, t2⟩
  · subst t0
    refine runH (P := P_ua00) (Q := QB) qH_w hM ch_ua00 all_nil (aw0 := aw) (aw := aw) (fun g => by cases g) rfl (τ0 := [0, (a : Int), (e : Int), (s : Int), (c : Int), (p : Int), (w : Int), (u : Int)]) (σ := [0, (a : Int), (e : Int), (s : Int), (c : Int), (p : Int), (w : Int), (u : Int)]) rfl rfl (Nat.zero_le _) ⟨Nat.zero_le _, Nat.zero_le _⟩ (xt_refl _) ⟨eOK2_L ⟨⟨by decide, by decide⟩, ⟨by dsimp only; omega, by dsimp only; omega⟩, ⟨by dsimp only; omega, by dsimp only; omega⟩, ⟨by dsimp only; omega, by dsimp only; omega⟩, ⟨by dsimp only; omega, by dsimp only; omega⟩, ⟨by dsimp only; omega, by dsimp only; omega⟩, ⟨by dsimp only; omega, by dsimp only; omega⟩, ⟨by dsimp only; omega, by dsimp only; omega⟩, trivial⟩ rfl (all_cons ⟨(a : Int), (e : Int), rfl, rfl, by dsimp only; omega⟩ (all_cons ⟨(e : Int), (s : Int), rfl, rfl, by dsimp only; omega⟩ all_nil)), RS_C hS ⟨by omega, by omega, by omega, by omega, by omega, by omega, by omega, by omega, by omega⟩ ⟨(s : Int), rfl, Int.add_zero _⟩ ⟨0, rfl, rfl⟩ ⟨(a : Int), rfl, Int.add_zero _⟩ ⟨(e : Int), rfl, Int.add_zero _⟩ ⟨0, rfl, rfl⟩ ⟨0, rfl, rfl⟩ ⟨(c : Int), rfl, Int.add_zero _⟩ ⟨(w : Int), rfl, Int.add_zero _⟩ ⟨(p : Int), rfl, Int.add_zero _⟩ ⟨(u : Int), rfl, Int.add_zero _⟩, lvOK_cons h0 lvOK_nil, trivial, hr⟩ (ag_refl _ _ _) ?_ all_nil
    intro o ho τ1 aw' w' D' x1 a1 a2 a3 a4 a5
    have ho := List.mem_singleton.mp ho
    subst ho
    obtain ⟨v, v1, v2⟩ := a5
    have v3 := (vI_of (x1 0 0 rfl) v2).2
    refine ⟨aw', a1, a2, by rw [v1, v3]; rfl, RS_of (hOK_0 a3 a4 rfl) a4 ⟨_, x1 3 (s : Int) rfl, Int.add_zero _⟩ ⟨0, x1 0 0 rfl, rfl⟩ ⟨_, x1 1 (a : Int) rfl, Int.add_zero _⟩ ⟨_, x1 2 (e : Int) rfl, Int.add_zero _⟩ ⟨0, x1 0 0 rfl, rfl⟩ ⟨0, x1 0 0 rfl, rfl⟩ ⟨_, x1 4 (c : Int) rfl, Int.add_zero _⟩ ⟨_, x1 6 (w : Int) rfl, by omega⟩ ⟨_, x1 5 (p : Int) rfl, Int.add_zero _⟩ ⟨_, x1 7 (u : Int) rfl, Int.add_zero _⟩⟩
  · refine runH (P := P_ua01) (Q := QB) qH_w hM ch_ua01 all_nil (aw0 := aw) (aw := aw) (fun g => by cases g) rfl (τ0 := [0, (a : Int), (e : Int), (s : Int), (c : Int), (p : Int), (w : Int), (u : Int), (t : Int)]) (σ := [0, (a : Int), (e : Int), (s : Int), (c : Int), (p : Int), (w : Int), (u : Int), (t : Int)]) rfl rfl (Nat.zero_le _) ⟨Nat.zero_le _, Nat.zero_le _⟩ (xt_refl _) ⟨eOK2_L ⟨⟨by decide, by decide⟩, ⟨by dsimp only; omega, by dsimp only; omega⟩, ⟨by dsimp only; omega, by dsimp only; omega⟩, ⟨by dsimp only; omega, by dsimp only; omega⟩, ⟨by dsimp only; omega, by dsimp only; omega⟩, ⟨by dsimp only; omega, by dsimp only; omega⟩, ⟨by dsimp only; omega, by dsimp only; omega⟩, ⟨by dsimp only; omega, by dsimp only; omega⟩, ⟨by dsimp only; omega, by dsimp only; omega⟩, trivial⟩ rfl (all_cons ⟨(a : Int), (e : Int), rfl, rfl, by dsimp only; omega⟩ (all_cons ⟨(e : Int), (s : Int), rfl, rfl, by dsimp only; omega⟩ all_nil)), RS_C hS ⟨by omega, by omega, by omega, by omega, by omega, by omega, by omega, by omega, by omega⟩ ⟨(s : Int), rfl, Int.add_zero _⟩ ⟨0, rfl, rfl⟩ ⟨(a : Int), rfl, Int.add_zero _⟩ ⟨(e : Int), rfl, Int.add_zero _⟩ ⟨(t : Int), rfl, Int.add_zero _⟩ ⟨0, rfl, rfl⟩ ⟨(c : Int), rfl, Int.add_zero _⟩ ⟨(w : Int), rfl, Int.add_zero _⟩ ⟨(p : Int), rfl, Int.add_zero _⟩ ⟨(u : Int), rfl, Int.add_zero _⟩, lvOK_cons h0 lvOK_nil, trivial, hr⟩ (ag_refl _ _ _) ?_ all_nil
    intro o ho τ1 aw' w' D' x1 a1 a2 a3 a4 a5
    have ho := List.mem_singleton.mp ho
    subst ho
    obtain ⟨v, v1, v2⟩ := a5
    have v3 := (vI_of (x1 0 0 rfl) v2).2
    refine ⟨aw', a1, a2, by rw [v1, v3]; rfl, RS_of (hOK_0 a3 a4 rfl) a4 ⟨_, x1 3 (s : Int) rfl, Int.add_zero _⟩ ⟨0, x1 0 0 rfl, rfl⟩ ⟨_, x1 1 (a : Int) rfl, Int.add_zero _⟩ ⟨_, x1 2 (e : Int) rfl, Int.add_zero _⟩ ⟨_, x1 8 (t : Int) rfl, Int.add_zero _⟩ ⟨0, x1 0 0 rfl, rfl⟩ ⟨_, x1 4 (c : Int) rfl, Int.add_zero _⟩ ⟨_, x1 6 (w : Int) rfl, by omega⟩ ⟨_, x1 5 (p : Int) rfl, Int.add_zero _⟩ ⟨_, x1 7 (u : Int) rfl, Int.add_zero _⟩⟩
theorem ub_ok0 {L : List Nat} {M : rM} (hM : mT 260 = some M) {d : Nat} {D : rD} {aw : List rC} {lw : rK} {a e s t c p w u : Nat} (hr : rep D aw) (hS : RS 0 aw a e s t c p w u) (hT : tokOK a e s t) (hp1 : 1 ≤ p) (hp2 : p ≤ 40) (hc1 : 0 ≤ c) (hc2 : c ≤ 290) (hw : w ≤ 7) (hu : u ≤ 30) (h0 : ∃ v, lget lw 0 = some v ∧ vOK qH [] (.inr (.inr (some 53))) v) : Ev L d M (268, lw, [], D, 0, 0) (fun v D' => ∃ aw', rep D' aw' ∧ ag qH [] aw aw' ∧ v = some (.inl 0) ∧ RS 0 aw' a e s t c p (w) u) := by
  obtain ⟨hT1, hT2, hT3⟩ := hT
  rcases hT1 with ⟨t0, t1, t2⟩ | ⟨t0, t1, t2⟩
  · subst t0
    refine runH (P := P_ub00) (Q := QB) qH_w hM ch_ub00 all_nil (aw0 := aw) (aw := aw) (fun g => by cases g) rfl (τ0 := [0, (a : Int), (e : Int), (s : Int), (c : Int), (p : Int), (w : Int), (u : Int)]) (σ := [0, (a : Int), (e : Int), (s : Int), (c : Int), (p : Int), (w : Int), (u : Int)]) rfl rfl (Nat.zero_le _) ⟨Nat.zero_le _, Nat.zero_le _⟩ (xt_refl _) ⟨eOK2_L ⟨⟨by decide, by decide⟩, ⟨by dsimp only; omega, by dsimp only; omega⟩, ⟨by dsimp only; omega, by dsimp only; omega⟩, ⟨by dsimp only; omega, by dsimp only; omega⟩, ⟨by dsimp only; omega, by dsimp only; omega⟩, ⟨by dsimp only; omega, by dsimp only; omega⟩, ⟨by dsimp only; omega, by dsimp only; omega⟩, ⟨by dsimp only; omega, by dsimp only; omega⟩, trivial⟩ rfl (all_cons ⟨(a : Int), (e : Int), rfl, rfl, by dsimp only; omega⟩ (all_cons ⟨(e : Int), (s : Int), rfl, rfl, by dsimp only; omega⟩ all_nil)), RS_C hS ⟨by omega, by omega, by omega, by omega, by omega, by omega, by omega, by omega, by omega⟩ ⟨(s : Int), rfl, Int.add_zero _⟩ ⟨0, rfl, rfl⟩ ⟨(a : Int), rfl, Int.add_zero _⟩ ⟨(e : Int), rfl, Int.add_zero _⟩ ⟨0, rfl, rfl⟩ ⟨0, rfl, rfl⟩ ⟨(c : Int), rfl, Int.add_zero _⟩ ⟨(w : Int), rfl, Int.add_zero _⟩ ⟨(p : Int), rfl, Int.add_zero _⟩ ⟨(u : Int), rfl, Int.add_zero _⟩, lvOK_cons h0 lvOK_nil, trivial, hr⟩ (ag_refl _ _ _) ?_ all_nil
    intro o ho τ1 aw' w' D' x1 a1 a2 a3 a4 a5
    have ho := List.mem_singleton.mp ho
    subst ho
    obtain ⟨v, v1, v2⟩ := a5
    have v3 := (vI_of (x1 0 0 rfl) v2).2
    refine ⟨aw', a1, a2, by rw [v1, v3]; rfl, RS_of (hOK_0 a3 a4 rfl) a4 ⟨_, x1 3 (s : Int) rfl, Int.add_zero _⟩ ⟨0, x1 0 0 rfl, rfl⟩ ⟨_, x1 1 (a : Int) rfl, Int.add_zero _⟩ ⟨_, x1 2 (e : Int) rfl, Int.add_zero _⟩ ⟨0, x1 0 0 rfl, rfl⟩ ⟨0, x1 0 0 rfl, rfl⟩ ⟨_, x1 4 (c : Int) rfl, Int.add_zero _⟩ ⟨_, x1 6 (w : Int) rfl, Int.add_zero _⟩ ⟨_, x1 5 (p : Int) rfl, Int.add_zero _⟩ ⟨_, x1 7 (u : Int) rfl, Int.add_zero _⟩⟩
  · refine runH (P := P_ub01) (Q := QB) qH_w hM ch_ub01 all_nil (aw0 := aw) (aw := aw) (fun g => by cases g) rfl (τ0 := [0, (a : Int), (e : Int), (s : Int), (c : Int), (p : Int), (w : Int), (u : Int), (t : Int)]) (σ := [0, (a : Int), (e : Int), (s : Int), (c : Int), (p : Int), (w : Int), (u : Int), (t : Int)]) rfl rfl (Nat.zero_le _) ⟨Nat.zero_le _, Nat.zero_le _⟩ (xt_refl _) ⟨eOK2_L ⟨⟨by decide, by decide⟩, ⟨by dsimp only; omega, by dsimp only; omega⟩, ⟨by dsimp only; omega, by dsimp only; omega⟩, ⟨by dsimp only; omega, by dsimp only; omega⟩, ⟨by dsimp only; omega, by dsimp only; omega⟩, ⟨by dsimp only; omega, by dsimp only; omega⟩, ⟨by dsimp only; omega, by dsimp only; omega⟩, ⟨by dsimp only; omega, by dsimp only; omega⟩, ⟨by dsimp only; omega, by dsimp only; omega⟩, trivial⟩ rfl (all_cons ⟨(a : Int), (e : Int), rfl, rfl, by dsimp only; omega⟩ (all_cons ⟨(e : Int), (s : Int), rfl, rfl, by dsimp only; omega⟩ all_nil)), RS_C hS ⟨by omega, by omega, by omega, by omega, by omega, by omega, by omega, by omega, by omega⟩ ⟨(s : Int), rfl, Int.add_zero _⟩ ⟨0, rfl, rfl⟩ ⟨(a : Int), rfl, Int.add_zero _⟩ ⟨(e : Int), rfl, Int.add_zero _⟩ ⟨(t : Int), rfl, Int.add_zero _⟩ ⟨0, rfl, rfl⟩ ⟨(c : Int), rfl, Int.add_zero _⟩ ⟨(w : Int), rfl, Int.add_zero _⟩ ⟨(p : Int), rfl, Int.add_zero _⟩ ⟨(u : Int), rfl, Int.add_zero _⟩, lvOK_cons h0 lvOK_nil, trivial, hr⟩ (ag_refl _ _ _) ?_ all_nil
    intro o ho τ1 aw' w' D' x1 a1 a2 a3 a4 a5
    have ho := List.mem_singleton.mp ho
    subst ho
    obtain ⟨v, v1, v2⟩ := a5
    have v3 := (vI_of (x1 0 0 rfl) v2).2
    refine ⟨aw', a1, a2, by rw [v1, v3]; rfl, RS_of (hOK_0 a3 a4 rfl) a4 ⟨_, x1 3 (s : Int) rfl, Int.add_zero _⟩ ⟨0, x1 0 0 rfl, rfl⟩ ⟨_, x1 1 (a : Int) rfl, Int.add_zero _⟩ ⟨_, x1 2 (e : Int) rfl, Int.add_zero _⟩ ⟨_, x1 8 (t : Int) rfl, Int.add_zero _⟩ ⟨0, x1 0 0 rfl, rfl⟩ ⟨_, x1 4 (c : Int) rfl, Int.add_zero _⟩ ⟨_, x1 6 (w : Int) rfl, Int.add_zero _⟩ ⟨_, x1 5 (p : Int) rfl, Int.add_zero _⟩ ⟨_, x1 7 (u : Int) rfl, Int.add_zero _⟩⟩
set_option maxHeartbeats 8000000 in
theorem unit_ok0 {L : List Nat} {M : rM} (hM : mT 260 = some M) {d : Nat} (hd : 4 ≤ d) {Aw : List rV} {D : rD} {aw : List rC} {a e s t c w u : Nat} {pile : List (Nat × Nat)} (hr : rep D aw) (hS : RS 0 aw a e s t c pile.length w u) (hT : tokW a e s t) (hJ : JJ 0 true aw c u w pile) (hw : w ≤ 7) (h0 : ∃ v, lget (argsL Aw 0) 0 = some v ∧ vOK qH [] (.inr (.inr (some 53))) v) : Ev L d M (0, argsL Aw 0, [], D, 0, 0) (fun v D' => ∃ aw', rep D' aw' ∧ agU 0 aw aw' ∧ OUTS 0 aw' v a s t) := by
  obtain ⟨j1, j2, j3, j4, j5, j6⟩ := JJ_bound hJ hw
  obtain ⟨hT1, hT2, hT3⟩ := hT
  have hcz : (0 : Nat) ≤ mC M ∧ (0 : Nat) ≤ mS M := ⟨Nat.zero_le _, Nat.zero_le _⟩
  obtain ⟨d', hd'⟩ : ∃ d', d = d' + 1 := ⟨d - 1, by omega⟩
  generalize hpl : pile.length = p at *
  rcases hT1 with ⟨t0, t1, t2⟩ | ⟨t0, t1, t2⟩
  · subst t0
    refine runH (P := P_u00) (Q := QB) qH_w hM ch_u00 all_nil (aw0 := aw) (aw := aw) (fun g => by cases g) rfl (τ0 := [0, (a : Int), (e : Int), (s : Int), (c : Int), (p : Int), (w : Int), (u : Int)]) (σ := [0, (a : Int), (e : Int), (s : Int), (c : Int), (p : Int), (w : Int), (u : Int)]) rfl rfl (Nat.le_trans (by decide) hd) hcz (xt_refl _) ⟨eOK2_L ⟨⟨by decide, by decide⟩, ⟨by dsimp only; omega, by dsimp only; omega⟩, ⟨by dsimp only; omega, by dsimp only; omega⟩, ⟨by dsimp only; omega, by dsimp only; omega⟩, ⟨by dsimp only; omega, by dsimp only; omega⟩, ⟨by dsimp only; omega, by dsimp only; omega⟩, ⟨by dsimp only; omega, by dsimp only; omega⟩, ⟨by dsimp only; omega, by dsimp only; omega⟩, trivial⟩ rfl (all_cons ⟨(a : Int), (e : Int), rfl, rfl, by dsimp only; omega⟩ (all_cons ⟨(e : Int), (s : Int), rfl, rfl, by dsimp only; omega⟩ all_nil)), RS_C hS ⟨by omega, by omega, by omega, by omega, by omega, by omega, by omega, by omega, by omega⟩ ⟨(s : Int), rfl, Int.add_zero _⟩ ⟨0, rfl, rfl⟩ ⟨(a : Int), rfl, Int.add_zero _⟩ ⟨(e : Int), rfl, Int.add_zero _⟩ ⟨0, rfl, rfl⟩ ⟨0, rfl, rfl⟩ ⟨(c : Int), rfl, Int.add_zero _⟩ ⟨(w : Int), rfl, Int.add_zero _⟩ ⟨(p : Int), rfl, Int.add_zero _⟩ ⟨(u : Int), rfl, Int.add_zero _⟩, lvOK_cons h0 lvOK_nil, trivial, hr⟩ (ag_refl _ _ _) ?_ all_nil
    · intro o ho τ1 aw' w' D' x1 a1 a2 a3 a4 a5
      have ho := List.mem_singleton.mp ho
      subst ho
      obtain ⟨v, v1, v2⟩ := a5
      have v3 := (vI_of (x1 0 0 rfl) v2).2
      obtain ⟨f, f1, f2, f3⟩ := a3.2.2.1 8 _ rfl
      have f2 : (1 : Int) ≤ f := f2
      have f3 : f ≤ 4 := f3
      have ef := eI_cast f
      have g4 := (sl_of (j := 4) (i := 8) (o := 0) a4 (by decide +kernel : qH.2[211]? = some 53) (rfl : qH.1[53]? = some _) (by decide) rfl f1).2
      have g35 := (sl_of (j := 35) (i := 4) (o := 0) a4 (by decide +kernel : qH.2[211]? = some 53) (rfl : qH.1[53]? = some _) (by decide) rfl (x1 4 (c : Int) rfl)).2
      rw [Int.add_zero] at g4 g35
      rw [eI_nat (by omega)] at g35
      exact ⟨aw', a1, agU_s (by rfl) (by rfl) a2, Or.inl ⟨by rw [v1, v3]; rfl, hOK_0 a3 a4 rfl, eI f, c, by omega, by omega, g4, g35, j3, by omega, by rw [cd_ag a2 (Or.inr trivial) (by decide)]; exact j6⟩⟩
  · refine runH (P := P_u01) (Q := QB) qH_w hM ch_u01 (all_cons cwo (all_cons ho_2 all_nil)) (aw0 := aw) (aw := aw) (fun g => by cases g) rfl (τ0 := [0, (a : Int), (e : Int), (s : Int), (c : Int), (p : Int), (w : Int), (u : Int), (t : Int)]) (σ := [0, (a : Int), (e : Int), (s : Int), (c : Int), (p : Int), (w : Int), (u : Int), (t : Int)]) rfl rfl (Nat.le_trans (by decide) hd) hcz (xt_refl _) ⟨eOK2_L ⟨⟨by decide, by decide⟩, ⟨by dsimp only; omega, by dsimp only; omega⟩, ⟨by dsimp only; omega, by dsimp only; omega⟩, ⟨by dsimp only; omega, by dsimp only; omega⟩, ⟨by dsimp only; omega, by dsimp only; omega⟩, ⟨by dsimp only; omega, by dsimp only; omega⟩, ⟨by dsimp only; omega, by dsimp only; omega⟩, ⟨by dsimp only; omega, by dsimp only; omega⟩, ⟨by dsimp only; omega, by dsimp only; omega⟩, trivial⟩ rfl (all_cons ⟨(a : Int), (e : Int), rfl, rfl, by dsimp only; omega⟩ (all_cons ⟨(e : Int), (s : Int), rfl, rfl, by dsimp only; omega⟩ all_nil)), RS_C hS ⟨by omega, by omega, by omega, by omega, by omega, by omega, by omega, by omega, by omega⟩ ⟨(s : Int), rfl, Int.add_zero _⟩ ⟨0, rfl, rfl⟩ ⟨(a : Int), rfl, Int.add_zero _⟩ ⟨(e : Int), rfl, Int.add_zero _⟩ ⟨(t : Int), rfl, Int.add_zero _⟩ ⟨0, rfl, rfl⟩ ⟨(c : Int), rfl, Int.add_zero _⟩ ⟨(w : Int), rfl, Int.add_zero _⟩ ⟨(p : Int), rfl, Int.add_zero _⟩ ⟨(u : Int), rfl, Int.add_zero _⟩, lvOK_cons h0 lvOK_nil, trivial, hr⟩ (ag_refl _ _ _) ?_ ?_
    · intro o ho τ1 aw' w' D' x1 a1 a2 a3 a4 a5
      have ho := List.mem_singleton.mp ho
      subst ho
      obtain ⟨v, v1, v2⟩ := a5
      have v3 := (vI_of (x1 0 0 rfl) v2).2
      obtain ⟨f, f1, f2, f3⟩ := a3.2.2.1 9 _ rfl
      have f2 : (1 : Int) ≤ f := f2
      have f3 : f ≤ 4 := f3
      have ef := eI_cast f
      have g4 := (sl_of (j := 4) (i := 9) (o := 0) a4 (by decide +kernel : qH.2[211]? = some 53) (rfl : qH.1[53]? = some _) (by decide) rfl f1).2
      have g35 := (sl_of (j := 35) (i := 4) (o := 0) a4 (by decide +kernel : qH.2[211]? = some 53) (rfl : qH.1[53]? = some _) (by decide) rfl (x1 4 (c : Int) rfl)).2
      rw [Int.add_zero] at g4 g35
      rw [eI_nat (by omega)] at g35
      exact ⟨aw', a1, agU_s (by rfl) (by rfl) a2, Or.inl ⟨by rw [v1, v3]; rfl, hOK_0 a3 a4 rfl, eI f, c, by omega, by omega, g4, g35, j3, by omega, by rw [cd_ag a2 (Or.inr trivial) (by decide)]; exact j6⟩⟩
    · intro cc hcc τ1 aw1 lw1 sw1 D1 x1 a1 a2 a3 a4 a5 a6
      have hJ1 : JJ 0 true aw1 c u w pile := JJ_ag hJ (fun j => a2.2 233 75 j (by decide +kernel) rfl) (fun j => a2.2 234 76 j (by decide +kernel) rfl) (fun j => a2.2 pCode 73 j (by decide +kernel) rfl)
      rw [hd']
      rcases List.mem_cons.mp hcc with hcc | hcc
      · subst hcc
        match sw1, a6 with
        | [p0, p1, p2], _ =>
          obtain ⟨v0, w0, y0⟩ := a5 0 _ rfl
          obtain ⟨v3, w3, y3⟩ := a5 200 _ rfl
          obtain ⟨v4, w4, y4⟩ := a5 201 _ rfl
          obtain ⟨v5, w5, y5⟩ := a5 202 _ rfl
          have w0 : lget lw1 0 = some v0 := w0
          have w3 : some p0 = some v3 := w3
          have w4 : some p1 = some v4 := w4
          have w5 : some p2 = some v5 := w5
          cases w3
          cases w4
          cases w5
          obtain ⟨wy, wy1, wy2, wy3⟩ := a3.2.2.1 6 _ rfl
          rw [x1 6 (w : Int) rfl] at wy1
          cases wy1
          obtain ⟨uy, uy1, uy2, uy3⟩ := a3.2.2.1 7 _ rfl
          rw [x1 7 (u : Int) rfl] at uy1
          cases uy1
          have wy3 : (w : Int) ≤ 6 := wy3
          have hh1 := hOK_0 a3 a4 rfl
          have hS1 : RS 0 aw1 s s s 0 c p w u := RS_of hh1 a4 ⟨_, x1 3 (s : Int) rfl, Int.add_zero _⟩ ⟨0, x1 0 0 rfl, rfl⟩ ⟨_, x1 3 (s : Int) rfl, Int.add_zero _⟩ ⟨_, x1 3 (s : Int) rfl, Int.add_zero _⟩ ⟨0, x1 0 0 rfl, rfl⟩ ⟨0, x1 0 0 rfl, rfl⟩ ⟨_, x1 4 (c : Int) rfl, Int.add_zero _⟩ ⟨_, x1 6 (w : Int) rfl, Int.add_zero _⟩ ⟨_, x1 5 (p : Int) rfl, Int.add_zero _⟩ ⟨_, x1 7 (u : Int) rfl, Int.add_zero _⟩
          have hT1 : tokOK s s s 0 := ⟨Or.inl ⟨rfl, rfl, rfl⟩, by omega, by omega⟩
          have hp37 := hS1.2.2.2.2.2.2.2.2.2.1
          have hc35 := hS1.2.2.2.2.2.2.2.1
          have i3 := (vI_of (x1 0 0 rfl) y3).2
          have i4 := (vI_of (x1 0 0 rfl) y4).2
          have i3 : p0 = .inl 126 := i3
          have i4 : p1 = .inl 3 := i4
          rw [i3, i4]
          refine ev_push (mk_X12_unit_235 hM) hcz a1 hh1 (by decide) (by decide) (by omega) hp37 (Nat.zero_le _) y5 (fun D2 aw2 b1 b2 b3 b4 b5 b6 => ?_)
          have hS2 := RS_37 hS1 b2 b3 b4
          have hJ2 := JJ_not hJ1 (by rw [hpl]; exact b5) (by rw [hpl]; exact b6) (fun j => b3.2 pCode 73 j (by decide +kernel) rfl)
          refine Ev_mono (ua_ok0 hM (d := d' + 1) b1 hS2 hT1 (by omega) (by omega) (by omega) (by omega) (by omega) (by omega) ⟨_, w0, y0⟩) ?_
          rintro v D' ⟨aw', c1, c2, c3, c4⟩
          have hJ3 := JJ_ag hJ2 (fun j => c2.2 233 75 j (by decide +kernel) rfl) (fun j => c2.2 234 76 j (by decide +kernel) rfl) (fun j => c2.2 pCode 73 j (by decide +kernel) rfl)
          refine ⟨aw', c1, agU_trans (agU_s (by rfl) (by rfl) a2) (agU_trans (agU_s (by rfl) (by rfl) b3) (agU_s (by rfl) (by rfl) c2)), Or.inr (Or.inr (Or.inl ⟨c3, s, s, 0, c, w + 1, u, _, ?_, hT1, hJ3, by omega, t0, by omega⟩))⟩
          rw [List.length_append, hpl]
          exact c4
      rcases List.mem_cons.mp hcc with hcc | hcc
      · subst hcc
        match sw1, a6 with
        | [p0, p1, p2], _ =>
          obtain ⟨v0, w0, y0⟩ := a5 0 _ rfl
          obtain ⟨v3, w3, y3⟩ := a5 200 _ rfl
          obtain ⟨v4, w4, y4⟩ := a5 201 _ rfl
          obtain ⟨v5, w5, y5⟩ := a5 202 _ rfl
          have w0 : lget lw1 0 = some v0 := w0
          have w3 : some p0 = some v3 := w3
          have w4 : some p1 = some v4 := w4
          have w5 : some p2 = some v5 := w5
          cases w3
          cases w4
          cases w5
          obtain ⟨t', q1, q2, q3⟩ := a3.2.2.1 9 _ rfl
          obtain ⟨a', q4, q5, q6⟩ := a3.2.2.1 10 _ rfl
          obtain ⟨e', q7, q8, q9⟩ := a3.2.2.1 11 _ rfl
          have q2 : (1 : Int) ≤ t' := q2
          have q3 : t' ≤ 5 := q3
          have q5 : (0 : Int) ≤ a' := q5
          have q6 : a' ≤ 1600 := q6
          have q8 : (0 : Int) ≤ e' := q8
          have q9 : e' ≤ 1600 := q9
          obtain ⟨u1, u2, u3, u4, u5⟩ := a3.2.2.2.1 (2, 10, 0) (List.mem_of_getElem? (i := 2) rfl)
          rw [x1 2 (e : Int) rfl] at u3
          cases u3
          rw [q4] at u4
          cases u4
          have u5 : (e : Int) + 0 ≤ a' := u5
          obtain ⟨m1, m2, m3, m4, m5⟩ := a3.2.2.2.1 (10, 11, 1) (List.mem_of_getElem? (i := 3) rfl)
          rw [q4] at m3
          cases m3
          rw [q7] at m4
          cases m4
          have m5 : a' + 1 ≤ e' := m5
          obtain ⟨n1, n2, n3, n4, n5⟩ := a3.2.2.2.1 (11, 3, 0) (List.mem_of_getElem? (i := 4) rfl)
          rw [q7] at n3
          cases n3
          rw [x1 3 (s : Int) rfl] at n4
          cases n4
          have n5 : e' + 0 ≤ (s : Int) := n5
          obtain ⟨tn, rfl⟩ : ∃ k : Nat, t' = (k : Int) := ⟨t'.toNat, by omega⟩
          obtain ⟨an, rfl⟩ : ∃ k : Nat, a' = (k : Int) := ⟨a'.toNat, by omega⟩
          obtain ⟨en, rfl⟩ : ∃ k : Nat, e' = (k : Int) := ⟨e'.toNat, by omega⟩
          obtain ⟨wy, wy1, wy2, wy3⟩ := a3.2.2.1 6 _ rfl
          rw [x1 6 (w : Int) rfl] at wy1
          cases wy1
          obtain ⟨uy, uy1, uy2, uy3⟩ := a3.2.2.1 7 _ rfl
          rw [x1 7 (u : Int) rfl] at uy1
          cases uy1
          have wy3 : (w : Int) ≤ 6 := wy3
          have hh1 := hOK_0 a3 a4 rfl
          have hS1 : RS 0 aw1 an en s tn c p w u := RS_of hh1 a4 ⟨_, x1 3 (s : Int) rfl, Int.add_zero _⟩ ⟨0, x1 0 0 rfl, rfl⟩ ⟨_, q4, Int.add_zero _⟩ ⟨_, q7, Int.add_zero _⟩ ⟨_, q1, Int.add_zero _⟩ ⟨0, x1 0 0 rfl, rfl⟩ ⟨_, x1 4 (c : Int) rfl, Int.add_zero _⟩ ⟨_, x1 6 (w : Int) rfl, Int.add_zero _⟩ ⟨_, x1 5 (p : Int) rfl, Int.add_zero _⟩ ⟨_, x1 7 (u : Int) rfl, Int.add_zero _⟩
          have hT1 : tokOK an en s tn := ⟨Or.inr ⟨by omega, by omega, by omega⟩, by omega, by omega⟩
          have hp37 := hS1.2.2.2.2.2.2.2.2.2.1
          have hc35 := hS1.2.2.2.2.2.2.2.1
          have i3 := (vI_of (x1 0 0 rfl) y3).2
          have i4 := (vI_of (x1 0 0 rfl) y4).2
          have i3 : p0 = .inl 126 := i3
          have i4 : p1 = .inl 3 := i4
          rw [i3, i4]
          refine ev_push (mk_X12_unit_235 hM) hcz a1 hh1 (by decide) (by decide) (by omega) hp37 (Nat.zero_le _) y5 (fun D2 aw2 b1 b2 b3 b4 b5 b6 => ?_)
          have hS2 := RS_37 hS1 b2 b3 b4
          have hJ2 := JJ_not hJ1 (by rw [hpl]; exact b5) (by rw [hpl]; exact b6) (fun j => b3.2 pCode 73 j (by decide +kernel) rfl)
          refine Ev_mono (ua_ok0 hM (d := d' + 1) b1 hS2 hT1 (by omega) (by omega) (by omega) (by omega) (by omega) (by omega) ⟨_, w0, y0⟩) ?_
          rintro v D' ⟨aw', c1, c2, c3, c4⟩
          have hJ3 := JJ_ag hJ2 (fun j => c2.2 233 75 j (by decide +kernel) rfl) (fun j => c2.2 234 76 j (by decide +kernel) rfl) (fun j => c2.2 pCode 73 j (by decide +kernel) rfl)
          refine ⟨aw', c1, agU_trans (agU_s (by rfl) (by rfl) a2) (agU_trans (agU_s (by rfl) (by rfl) b3) (agU_s (by rfl) (by rfl) c2)), Or.inr (Or.inr (Or.inl ⟨c3, an, en, tn, c, w + 1, u, _, ?_, hT1, hJ3, by omega, t0, by omega⟩))⟩
          rw [List.length_append, hpl]
          exact c4
      rcases List.mem_cons.mp hcc with hcc | hcc
      · subst hcc
        match sw1, a6 with
        | [p0, p1, p2], _ =>
          obtain ⟨v0, w0, y0⟩ := a5 0 _ rfl
          obtain ⟨v3, w3, y3⟩ := a5 200 _ rfl
          obtain ⟨v4, w4, y4⟩ := a5 201 _ rfl
          obtain ⟨v5, w5, y5⟩ := a5 202 _ rfl
          have w0 : lget lw1 0 = some v0 := w0
          have w3 : some p0 = some v3 := w3
          have w4 : some p1 = some v4 := w4
          have w5 : some p2 = some v5 := w5
          cases w3
          cases w4
          cases w5
          obtain ⟨wy, wy1, wy2, wy3⟩ := a3.2.2.1 6 _ rfl
          rw [x1 6 (w : Int) rfl] at wy1
          cases wy1
          obtain ⟨uy, uy1, uy2, uy3⟩ := a3.2.2.1 7 _ rfl
          rw [x1 7 (u : Int) rfl] at uy1
          cases uy1
          have wy3 : (w : Int) ≤ 6 := wy3
          have uy3 : (u : Int) ≤ 29 := uy3
          have hh1 := hOK_0 a3 a4 rfl
          have hS1 : RS 0 aw1 s s s 0 c p w (u + 1) := RS_of hh1 a4 ⟨_, x1 3 (s : Int) rfl, Int.add_zero _⟩ ⟨0, x1 0 0 rfl, rfl⟩ ⟨_, x1 3 (s : Int) rfl, Int.add_zero _⟩ ⟨_, x1 3 (s : Int) rfl, Int.add_zero _⟩ ⟨0, x1 0 0 rfl, rfl⟩ ⟨0, x1 0 0 rfl, rfl⟩ ⟨_, x1 4 (c : Int) rfl, Int.add_zero _⟩ ⟨_, x1 6 (w : Int) rfl, Int.add_zero _⟩ ⟨_, x1 5 (p : Int) rfl, Int.add_zero _⟩ ⟨_, x1 7 (u : Int) rfl, by omega⟩
          have hT1 : tokOK s s s 0 := ⟨Or.inl ⟨rfl, rfl, rfl⟩, by omega, by omega⟩
          have hp37 := hS1.2.2.2.2.2.2.2.2.2.1
          have hc35 := hS1.2.2.2.2.2.2.2.1
          have i3 := (vI_of (x1 0 0 rfl) y3).2
          have i4 := (vI_of (x1 0 0 rfl) y4).2
          have i3 : p0 = .inl 126 := i3
          have i4 : p1 = .inl 7 := i4
          rw [i3, i4]
          refine ev_push (mk_X12_unit_235 hM) hcz a1 hh1 (by decide) (by decide) (by omega) hp37 (Nat.zero_le _) y5 (fun D2 aw2 b1 b2 b3 b4 b5 b6 => ?_)
          have hS2 := RS_37 hS1 b2 b3 b4
          have hJ2 := JJ_bracket hJ1 (by omega) (by rw [hpl]; exact b5) (by rw [hpl]; exact b6) (fun j => b3.2 pCode 73 j (by decide +kernel) rfl)
          refine Ev_mono (ua_ok0 hM (d := d' + 1) b1 hS2 hT1 (by omega) (by omega) (by omega) (by omega) (by omega) (by omega) ⟨_, w0, y0⟩) ?_
          rintro v D' ⟨aw', c1, c2, c3, c4⟩
          have hJ3 := JJ_ag hJ2 (fun j => c2.2 233 75 j (by decide +kernel) rfl) (fun j => c2.2 234 76 j (by decide +kernel) rfl) (fun j => c2.2 pCode 73 j (by decide +kernel) rfl)
          refine ⟨aw', c1, agU_trans (agU_s (by rfl) (by rfl) a2) (agU_trans (agU_s (by rfl) (by rfl) b3) (agU_s (by rfl) (by rfl) c2)), Or.inr (Or.inr (Or.inl ⟨c3, s, s, 0, c, w + 1, (u + 1), _, ?_, hT1, hJ3, by omega, t0, by omega⟩))⟩
          rw [List.length_append, hpl]
          exact c4
      rcases List.mem_cons.mp hcc with hcc | hcc
      · subst hcc
        match sw1, a6 with
        | [p0, p1, p2], _ =>
          obtain ⟨v0, w0, y0⟩ := a5 0 _ rfl
          obtain ⟨v3, w3, y3⟩ := a5 200 _ rfl
          obtain ⟨v4, w4, y4⟩ := a5 201 _ rfl
          obtain ⟨v5, w5, y5⟩ := a5 202 _ rfl
          have w0 : lget lw1 0 = some v0 := w0
          have w3 : some p0 = some v3 := w3
          have w4 : some p1 = some v4 := w4
          have w5 : some p2 = some v5 := w5
          cases w3
          cases w4
          cases w5
          obtain ⟨t', q1, q2, q3⟩ := a3.2.2.1 9 _ rfl
          obtain ⟨a', q4, q5, q6⟩ := a3.2.2.1 10 _ rfl
          obtain ⟨e', q7, q8, q9⟩ := a3.2.2.1 11 _ rfl
          have q2 : (1 : Int) ≤ t' := q2
          have q3 : t' ≤ 5 := q3
          have q5 : (0 : Int) ≤ a' := q5
          have q6 : a' ≤ 1600 := q6
          have q8 : (0 : Int) ≤ e' := q8
          have q9 : e' ≤ 1600 := q9
          obtain ⟨u1, u2, u3, u4, u5⟩ := a3.2.2.2.1 (2, 10, 0) (List.mem_of_getElem? (i := 2) rfl)
          rw [x1 2 (e : Int) rfl] at u3
          cases u3
          rw [q4] at u4
          cases u4
          have u5 : (e : Int) + 0 ≤ a' := u5
          obtain ⟨m1, m2, m3, m4, m5⟩ := a3.2.2.2.1 (10, 11, 1) (List.mem_of_getElem? (i := 3) rfl)
          rw [q4] at m3
          cases m3
          rw [q7] at m4
          cases m4
          have m5 : a' + 1 ≤ e' := m5
          obtain ⟨n1, n2, n3, n4, n5⟩ := a3.2.2.2.1 (11, 3, 0) (List.mem_of_getElem? (i := 4) rfl)
          rw [q7] at n3
          cases n3
          rw [x1 3 (s : Int) rfl] at n4
          cases n4
          have n5 : e' + 0 ≤ (s : Int) := n5
          obtain ⟨tn, rfl⟩ : ∃ k : Nat, t' = (k : Int) := ⟨t'.toNat, by omega⟩
          obtain ⟨an, rfl⟩ : ∃ k : Nat, a' = (k : Int) := ⟨a'.toNat, by omega⟩
          obtain ⟨en, rfl⟩ : ∃ k : Nat, e' = (k : Int) := ⟨e'.toNat, by omega⟩
          obtain ⟨wy, wy1, wy2, wy3⟩ := a3.2.2.1 6 _ rfl
          rw [x1 6 (w : Int) rfl] at wy1
          cases wy1
          obtain ⟨uy, uy1, uy2, uy3⟩ := a3.2.2.1 7 _ rfl
          rw [x1 7 (u : Int) rfl] at uy1
          cases uy1
          have wy3 : (w : Int) ≤ 6 := wy3
          have uy3 : (u : Int) ≤ 29 := uy3
          have hh1 := hOK_0 a3 a4 rfl
          have hS1 : RS 0 aw1 an en s tn c p w (u + 1) := RS_of hh1 a4 ⟨_, x1 3 (s : Int) rfl, Int.add_zero _⟩ ⟨0, x1 0 0 rfl, rfl⟩ ⟨_, q4, Int.add_zero _⟩ ⟨_, q7, Int.add_zero _⟩ ⟨_, q1, Int.add_zero _⟩ ⟨0, x1 0 0 rfl, rfl⟩ ⟨_, x1 4 (c : Int) rfl, Int.add_zero _⟩ ⟨_, x1 6 (w : Int) rfl, Int.add_zero _⟩ ⟨_, x1 5 (p : Int) rfl, Int.add_zero _⟩ ⟨_, x1 7 (u : Int) rfl, by omega⟩
          have hT1 : tokOK an en s tn := ⟨Or.inr ⟨by omega, by omega, by omega⟩, by omega, by omega⟩
          have hp37 := hS1.2.2.2.2.2.2.2.2.2.1
          have hc35 := hS1.2.2.2.2.2.2.2.1
          have i3 := (vI_of (x1 0 0 rfl) y3).2
          have i4 := (vI_of (x1 0 0 rfl) y4).2
          have i3 : p0 = .inl 126 := i3
          have i4 : p1 = .inl 7 := i4
          rw [i3, i4]
          refine ev_push (mk_X12_unit_235 hM) hcz a1 hh1 (by decide) (by decide) (by omega) hp37 (Nat.zero_le _) y5 (fun D2 aw2 b1 b2 b3 b4 b5 b6 => ?_)
          have hS2 := RS_37 hS1 b2 b3 b4
          have hJ2 := JJ_bracket hJ1 (by omega) (by rw [hpl]; exact b5) (by rw [hpl]; exact b6) (fun j => b3.2 pCode 73 j (by decide +kernel) rfl)
          refine Ev_mono (ua_ok0 hM (d := d' + 1) b1 hS2 hT1 (by omega) (by omega) (by omega) (by omega) (by omega) (by omega) ⟨_, w0, y0⟩) ?_
          rintro v D' ⟨aw', c1, c2, c3, c4⟩
          have hJ3 := JJ_ag hJ2 (fun j => c2.2 233 75 j (by decide +kernel) rfl) (fun j => c2.2 234 76 j (by decide +kernel) rfl) (fun j => c2.2 pCode 73 j (by decide +kernel) rfl)
          refine ⟨aw', c1, agU_trans (agU_s (by rfl) (by rfl) a2) (agU_trans (agU_s (by rfl) (by rfl) b3) (agU_s (by rfl) (by rfl) c2)), Or.inr (Or.inr (Or.inl ⟨c3, an, en, tn, c, w + 1, (u + 1), _, ?_, hT1, hJ3, by omega, t0, by omega⟩))⟩
          rw [List.length_append, hpl]
          exact c4
      rcases List.mem_cons.mp hcc with hcc | hcc
      · subst hcc
        match sw1, a6 with
        | [p0, p1, p2], _ =>
          obtain ⟨v0, w0, y0⟩ := a5 0 _ rfl
          obtain ⟨v3, w3, y3⟩ := a5 200 _ rfl
          obtain ⟨v4, w4, y4⟩ := a5 201 _ rfl
          obtain ⟨v5, w5, y5⟩ := a5 202 _ rfl
          have w0 : lget lw1 0 = some v0 := w0
          have w3 : some p0 = some v3 := w3
          have w4 : some p1 = some v4 := w4
          have w5 : some p2 = some v5 := w5
          cases w3
          cases w4
          cases w5
          obtain ⟨wy, wy1, wy2, wy3⟩ := a3.2.2.1 6 _ rfl
          rw [x1 6 (w : Int) rfl] at wy1
          cases wy1
          obtain ⟨uy, uy1, uy2, uy3⟩ := a3.2.2.1 7 _ rfl
          rw [x1 7 (u : Int) rfl] at uy1
          cases uy1
          have uy3 : (u : Int) ≤ 29 := uy3
          have hh1 := hOK_0 a3 a4 rfl
          have hS1 : RS 0 aw1 s s s 0 c p w (u + 1) := RS_of hh1 a4 ⟨_, x1 3 (s : Int) rfl, Int.add_zero _⟩ ⟨0, x1 0 0 rfl, rfl⟩ ⟨_, x1 3 (s : Int) rfl, Int.add_zero _⟩ ⟨_, x1 3 (s : Int) rfl, Int.add_zero _⟩ ⟨0, x1 0 0 rfl, rfl⟩ ⟨0, x1 0 0 rfl, rfl⟩ ⟨_, x1 4 (c : Int) rfl, Int.add_zero _⟩ ⟨_, x1 6 (w : Int) rfl, Int.add_zero _⟩ ⟨_, x1 5 (p : Int) rfl, Int.add_zero _⟩ ⟨_, x1 7 (u : Int) rfl, by omega⟩
          have hT1 : tokOK s s s 0 := ⟨Or.inl ⟨rfl, rfl, rfl⟩, by omega, by omega⟩
          have hp37 := hS1.2.2.2.2.2.2.2.2.2.1
          have hc35 := hS1.2.2.2.2.2.2.2.1
          obtain ⟨ny, ny1, ny2, ny3⟩ := a3.2.2.1 9 _ rfl
          obtain ⟨xy, xy1, xy2, xy3⟩ := a3.2.2.1 10 _ rfl
          have xy2 : (97 : Int) ≤ xy := xy2
          have xy3 : xy ≤ 122 := xy3
          have i3 := (vI_of ny1 y3).2
          have i4 := (vI_of xy1 y4).2
          rw [Int.add_zero] at i3 i4
          obtain ⟨xn, rfl⟩ : ∃ k : Nat, xy = (k : Int) := ⟨xy.toNat, by omega⟩
          rw [eI_nat (by omega)] at i4
          rw [i3, i4]
          refine ev_emit (mk_X12_unit_265 hM) hcz a1 hh1 (by omega) (eI_lt _) (by omega) hc35 (Nat.zero_le _) y5 (fun D2 aw2 b1 b2 b3 b4 b5 => ?_)
          have hS2 := RS_35 hS1 b2 b3 b4
          have hJ2 := JJ_leaf (x := xn) hJ1 hw (by omega) ⟨by omega, by omega⟩ (fun j => b3.2 233 75 j (by decide +kernel) rfl) (fun j => b3.2 234 76 j (by decide +kernel) rfl) b5
          refine Ev_mono (ub_ok0 hM (d := d' + 1) b1 hS2 hT1 (by omega) (by omega) (by omega) (by omega) hw (by omega) ⟨_, w0, y0⟩) ?_
          rintro v D' ⟨aw', c1, c2, c3, c4⟩
          have hJ3 := JJ_ag hJ2 (fun j => c2.2 233 75 j (by decide +kernel) rfl) (fun j => c2.2 234 76 j (by decide +kernel) rfl) (fun j => c2.2 pCode 73 j (by decide +kernel) rfl)
          refine ⟨aw', c1, agU_trans (agU_s (by rfl) (by rfl) a2) (agU_trans (agU_e (by rfl) b3 b5 ⟨j3, by omega⟩) (agU_s (by rfl) (by rfl) c2)), Or.inr (Or.inr (Or.inr (Or.inl ⟨c3, s, s, 0, c + 1, w, u + 1, pile, ?_, hT1, hJ3, hw, t0, by omega⟩)))⟩
          rw [hpl]
          exact c4
      have hcc := List.mem_singleton.mp hcc
      subst hcc
      match sw1, a6 with
      | [p0, p1, p2], _ =>
        obtain ⟨v0, w0, y0⟩ := a5 0 _ rfl
        obtain ⟨v3, w3, y3⟩ := a5 200 _ rfl
        obtain ⟨v4, w4, y4⟩ := a5 201 _ rfl
        obtain ⟨v5, w5, y5⟩ := a5 202 _ rfl
        have w0 : lget lw1 0 = some v0 := w0
        have w3 : some p0 = some v3 := w3
        have w4 : some p1 = some v4 := w4
        have w5 : some p2 = some v5 := w5
        cases w3
        cases w4
        cases w5
        obtain ⟨t', q1, q2, q3⟩ := a3.2.2.1 9 _ rfl
        obtain ⟨a', q4, q5, q6⟩ := a3.2.2.1 10 _ rfl
        obtain ⟨e', q7, q8, q9⟩ := a3.2.2.1 11 _ rfl
        have q2 : (1 : Int) ≤ t' := q2
        have q3 : t' ≤ 5 := q3
        have q5 : (0 : Int) ≤ a' := q5
        have q6 : a' ≤ 1600 := q6
        have q8 : (0 : Int) ≤ e' := q8
        have q9 : e' ≤ 1600 := q9
        obtain ⟨u1, u2, u3, u4, u5⟩ := a3.2.2.2.1 (2, 10, 0) (List.mem_of_getElem? (i := 2) rfl)
        rw [x1 2 (e : Int) rfl] at u3
        cases u3
        rw [q4] at u4
        cases u4
        have u5 : (e : Int) + 0 ≤ a' := u5
        obtain ⟨m1, m2, m3, m4, m5⟩ := a3.2.2.2.1 (10, 11, 1) (List.mem_of_getElem? (i := 3) rfl)
        rw [q4] at m3
        cases m3
        rw [q7] at m4
        cases m4
        have m5 : a' + 1 ≤ e' := m5
        obtain ⟨n1, n2, n3, n4, n5⟩ := a3.2.2.2.1 (11, 3, 0) (List.mem_of_getElem? (i := 4) rfl)
        rw [q7] at n3
        cases n3
        rw [x1 3 (s : Int) rfl] at n4
        cases n4
        have n5 : e' + 0 ≤ (s : Int) := n5
        obtain ⟨tn, rfl⟩ : ∃ k : Nat, t' = (k : Int) := ⟨t'.toNat, by omega⟩
        obtain ⟨an, rfl⟩ : ∃ k : Nat, a' = (k : Int) := ⟨a'.toNat, by omega⟩
        obtain ⟨en, rfl⟩ : ∃ k : Nat, e' = (k : Int) := ⟨e'.toNat, by omega⟩
        obtain ⟨wy, wy1, wy2, wy3⟩ := a3.2.2.1 6 _ rfl
        rw [x1 6 (w : Int) rfl] at wy1
        cases wy1
        obtain ⟨uy, uy1, uy2, uy3⟩ := a3.2.2.1 7 _ rfl
        rw [x1 7 (u : Int) rfl] at uy1
        cases uy1
        have uy3 : (u : Int) ≤ 29 := uy3
        have hh1 := hOK_0 a3 a4 rfl
        have hS1 : RS 0 aw1 an en s tn c p w (u + 1) := RS_of hh1 a4 ⟨_, x1 3 (s : Int) rfl, Int.add_zero _⟩ ⟨0, x1 0 0 rfl, rfl⟩ ⟨_, q4, Int.add_zero _⟩ ⟨_, q7, Int.add_zero _⟩ ⟨_, q1, Int.add_zero _⟩ ⟨0, x1 0 0 rfl, rfl⟩ ⟨_, x1 4 (c : Int) rfl, Int.add_zero _⟩ ⟨_, x1 6 (w : Int) rfl, Int.add_zero _⟩ ⟨_, x1 5 (p : Int) rfl, Int.add_zero _⟩ ⟨_, x1 7 (u : Int) rfl, by omega⟩
        have hT1 : tokOK an en s tn := ⟨Or.inr ⟨by omega, by omega, by omega⟩, by omega, by omega⟩
        have hp37 := hS1.2.2.2.2.2.2.2.2.2.1
        have hc35 := hS1.2.2.2.2.2.2.2.1
        obtain ⟨ny, ny1, ny2, ny3⟩ := a3.2.2.1 12 _ rfl
        obtain ⟨xy, xy1, xy2, xy3⟩ := a3.2.2.1 13 _ rfl
        have xy2 : (97 : Int) ≤ xy := xy2
        have xy3 : xy ≤ 122 := xy3
        have i3 := (vI_of ny1 y3).2
        have i4 := (vI_of xy1 y4).2
        rw [Int.add_zero] at i3 i4
        obtain ⟨xn, rfl⟩ : ∃ k : Nat, xy = (k : Int) := ⟨xy.toNat, by omega⟩
        rw [eI_nat (by omega)] at i4
        rw [i3, i4]
        refine ev_emit (mk_X12_unit_265 hM) hcz a1 hh1 (by omega) (eI_lt _) (by omega) hc35 (Nat.zero_le _) y5 (fun D2 aw2 b1 b2 b3 b4 b5 => ?_)
        have hS2 := RS_35 hS1 b2 b3 b4
        have hJ2 := JJ_leaf (x := xn) hJ1 hw (by omega) ⟨by omega, by omega⟩ (fun j => b3.2 233 75 j (by decide +kernel) rfl) (fun j => b3.2 234 76 j (by decide +kernel) rfl) b5
        refine Ev_mono (ub_ok0 hM (d := d' + 1) b1 hS2 hT1 (by omega) (by omega) (by omega) (by omega) hw (by omega) ⟨_, w0, y0⟩) ?_
        rintro v D' ⟨aw', c1, c2, c3, c4⟩
        have hJ3 := JJ_ag hJ2 (fun j => c2.2 233 75 j (by decide +kernel) rfl) (fun j => c2.2 234 76 j (by decide +kernel) rfl) (fun j => c2.2 pCode 73 j (by decide +kernel) rfl)
        refine ⟨aw', c1, agU_trans (agU_s (by rfl) (by rfl) a2) (agU_trans (agU_e (by rfl) b3 b5 ⟨j3, by omega⟩) (agU_s (by rfl) (by rfl) c2)), Or.inr (Or.inr (Or.inr (Or.inl ⟨c3, an, en, tn, c + 1, w, u + 1, pile, ?_, hT1, hJ3, hw, t0, by omega⟩)))⟩
        rw [hpl]
        exact c4
theorem ua_ok1 {L : List Nat} {M : rM} (hM : mT 260 = some M) {d : Nat} {D : rD} {aw : List rC} {lw : rK} {a e s t c p w u : Nat} (hr : rep D aw) (hS : RS 1 aw a e s t c p w u) (hT : tokOK a e s t) (hp1 : 1 ≤ p) (hp2 : p ≤ 40) (hc1 : 560 ≤ c) (hc2 : c ≤ 850) (hw : w ≤ 6) (hu : u ≤ 30) (h0 : ∃ v, lget lw 0 = some v ∧ vOK qH [] (.inr (.inr (some 53))) v) : Ev L d M (238, lw, [], D, 0, 0) (fun v D' => ∃ aw', rep D' aw' ∧ ag qH [(53, 36)] aw aw' ∧ v = some (.inl 1) ∧ RS 1 aw' a e s t c p (w + 1) u) := by
  obtain ⟨hT1, hT2, hT3⟩ := hT
  rcases hT1 with ⟨t0, t1, t2⟩ | ⟨t0, t1, t2⟩
  · subst t0
    refine runH (P := P_ua10) (Q := QB) qH_w hM ch_ua10 all_nil (aw0 := aw) (aw := aw) (fun g => by cases g) rfl (τ0 := [0, (a : Int), (e : Int), (s : Int), (c : Int), (p : Int), (w : Int), (u : Int)]) (σ := [0, (a : Int), (e : Int), (s : Int), (c : Int), (p : Int), (w : Int), (u : Int)]) rfl rfl (Nat.zero_le _) ⟨Nat.zero_le _, Nat.zero_le _⟩ (xt_refl _) ⟨eOK2_L ⟨⟨by decide, by decide⟩, ⟨by dsimp only; omega, by dsimp only; omega⟩, ⟨by dsimp only; omega, by dsimp only; omega⟩, ⟨by dsimp only; omega, by dsimp only; omega⟩, ⟨by dsimp only; omega, by dsimp only; omega⟩, ⟨by dsimp only; omega, by dsimp only; omega⟩, ⟨by dsimp only; omega, by dsimp only; omega⟩, ⟨by dsimp only; omega, by dsimp only; omega⟩, trivial⟩ rfl (all_cons ⟨(a : Int), (e : Int), rfl, rfl, by dsimp only; omega⟩ (all_cons ⟨(e : Int), (s : Int), rfl, rfl, by dsimp only; omega⟩ all_nil)), RS_C hS ⟨by omega, by omega, by omega, by omega, by omega, by omega, by omega, by omega, by omega⟩ ⟨(s : Int), rfl, Int.add_zero _⟩ ⟨0, rfl, rfl⟩ ⟨(a : Int), rfl, Int.add_zero _⟩ ⟨(e : Int), rfl, Int.add_zero _⟩ ⟨0, rfl, rfl⟩ ⟨0, rfl, rfl⟩ ⟨(c : Int), rfl, Int.add_zero _⟩ ⟨(w : Int), rfl, Int.add_zero _⟩ ⟨(p : Int), rfl, Int.add_zero _⟩ ⟨(u : Int), rfl, Int.add_zero _⟩, lvOK_cons h0 lvOK_nil, trivial, hr⟩ (ag_refl _ _ _) ?_ all_nil
    intro o ho τ1 aw' w' D' x1 a1 a2 a3 a4 a5
    have ho := List.mem_singleton.mp ho
    subst ho
    obtain ⟨v, v1, v2⟩ := a5
    have v3 := (vI_of (x1 0 0 rfl) v2).2
    refine ⟨aw', a1, a2, by rw [v1, v3]; rfl, RS_of (hOK_0 a3 a4 rfl) a4 ⟨_, x1 3 (s : Int) rfl, Int.add_zero _⟩ ⟨0, x1 0 0 rfl, rfl⟩ ⟨_, x1 1 (a : Int) rfl, Int.add_zero _⟩ ⟨_, x1 2 (e : Int) rfl, Int.add_zero _⟩ ⟨0, x1 0 0 rfl, rfl⟩ ⟨0, x1 0 0 rfl, rfl⟩ ⟨_, x1 4 (c : Int) rfl, Int.add_zero _⟩ ⟨_, x1 6 (w : Int) rfl, by omega⟩ ⟨_, x1 5 (p : Int) rfl, Int.add_zero _⟩ ⟨_, x1 7 (u : Int) rfl, Int.add_zero _⟩⟩
  · refine runH (P := P_ua11) (Q := QB) qH_w hM ch_ua11 all_nil (aw0 := aw) (aw := aw) (fun g => by cases g) rfl (τ0 := [0, (a : Int), (e : Int), (s : Int), (c : Int), (p : Int), (w : Int), (u : Int), (t : Int)]) (σ := [0, (a : Int), (e : Int), (s : Int), (c : Int), (p : Int), (w : Int), (u : Int), (t : Int)]) rfl rfl (Nat.zero_le _) ⟨Nat.zero_le _, Nat.zero_le _⟩ (xt_refl _) ⟨eOK2_L ⟨⟨by decide, by decide⟩, ⟨by dsimp only; omega, by dsimp only; omega⟩, ⟨by dsimp only; omega, by dsimp only; omega⟩, ⟨by dsimp only; omega, by dsimp only; omega⟩, ⟨by dsimp only; omega, by dsimp only; omega⟩, ⟨by dsimp only; omega, by dsimp only; omega⟩, ⟨by dsimp only; omega, by dsimp only; omega⟩, ⟨by dsimp only; omega, by dsimp only; omega⟩, ⟨by dsimp only; omega, by dsimp only; omega⟩, trivial⟩ rfl (all_cons ⟨(a : Int), (e : Int), rfl, rfl, by dsimp only; omega⟩ (all_cons ⟨(e : Int), (s : Int), rfl, rfl, by dsimp only; omega⟩ all_nil)), RS_C hS ⟨by omega, by omega, by omega, by omega, by omega, by omega, by omega, by omega, by omega⟩ ⟨(s : Int), rfl, Int.add_zero _⟩ ⟨0, rfl, rfl⟩ ⟨(a : Int), rfl, Int.add_zero _⟩ ⟨(e : Int), rfl, Int.add_zero _⟩ ⟨(t : Int), rfl, Int.add_zero _⟩ ⟨0, rfl, rfl⟩ ⟨(c : Int), rfl, Int.add_zero _⟩ ⟨(w : Int), rfl, Int.add_zero _⟩ ⟨(p : Int), rfl, Int.add_zero _⟩ ⟨(u : Int), rfl, Int.add_zero _⟩, lvOK_cons h0 lvOK_nil, trivial, hr⟩ (ag_refl _ _ _) ?_ all_nil
    intro o ho τ1 aw' w' D' x1 a1 a2 a3 a4 a5
    have ho := List.mem_singleton.mp ho
    subst ho
    obtain ⟨v, v1, v2⟩ := a5
    have v3 := (vI_of (x1 0 0 rfl) v2).2
    refine ⟨aw', a1, a2, by rw [v1, v3]; rfl, RS_of (hOK_0 a3 a4 rfl) a4 ⟨_, x1 3 (s : Int) rfl, Int.add_zero _⟩ ⟨0, x1 0 0 rfl, rfl⟩ ⟨_, x1 1 (a : Int) rfl, Int.add_zero _⟩ ⟨_, x1 2 (e : Int) rfl, Int.add_zero _⟩ ⟨_, x1 8 (t : Int) rfl, Int.add_zero _⟩ ⟨0, x1 0 0 rfl, rfl⟩ ⟨_, x1 4 (c : Int) rfl, Int.add_zero _⟩ ⟨_, x1 6 (w : Int) rfl, by omega⟩ ⟨_, x1 5 (p : Int) rfl, Int.add_zero _⟩ ⟨_, x1 7 (u : Int) rfl, Int.add_zero _⟩⟩
theorem ub_ok1 {L : List Nat} {M : rM} (hM : mT 260 = some M) {d : Nat} {D : rD} {aw : List rC} {lw : rK} {a e s t c p w u : Nat} (hr : rep D aw) (hS : RS 1 aw a e s t c p w u) (hT : tokOK a e s t) (hp1 : 1 ≤ p) (hp2 : p ≤ 40) (hc1 : 560 ≤ c) (hc2 : c ≤ 850) (hw : w ≤ 7) (hu : u ≤ 30) (h0 : ∃ v, lget lw 0 = some v ∧ vOK qH [] (.inr (.inr (some 53))) v) : Ev L d M (268, lw, [], D, 0, 0) (fun v D' => ∃ aw', rep D' aw' ∧ ag qH [] aw aw' ∧ v = some (.inl 0) ∧ RS 1 aw' a e s t c p (w) u) := by
  obtain ⟨hT1, hT2, hT3⟩ := hT
  rcases hT1 with ⟨t0, t1, t2⟩ | ⟨t0, t1, t2⟩
  · subst t0
    refine runH (P := P_ub10) (Q := QB) qH_w hM ch_ub10 all_nil (aw0 := aw) (aw := aw) (fun g => by cases g) rfl (τ0 := [0, (a : Int), (e : Int), (s : Int), (c : Int), (p : Int), (w : Int), (u : Int)]) (σ := [0, (a : Int), (e : Int), (s : Int), (c : Int), (p : Int), (w : Int), (u : Int)]) rfl rfl (Nat.zero_le _) ⟨Nat.zero_le _, Nat.zero_le _⟩ (xt_refl _) ⟨eOK2_L ⟨⟨by decide, by decide⟩, ⟨by dsimp only; omega, by dsimp only; omega⟩, ⟨by dsimp only; omega, by dsimp only; omega⟩, ⟨by dsimp only; omega, by dsimp only; omega⟩, ⟨by dsimp only; omega, by dsimp only; omega⟩, ⟨by dsimp only; omega, by dsimp only; omega⟩, ⟨by dsimp only; omega, by dsimp only; omega⟩, ⟨by dsimp only; omega, by dsimp only; omega⟩, trivial⟩ rfl (all_cons ⟨(a : Int), (e : Int), rfl, rfl, by dsimp only; omega⟩ (all_cons ⟨(e : Int), (s : Int), rfl, rfl, by dsimp only; omega⟩ all_nil)), RS_C hS ⟨by omega, by omega, by omega, by omega, by omega, by omega, by omega, by omega, by omega⟩ ⟨(s : Int), rfl, Int.add_zero _⟩ ⟨0, rfl, rfl⟩ ⟨(a : Int), rfl, Int.add_zero _⟩ ⟨(e : Int), rfl, Int.add_zero _⟩ ⟨0, rfl, rfl⟩ ⟨0, rfl, rfl⟩ ⟨(c : Int), rfl, Int.add_zero _⟩ ⟨(w : Int), rfl, Int.add_zero _⟩ ⟨(p : Int), rfl, Int.add_zero _⟩ ⟨(u : Int), rfl, Int.add_zero _⟩, lvOK_cons h0 lvOK_nil, trivial, hr⟩ (ag_refl _ _ _) ?_ all_nil
    intro o ho τ1 aw' w' D' x1 a1 a2 a3 a4 a5
    have ho := List.mem_singleton.mp ho
    subst ho
    obtain ⟨v, v1, v2⟩ := a5
    have v3 := (vI_of (x1 0 0 rfl) v2).2
    refine ⟨aw', a1, a2, by rw [v1, v3]; rfl, RS_of (hOK_0 a3 a4 rfl) a4 ⟨_, x1 3 (s : Int) rfl, Int.add_zero _⟩ ⟨0, x1 0 0 rfl, rfl⟩ ⟨_, x1 1 (a : Int) rfl, Int.add_zero _⟩ ⟨_, x1 2 (e : Int) rfl, Int.add_zero _⟩ ⟨0, x1 0 0 rfl, rfl⟩ ⟨0, x1 0 0 rfl, rfl⟩ ⟨_, x1 4 (c : Int) rfl, Int.add_zero _⟩ ⟨_, x1 6 (w : Int) rfl, Int.add_zero _⟩ ⟨_, x1 5 (p : Int) rfl, Int.add_zero _⟩ ⟨_, x1 7 (u : Int) rfl, Int.add_zero _⟩⟩
  · refine runH (P := P_ub11) (Q := QB) qH_w hM ch_ub11 all_nil (aw0 := aw) (aw := aw) (fun g => by cases g) rfl (τ0 := [0, (a : Int), (e : Int), (s : Int), (c : Int), (p : Int), (w : Int), (u : Int), (t : Int)]) (σ := [0, (a : Int), (e : Int), (s : Int), (c : Int), (p : Int), (w : Int), (u : Int), (t : Int)]) rfl rfl (Nat.zero_le _) ⟨Nat.zero_le _, Nat.zero_le _⟩ (xt_refl _) ⟨eOK2_L ⟨⟨by decide, by decide⟩, ⟨by dsimp only; omega, by dsimp only; omega⟩, ⟨by dsimp only; omega, by dsimp only; omega⟩, ⟨by dsimp only; omega, by dsimp only; omega⟩, ⟨by dsimp only; omega, by dsimp only; omega⟩, ⟨by dsimp only; omega, by dsimp only; omega⟩, ⟨by dsimp only; omega, by dsimp only; omega⟩, ⟨by dsimp only; omega, by dsimp only; omega⟩, ⟨by dsimp only; omega, by dsimp only; omega⟩, trivial⟩ rfl (all_cons ⟨(a : Int), (e : Int), rfl, rfl, by dsimp only; omega⟩ (all_cons ⟨(e : Int), (s : Int), rfl, rfl, by dsimp only; omega⟩ all_nil)), RS_C hS ⟨by omega, by omega, by omega, by omega, by omega, by omega, by omega, by omega, by omega⟩ ⟨(s : Int), rfl, Int.add_zero _⟩ ⟨0, rfl, rfl⟩ ⟨(a : Int), rfl, Int.add_zero _⟩ ⟨(e : Int), rfl, Int.add_zero _⟩ ⟨(t : Int), rfl, Int.add_zero _⟩ ⟨0, rfl, rfl⟩ ⟨(c : Int), rfl, Int.add_zero _⟩ ⟨(w : Int), rfl, Int.add_zero _⟩ ⟨(p : Int), rfl, Int.add_zero _⟩ ⟨(u : Int), rfl, Int.add_zero _⟩, lvOK_cons h0 lvOK_nil, trivial, hr⟩ (ag_refl _ _ _) ?_ all_nil
    intro o ho τ1 aw' w' D' x1 a1 a2 a3 a4 a5
    have ho := List.mem_singleton.mp ho
    subst ho
    obtain ⟨v, v1, v2⟩ := a5
    have v3 := (vI_of (x1 0 0 rfl) v2).2
    refine ⟨aw', a1, a2, by rw [v1, v3]; rfl, RS_of (hOK_0 a3 a4 rfl) a4 ⟨_, x1 3 (s : Int) rfl, Int.add_zero _⟩ ⟨0, x1 0 0 rfl, rfl⟩ ⟨_, x1 1 (a : Int) rfl, Int.add_zero _⟩ ⟨_, x1 2 (e : Int) rfl, Int.add_zero _⟩ ⟨_, x1 8 (t : Int) rfl, Int.add_zero _⟩ ⟨0, x1 0 0 rfl, rfl⟩ ⟨_, x1 4 (c : Int) rfl, Int.add_zero _⟩ ⟨_, x1 6 (w : Int) rfl, Int.add_zero _⟩ ⟨_, x1 5 (p : Int) rfl, Int.add_zero _⟩ ⟨_, x1 7 (u : Int) rfl, Int.add_zero _⟩⟩
set_option maxHeartbeats 8000000 in
theorem unit_ok1 {L : List Nat} {M : rM} (hM : mT 260 = some M) {d : Nat} (hd : 4 ≤ d) {Aw : List rV} {D : rD} {aw : List rC} {a e s t c w u : Nat} {pile : List (Nat × Nat)} (hr : rep D aw) (hS : RS 1 aw a e s t c pile.length w u) (hT : tokW a e s t) (hJ : JJ 1 true aw c u w pile) (hw : w ≤ 7) (h0 : ∃ v, lget (argsL Aw 0) 0 = some v ∧ vOK qH [] (.inr (.inr (some 53))) v) : Ev L d M (0, argsL Aw 0, [], D, 0, 0) (fun v D' => ∃ aw', rep D' aw' ∧ agU 1 aw aw' ∧ OUTS 1 aw' v a s t) := by
  obtain ⟨j1, j2, j3, j4, j5, j6⟩ := JJ_bound hJ hw
  obtain ⟨hT1, hT2, hT3⟩ := hT
  have hcz : (0 : Nat) ≤ mC M ∧ (0 : Nat) ≤ mS M := ⟨Nat.zero_le _, Nat.zero_le _⟩
  obtain ⟨d', hd'⟩ : ∃ d', d = d' + 1 := ⟨d - 1, by omega⟩
  generalize hpl : pile.length = p at *
  rcases hT1 with ⟨t0, t1, t2⟩ | ⟨t0, t1, t2⟩
  · subst t0
    refine runH (P := P_u10) (Q := QB) qH_w hM ch_u10 all_nil (aw0 := aw) (aw := aw) (fun g => by cases g) rfl (τ0 := [0, (a : Int), (e : Int), (s : Int), (c : Int), (p : Int), (w : Int), (u : Int)]) (σ := [0, (a : Int), (e : Int), (s : Int), (c : Int), (p : Int), (w : Int), (u : Int)]) rfl rfl (Nat.le_trans (by decide) hd) hcz (xt_refl _) ⟨eOK2_L ⟨⟨by decide, by decide⟩, ⟨by dsimp only; omega, by dsimp only; omega⟩, ⟨by dsimp only; omega, by dsimp only; omega⟩, ⟨by dsimp only; omega, by dsimp only; omega⟩, ⟨by dsimp only; omega, by dsimp only; omega⟩, ⟨by dsimp only; omega, by dsimp only; omega⟩, ⟨by dsimp only; omega, by dsimp only; omega⟩, ⟨by dsimp only; omega, by dsimp only; omega⟩, trivial⟩ rfl (all_cons ⟨(a : Int), (e : Int), rfl, rfl, by dsimp only; omega⟩ (all_cons ⟨(e : Int), (s : Int), rfl, rfl, by dsimp only; omega⟩ all_nil)), RS_C hS ⟨by omega, by omega, by omega, by omega, by omega, by omega, by omega, by omega, by omega⟩ ⟨(s : Int), rfl, Int.add_zero _⟩ ⟨0, rfl, rfl⟩ ⟨(a : Int), rfl, Int.add_zero _⟩ ⟨(e : Int), rfl, Int.add_zero _⟩ ⟨0, rfl, rfl⟩ ⟨0, rfl, rfl⟩ ⟨(c : Int), rfl, Int.add_zero _⟩ ⟨(w : Int), rfl, Int.add_zero _⟩ ⟨(p : Int), rfl, Int.add_zero _⟩ ⟨(u : Int), rfl, Int.add_zero _⟩, lvOK_cons h0 lvOK_nil, trivial, hr⟩ (ag_refl _ _ _) ?_ all_nil
    · intro o ho τ1 aw' w' D' x1 a1 a2 a3 a4 a5
      have ho := List.mem_singleton.mp ho
      subst ho
      obtain ⟨v, v1, v2⟩ := a5
      have v3 := (vI_of (x1 0 0 rfl) v2).2
      obtain ⟨f, f1, f2, f3⟩ := a3.2.2.1 8 _ rfl
      have f2 : (1 : Int) ≤ f := f2
      have f3 : f ≤ 4 := f3
      have ef := eI_cast f
      have g4 := (sl_of (j := 4) (i := 8) (o := 0) a4 (by decide +kernel : qH.2[211]? = some 53) (rfl : qH.1[53]? = some _) (by decide) rfl f1).2
      have g35 := (sl_of (j := 35) (i := 4) (o := 0) a4 (by decide +kernel : qH.2[211]? = some 53) (rfl : qH.1[53]? = some _) (by decide) rfl (x1 4 (c : Int) rfl)).2
      rw [Int.add_zero] at g4 g35
      rw [eI_nat (by omega)] at g35
      exact ⟨aw', a1, agU_s (by rfl) (by rfl) a2, Or.inl ⟨by rw [v1, v3]; rfl, hOK_0 a3 a4 rfl, eI f, c, by omega, by omega, g4, g35, j3, by omega, by rw [cd_ag a2 (Or.inr trivial) (by decide)]; exact j6⟩⟩
  · refine runH (P := P_u11) (Q := QB) qH_w hM ch_u11 (all_cons cwo (all_cons ho_2 all_nil)) (aw0 := aw) (aw := aw) (fun g => by cases g) rfl (τ0 := [0, (a : Int), (e : Int), (s : Int), (c : Int), (p : Int), (w : Int), (u : Int), (t : Int)]) (σ := [0, (a : Int), (e : Int), (s : Int), (c : Int), (p : Int), (w : Int), (u : Int), (t : Int)]) rfl rfl (Nat.le_trans (by decide) hd) hcz (xt_refl _) ⟨eOK2_L ⟨⟨by decide, by decide⟩, ⟨by dsimp only; omega, by dsimp only; omega⟩, ⟨by dsimp only; omega, by dsimp only; omega⟩, ⟨by dsimp only; omega, by dsimp only; omega⟩, ⟨by dsimp only; omega, by dsimp only; omega⟩, ⟨by dsimp only; omega, by dsimp only; omega⟩, ⟨by dsimp only; omega, by dsimp only; omega⟩, ⟨by dsimp only; omega, by dsimp only; omega⟩, ⟨by dsimp only; omega, by dsimp only; omega⟩, trivial⟩ rfl (all_cons ⟨(a : Int), (e : Int), rfl, rfl, by dsimp only; omega⟩ (all_cons ⟨(e : Int), (s : Int), rfl, rfl, by dsimp only; omega⟩ all_nil)), RS_C hS ⟨by omega, by omega, by omega, by omega, by omega, by omega, by omega, by omega, by omega⟩ ⟨(s : Int), rfl, Int.add_zero _⟩ ⟨0, rfl, rfl⟩ ⟨(a : Int), rfl, Int.add_zero _⟩ ⟨(e : Int), rfl, Int.add_zero _⟩ ⟨(t : Int), rfl, Int.add_zero _⟩ ⟨0, rfl, rfl⟩ ⟨(c : Int), rfl, Int.add_zero _⟩ ⟨(w : Int), rfl, Int.add_zero _⟩ ⟨(p : Int), rfl, Int.add_zero _⟩ ⟨(u : Int), rfl, Int.add_zero _⟩, lvOK_cons h0 lvOK_nil, trivial, hr⟩ (ag_refl _ _ _) ?_ ?_
    · intro o ho τ1 aw' w' D' x1 a1 a2 a3 a4 a5
      have ho := List.mem_singleton.mp ho
      subst ho
      obtain ⟨v, v1, v2⟩ := a5
      have v3 := (vI_of (x1 0 0 rfl) v2).2
      obtain ⟨f, f1, f2, f3⟩ := a3.2.2.1 9 _ rfl
      have f2 : (1 : Int) ≤ f := f2
      have f3 : f ≤ 4 := f3
      have ef := eI_cast f
      have g4 := (sl_of (j := 4) (i := 9) (o := 0) a4 (by decide +kernel : qH.2[211]? = some 53) (rfl : qH.1[53]? = some _) (by decide) rfl f1).2
      have g35 := (sl_of (j := 35) (i := 4) (o := 0) a4 (by decide +kernel : qH.2[211]? = some 53) (rfl : qH.1[53]? = some _) (by decide) rfl (x1 4 (c : Int) rfl)).2
      rw [Int.add_zero] at g4 g35
      rw [eI_nat (by omega)] at g35
      exact ⟨aw', a1, agU_s (by rfl) (by rfl) a2, Or.inl ⟨by rw [v1, v3]; rfl, hOK_0 a3 a4 rfl, eI f, c, by omega, by omega, g4, g35, j3, by omega, by rw [cd_ag a2 (Or.inr trivial) (by decide)]; exact j6⟩⟩
    · intro cc hcc τ1 aw1 lw1 sw1 D1 x1 a1 a2 a3 a4 a5 a6
      have hJ1 : JJ 1 true aw1 c u w pile := JJ_ag hJ (fun j => a2.2 233 75 j (by decide +kernel) rfl) (fun j => a2.2 234 76 j (by decide +kernel) rfl) (fun j => a2.2 pCode 73 j (by decide +kernel) rfl)
      rw [hd']
      rcases List.mem_cons.mp hcc with hcc | hcc
      · subst hcc
        match sw1, a6 with
        | [p0, p1, p2], _ =>
          obtain ⟨v0, w0, y0⟩ := a5 0 _ rfl
          obtain ⟨v3, w3, y3⟩ := a5 200 _ rfl
          obtain ⟨v4, w4, y4⟩ := a5 201 _ rfl
          obtain ⟨v5, w5, y5⟩ := a5 202 _ rfl
          have w0 : lget lw1 0 = some v0 := w0
          have w3 : some p0 = some v3 := w3
          have w4 : some p1 = some v4 := w4
          have w5 : some p2 = some v5 := w5
          cases w3
          cases w4
          cases w5
          obtain ⟨wy, wy1, wy2, wy3⟩ := a3.2.2.1 6 _ rfl
          rw [x1 6 (w : Int) rfl] at wy1
          cases wy1
          obtain ⟨uy, uy1, uy2, uy3⟩ := a3.2.2.1 7 _ rfl
          rw [x1 7 (u : Int) rfl] at uy1
          cases uy1
          have wy3 : (w : Int) ≤ 6 := wy3
          have hh1 := hOK_0 a3 a4 rfl
          have hS1 : RS 1 aw1 s s s 0 c p w u := RS_of hh1 a4 ⟨_, x1 3 (s : Int) rfl, Int.add_zero _⟩ ⟨0, x1 0 0 rfl, rfl⟩ ⟨_, x1 3 (s : Int) rfl, Int.add_zero _⟩ ⟨_, x1 3 (s : Int) rfl, Int.add_zero _⟩ ⟨0, x1 0 0 rfl, rfl⟩ ⟨0, x1 0 0 rfl, rfl⟩ ⟨_, x1 4 (c : Int) rfl, Int.add_zero _⟩ ⟨_, x1 6 (w : Int) rfl, Int.add_zero _⟩ ⟨_, x1 5 (p : Int) rfl, Int.add_zero _⟩ ⟨_, x1 7 (u : Int) rfl, Int.add_zero _⟩
          have hT1 : tokOK s s s 0 := ⟨Or.inl ⟨rfl, rfl, rfl⟩, by omega, by omega⟩
          have hp37 := hS1.2.2.2.2.2.2.2.2.2.1
          have hc35 := hS1.2.2.2.2.2.2.2.1
          have i3 := (vI_of (x1 0 0 rfl) y3).2
          have i4 := (vI_of (x1 0 0 rfl) y4).2
          have i3 : p0 = .inl 126 := i3
          have i4 : p1 = .inl 3 := i4
          rw [i3, i4]
          refine ev_push (mk_X12_unit_235 hM) hcz a1 hh1 (by decide) (by decide) (by omega) hp37 (Nat.zero_le _) y5 (fun D2 aw2 b1 b2 b3 b4 b5 b6 => ?_)
          have hS2 := RS_37 hS1 b2 b3 b4
          have hJ2 := JJ_not hJ1 (by rw [hpl]; exact b5) (by rw [hpl]; exact b6) (fun j => b3.2 pCode 73 j (by decide +kernel) rfl)
          refine Ev_mono (ua_ok1 hM (d := d' + 1) b1 hS2 hT1 (by omega) (by omega) (by omega) (by omega) (by omega) (by omega) ⟨_, w0, y0⟩) ?_
          rintro v D' ⟨aw', c1, c2, c3, c4⟩
          have hJ3 := JJ_ag hJ2 (fun j => c2.2 233 75 j (by decide +kernel) rfl) (fun j => c2.2 234 76 j (by decide +kernel) rfl) (fun j => c2.2 pCode 73 j (by decide +kernel) rfl)
          refine ⟨aw', c1, agU_trans (agU_s (by rfl) (by rfl) a2) (agU_trans (agU_s (by rfl) (by rfl) b3) (agU_s (by rfl) (by rfl) c2)), Or.inr (Or.inr (Or.inl ⟨c3, s, s, 0, c, w + 1, u, _, ?_, hT1, hJ3, by omega, t0, by omega⟩))⟩
          rw [List.length_append, hpl]
          exact c4
      rcases List.mem_cons.mp hcc with hcc | hcc
      · subst hcc
        match sw1, a6 with
        | [p0, p1, p2], _ =>
          obtain ⟨v0, w0, y0⟩ := a5 0 _ rfl
          obtain ⟨v3, w3, y3⟩ := a5 200 _ rfl
          obtain ⟨v4, w4, y4⟩ := a5 201 _ rfl
          obtain ⟨v5, w5, y5⟩ := a5 202 _ rfl
          have w0 : lget lw1 0 = some v0 := w0
          have w3 : some p0 = some v3 := w3
          have w4 : some p1 = some v4 := w4
          have w5 : some p2 = some v5 := w5
          cases w3
          cases w4
          cases w5
          obtain ⟨t', q1, q2, q3⟩ := a3.2.2.1 9 _ rfl
          obtain ⟨a', q4, q5, q6⟩ := a3.2.2.1 10 _ rfl
          obtain ⟨e', q7, q8, q9⟩ := a3.2.2.1 11 _ rfl
          have q2 : (1 : Int) ≤ t' := q2
          have q3 : t' ≤ 5 := q3
          have q5 : (0 : Int) ≤ a' := q5
          have q6 : a' ≤ 1600 := q6
          have q8 : (0 : Int) ≤ e' := q8
          have q9 : e' ≤ 1600 := q9
          obtain ⟨u1, u2, u3, u4, u5⟩ := a3.2.2.2.1 (2, 10, 0) (List.mem_of_getElem? (i := 2) rfl)
          rw [x1 2 (e : Int) rfl] at u3
          cases u3
          rw [q4] at u4
          cases u4
          have u5 : (e : Int) + 0 ≤ a' := u5
          obtain ⟨m1, m2, m3, m4, m5⟩ := a3.2.2.2.1 (10, 11, 1) (List.mem_of_getElem? (i := 3) rfl)
          rw [q4] at m3
          cases m3
          rw [q7] at m4
          cases m4
          have m5 : a' + 1 ≤ e' := m5
          obtain ⟨n1, n2, n3, n4, n5⟩ := a3.2.2.2.1 (11, 3, 0) (List.mem_of_getElem? (i := 4) rfl)
          rw [q7] at n3
          cases n3
          rw [x1 3 (s : Int) rfl] at n4
          cases n4
          have n5 : e' + 0 ≤ (s : Int) := n5
          obtain ⟨tn, rfl⟩ : ∃ k : Nat, t' = (k : Int) := ⟨t'.toNat, by omega⟩
          obtain ⟨an, rfl⟩ : ∃ k : Nat, a' = (k : Int) := ⟨a'.toNat, by omega⟩
          obtain ⟨en, rfl⟩ : ∃ k : Nat, e' = (k : Int) := ⟨e'.toNat, by omega⟩
          obtain ⟨wy, wy1, wy2, wy3⟩ := a3.2.2.1 6 _ rfl
          rw [x1 6 (w : Int) rfl] at wy1
          cases wy1
          obtain ⟨uy, uy1, uy2, uy3⟩ := a3.2.2.1 7 _ rfl
          rw [x1 7 (u : Int) rfl] at uy1
          cases uy1
          have wy3 : (w : Int) ≤ 6 := wy3
          have hh1 := hOK_0 a3 a4 rfl
          have hS1 : RS 1 aw1 an en s tn c p w u := RS_of hh1 a4 ⟨_, x1 3 (s : Int) rfl, Int.add_zero _⟩ ⟨0, x1 0 0 rfl, rfl⟩ ⟨_, q4, Int.add_zero _⟩ ⟨_, q7, Int.add_zero _⟩ ⟨_, q1, Int.add_zero _⟩ ⟨0, x1 0 0 rfl, rfl⟩ ⟨_, x1 4 (c : Int) rfl, Int.add_zero _⟩ ⟨_, x1 6 (w : Int) rfl, Int.add_zero _⟩ ⟨_, x1 5 (p : Int) rfl, Int.add_zero _⟩ ⟨_, x1 7 (u : Int) rfl, Int.add_zero _⟩
          have hT1 : tokOK an en s tn := ⟨Or.inr ⟨by omega, by omega, by omega⟩, by omega, by omega⟩
          have hp37 := hS1.2.2.2.2.2.2.2.2.2.1
          have hc35 := hS1.2.2.2.2.2.2.2.1
          have i3 := (vI_of (x1 0 0 rfl) y3).2
          have i4 := (vI_of (x1 0 0 rfl) y4).2
          have i3 : p0 = .inl 126 := i3
          have i4 : p1 = .inl 3 := i4
          rw [i3, i4]
          refine ev_push (mk_X12_unit_235 hM) hcz a1 hh1 (by decide) (by decide) (by omega) hp37 (Nat.zero_le _) y5 (fun D2 aw2 b1 b2 b3 b4 b5 b6 => ?_)
          have hS2 := RS_37 hS1 b2 b3 b4
          have hJ2 := JJ_not hJ1 (by rw [hpl]; exact b5) (by rw [hpl]; exact b6) (fun j => b3.2 pCode 73 j (by decide +kernel) rfl)
          refine Ev_mono (ua_ok1 hM (d := d' + 1) b1 hS2 hT1 (by omega) (by omega) (by omega) (by omega) (by omega) (by omega) ⟨_, w0, y0⟩) ?_
          rintro v D' ⟨aw', c1, c2, c3, c4⟩
          have hJ3 := JJ_ag hJ2 (fun j => c2.2 233 75 j (by decide +kernel) rfl) (fun j => c2.2 234 76 j (by decide +kernel) rfl) (fun j => c2.2 pCode 73 j (by decide +kernel) rfl)
          refine ⟨aw', c1, agU_trans (agU_s (by rfl) (by rfl) a2) (agU_trans (agU_s (by rfl) (by rfl) b3) (agU_s (by rfl) (by rfl) c2)), Or.inr (Or.inr (Or.inl ⟨c3, an, en, tn, c, w + 1, u, _, ?_, hT1, hJ3, by omega, t0, by omega⟩))⟩
          rw [List.length_append, hpl]
          exact c4
      rcases List.mem_cons.mp hcc with hcc | hcc
      · subst hcc
        match sw1, a6 with
        | [p0, p1, p2], _ =>
          obtain ⟨v0, w0, y0⟩ := a5 0 _ rfl
          obtain ⟨v3, w3, y3⟩ := a5 200 _ rfl
          obtain ⟨v4, w4, y4⟩ := a5 201 _ rfl
          obtain ⟨v5, w5, y5⟩ := a5 202 _ rfl
          have w0 : lget lw1 0 = some v0 := w0
          have w3 : some p0 = some v3 := w3
          have w4 : some p1 = some v4 := w4
          have w5 : some p2 = some v5 := w5
          cases w3
          cases w4
          cases w5
          obtain ⟨wy, wy1, wy2, wy3⟩ := a3.2.2.1 6 _ rfl
          rw [x1 6 (w : Int) rfl] at wy1
          cases wy1
          obtain ⟨uy, uy1, uy2, uy3⟩ := a3.2.2.1 7 _ rfl
          rw [x1 7 (u : Int) rfl] at uy1
          cases uy1
          have wy3 : (w : Int) ≤ 6 := wy3
          have uy3 : (u : Int) ≤ 29 := uy3
          have hh1 := hOK_0 a3 a4 rfl
          have hS1 : RS 1 aw1 s s s 0 c p w (u + 1) := RS_of hh1 a4 ⟨_, x1 3 (s : Int) rfl, Int.add_zero _⟩ ⟨0, x1 0 0 rfl, rfl⟩ ⟨_, x1 3 (s : Int) rfl, Int.add_zero _⟩ ⟨_, x1 3 (s : Int) rfl, Int.add_zero _⟩ ⟨0, x1 0 0 rfl, rfl⟩ ⟨0, x1 0 0 rfl, rfl⟩ ⟨_, x1 4 (c : Int) rfl, Int.add_zero _⟩ ⟨_, x1 6 (w : Int) rfl, Int.add_zero _⟩ ⟨_, x1 5 (p : Int) rfl, Int.add_zero _⟩ ⟨_, x1 7 (u : Int) rfl, by omega⟩
          have hT1 : tokOK s s s 0 := ⟨Or.inl ⟨rfl, rfl, rfl⟩, by omega, by omega⟩
          have hp37 := hS1.2.2.2.2.2.2.2.2.2.1
          have hc35 := hS1.2.2.2.2.2.2.2.1
          have i3 := (vI_of (x1 0 0 rfl) y3).2
          have i4 := (vI_of (x1 0 0 rfl) y4).2
          have i3 : p0 = .inl 126 := i3
          have i4 : p1 = .inl 7 := i4
          rw [i3, i4]
          refine ev_push (mk_X12_unit_235 hM) hcz a1 hh1 (by decide) (by decide) (by omega) hp37 (Nat.zero_le _) y5 (fun D2 aw2 b1 b2 b3 b4 b5 b6 => ?_)
          have hS2 := RS_37 hS1 b2 b3 b4
          have hJ2 := JJ_bracket hJ1 (by omega) (by rw [hpl]; exact b5) (by rw [hpl]; exact b6) (fun j => b3.2 pCode 73 j (by decide +kernel) rfl)
          refine Ev_mono (ua_ok1 hM (d := d' + 1) b1 hS2 hT1 (by omega) (by omega) (by omega) (by omega) (by omega) (by omega) ⟨_, w0, y0⟩) ?_
          rintro v D' ⟨aw', c1, c2, c3, c4⟩
          have hJ3 := JJ_ag hJ2 (fun j => c2.2 233 75 j (by decide +kernel) rfl) (fun j => c2.2 234 76 j (by decide +kernel) rfl) (fun j => c2.2 pCode 73 j (by decide +kernel) rfl)
          refine ⟨aw', c1, agU_trans (agU_s (by rfl) (by rfl) a2) (agU_trans (agU_s (by rfl) (by rfl) b3) (agU_s (by rfl) (by rfl) c2)), Or.inr (Or.inr (Or.inl ⟨c3, s, s, 0, c, w + 1, (u + 1), _, ?_, hT1, hJ3, by omega, t0, by omega⟩))⟩
          rw [List.length_append, hpl]
          exact c4
      rcases List.mem_cons.mp hcc with hcc | hcc
      · subst hcc
        match sw1, a6 with
        | [p0, p1, p2], _ =>
          obtain ⟨v0, w0, y0⟩ := a5 0 _ rfl
          obtain ⟨v3, w3, y3⟩ := a5 200 _ rfl
          obtain ⟨v4, w4, y4⟩ := a5 201 _ rfl
          obtain ⟨v5, w5, y5⟩ := a5 202 _ rfl
          have w0 : lget lw1 0 = some v0 := w0
          have w3 : some p0 = some v3 := w3
          have w4 : some p1 = some v4 := w4
          have w5 : some p2 = some v5 := w5
          cases w3
          cases w4
          cases w5
          obtain ⟨t', q1, q2, q3⟩ := a3.2.2.1 9 _ rfl
          obtain ⟨a', q4, q5, q6⟩ := a3.2.2.1 10 _ rfl
          obtain ⟨e', q7, q8, q9⟩ := a3.2.2.1 11 _ rfl
          have q2 : (1 : Int) ≤ t' := q2
          have q3 : t' ≤ 5 := q3
          have q5 : (0 : Int) ≤ a' := q5
          have q6 : a' ≤ 1600 := q6
          have q8 : (0 : Int) ≤ e' := q8
          have q9 : e' ≤ 1600 := q9
          obtain ⟨u1, u2, u3, u4, u5⟩ := a3.2.2.2.1 (2, 10, 0) (List.mem_of_getElem? (i := 2) rfl)
          rw [x1 2 (e : Int) rfl] at u3
          cases u3
          rw [q4] at u4
          cases u4
          have u5 : (e : Int) + 0 ≤ a' := u5
          obtain ⟨m1, m2, m3, m4, m5⟩ := a3.2.2.2.1 (10, 11, 1) (List.mem_of_getElem? (i := 3) rfl)
          rw [q4] at m3
          cases m3
          rw [q7] at m4
          cases m4
          have m5 : a' + 1 ≤ e' := m5
          obtain ⟨n1, n2, n3, n4, n5⟩ := a3.2.2.2.1 (11, 3, 0) (List.mem_of_getElem? (i := 4) rfl)
          rw [q7] at n3
          cases n3
          rw [x1 3 (s : Int) rfl] at n4
          cases n4
          have n5 : e' + 0 ≤ (s : Int) := n5
          obtain ⟨tn, rfl⟩ : ∃ k : Nat, t' = (k : Int) := ⟨t'.toNat, by omega⟩
          obtain ⟨an, rfl⟩ : ∃ k : Nat, a' = (k : Int) := ⟨a'.toNat, by omega⟩
          obtain ⟨en, rfl⟩ : ∃ k : Nat, e' = (k : Int) := ⟨e'.toNat, by omega⟩
          obtain ⟨wy, wy1, wy2, wy3⟩ := a3.2.2.1 6 _ rfl
          rw [x1 6 (w : Int) rfl] at wy1
          cases wy1
          obtain ⟨uy, uy1, uy2, uy3⟩ := a3.2.2.1 7 _ rfl
          rw [x1 7 (u : Int) rfl] at uy1
          cases uy1
          have wy3 : (w : Int) ≤ 6 := wy3
          have uy3 : (u : Int) ≤ 29 := uy3
          have hh1 := hOK_0 a3 a4 rfl
          have hS1 : RS 1 aw1 an en s tn c p w (u + 1) := RS_of hh1 a4 ⟨_, x1 3 (s : Int) rfl, Int.add_zero _⟩ ⟨0, x1 0 0 rfl, rfl⟩ ⟨_, q4, Int.add_zero _⟩ ⟨_, q7, Int.add_zero _⟩ ⟨_, q1, Int.add_zero _⟩ ⟨0, x1 0 0 rfl, rfl⟩ ⟨_, x1 4 (c : Int) rfl, Int.add_zero _⟩ ⟨_, x1 6 (w : Int) rfl, Int.add_zero _⟩ ⟨_, x1 5 (p : Int) rfl, Int.add_zero _⟩ ⟨_, x1 7 (u : Int) rfl, by omega⟩
          have hT1 : tokOK an en s tn := ⟨Or.inr ⟨by omega, by omega, by omega⟩, by omega, by omega⟩
          have hp37 := hS1.2.2.2.2.2.2.2.2.2.1
          have hc35 := hS1.2.2.2.2.2.2.2.1
          have i3 := (vI_of (x1 0 0 rfl) y3).2
          have i4 := (vI_of (x1 0 0 rfl) y4).2
          have i3 : p0 = .inl 126 := i3
          have i4 : p1 = .inl 7 := i4
          rw [i3, i4]
          refine ev_push (mk_X12_unit_235 hM) hcz a1 hh1 (by decide) (by decide) (by omega) hp37 (Nat.zero_le _) y5 (fun D2 aw2 b1 b2 b3 b4 b5 b6 => ?_)
          have hS2 := RS_37 hS1 b2 b3 b4
          have hJ2 := JJ_bracket hJ1 (by omega) (by rw [hpl]; exact b5) (by rw [hpl]; exact b6) (fun j => b3.2 pCode 73 j (by decide +kernel) rfl)
          refine Ev_mono (ua_ok1 hM (d := d' + 1) b1 hS2 hT1 (by omega) (by omega) (by omega) (by omega) (by omega) (by omega) ⟨_, w0, y0⟩) ?_
          rintro v D' ⟨aw', c1, c2, c3, c4⟩
          have hJ3 := JJ_ag hJ2 (fun j => c2.2 233 75 j (by decide +kernel) rfl) (fun j => c2.2 234 76 j (by decide +kernel) rfl) (fun j => c2.2 pCode 73 j (by decide +kernel) rfl)
          refine ⟨aw', c1, agU_trans (agU_s (by rfl) (by rfl) a2) (agU_trans (agU_s (by rfl) (by rfl) b3) (agU_s (by rfl) (by rfl) c2)), Or.inr (Or.inr (Or.inl ⟨c3, an, en, tn, c, w + 1, (u + 1), _, ?_, hT1, hJ3, by omega, t0, by omega⟩))⟩
          rw [List.length_append, hpl]
          exact c4
      rcases List.mem_cons.mp hcc with hcc | hcc
      · subst hcc
        match sw1, a6 with
        | [p0, p1, p2], _ =>
          obtain ⟨v0, w0, y0⟩ := a5 0 _ rfl
          obtain ⟨v3, w3, y3⟩ := a5 200 _ rfl
          obtain ⟨v4, w4, y4⟩ := a5 201 _ rfl
          obtain ⟨v5, w5, y5⟩ := a5 202 _ rfl
          have w0 : lget lw1 0 = some v0 := w0
          have w3 : some p0 = some v3 := w3
          have w4 : some p1 = some v4 := w4
          have w5 : some p2 = some v5 := w5
          cases w3
          cases w4
          cases w5
          obtain ⟨wy, wy1, wy2, wy3⟩ := a3.2.2.1 6 _ rfl
          rw [x1 6 (w : Int) rfl] at wy1
          cases wy1
          obtain ⟨uy, uy1, uy2, uy3⟩ := a3.2.2.1 7 _ rfl
          rw [x1 7 (u : Int) rfl] at uy1
          cases uy1
          have uy3 : (u : Int) ≤ 29 := uy3
          have hh1 := hOK_0 a3 a4 rfl
          have hS1 : RS 1 aw1 s s s 0 c p w (u + 1) := RS_of hh1 a4 ⟨_, x1 3 (s : Int) rfl, Int.add_zero _⟩ ⟨0, x1 0 0 rfl, rfl⟩ ⟨_, x1 3 (s : Int) rfl, Int.add_zero _⟩ ⟨_, x1 3 (s : Int) rfl, Int.add_zero _⟩ ⟨0, x1 0 0 rfl, rfl⟩ ⟨0, x1 0 0 rfl, rfl⟩ ⟨_, x1 4 (c : Int) rfl, Int.add_zero _⟩ ⟨_, x1 6 (w : Int) rfl, Int.add_zero _⟩ ⟨_, x1 5 (p : Int) rfl, Int.add_zero _⟩ ⟨_, x1 7 (u : Int) rfl, by omega⟩
          have hT1 : tokOK s s s 0 := ⟨Or.inl ⟨rfl, rfl, rfl⟩, by omega, by omega⟩
          have hp37 := hS1.2.2.2.2.2.2.2.2.2.1
          have hc35 := hS1.2.2.2.2.2.2.2.1
          obtain ⟨ny, ny1, ny2, ny3⟩ := a3.2.2.1 9 _ rfl
          obtain ⟨xy, xy1, xy2, xy3⟩ := a3.2.2.1 10 _ rfl
          have xy2 : (97 : Int) ≤ xy := xy2
          have xy3 : xy ≤ 122 := xy3
          have i3 := (vI_of ny1 y3).2
          have i4 := (vI_of xy1 y4).2
          rw [Int.add_zero] at i3 i4
          obtain ⟨xn, rfl⟩ : ∃ k : Nat, xy = (k : Int) := ⟨xy.toNat, by omega⟩
          rw [eI_nat (by omega)] at i4
          rw [i3, i4]
          refine ev_emit (mk_X12_unit_265 hM) hcz a1 hh1 (by omega) (eI_lt _) (by omega) hc35 (Nat.zero_le _) y5 (fun D2 aw2 b1 b2 b3 b4 b5 => ?_)
          have hS2 := RS_35 hS1 b2 b3 b4
          have hJ2 := JJ_leaf (x := xn) hJ1 hw (by omega) ⟨by omega, by omega⟩ (fun j => b3.2 233 75 j (by decide +kernel) rfl) (fun j => b3.2 234 76 j (by decide +kernel) rfl) b5
          refine Ev_mono (ub_ok1 hM (d := d' + 1) b1 hS2 hT1 (by omega) (by omega) (by omega) (by omega) hw (by omega) ⟨_, w0, y0⟩) ?_
          rintro v D' ⟨aw', c1, c2, c3, c4⟩
          have hJ3 := JJ_ag hJ2 (fun j => c2.2 233 75 j (by decide +kernel) rfl) (fun j => c2.2 234 76 j (by decide +kernel) rfl) (fun j => c2.2 pCode 73 j (by decide +kernel) rfl)
          refine ⟨aw', c1, agU_trans (agU_s (by rfl) (by rfl) a2) (agU_trans (agU_e (by rfl) b3 b5 ⟨j3, by omega⟩) (agU_s (by rfl) (by rfl) c2)), Or.inr (Or.inr (Or.inr (Or.inl ⟨c3, s, s, 0, c + 1, w, u + 1, pile, ?_, hT1, hJ3, hw, t0, by omega⟩)))⟩
          rw [hpl]
          exact c4
      have hcc := List.mem_singleton.mp hcc
      subst hcc
      match sw1, a6 with
      | [p0, p1, p2], _ =>
        obtain ⟨v0, w0, y0⟩ := a5 0 _ rfl
        obtain ⟨v3, w3, y3⟩ := a5 200 _ rfl
        obtain ⟨v4, w4, y4⟩ := a5 201 _ rfl
        obtain ⟨v5, w5, y5⟩ := a5 202 _ rfl
        have w0 : lget lw1 0 = some v0 := w0
        have w3 : some p0 = some v3 := w3
        have w4 : some p1 = some v4 := w4
        have w5 : some p2 = some v5 := w5
        cases w3
        cases w4
        cases w5
        obtain ⟨t', q1, q2, q3⟩ := a3.2.2.1 9 _ rfl
        obtain ⟨a', q4, q5, q6⟩ := a3.2.2.1 10 _ rfl
        obtain ⟨e', q7, q8, q9⟩ := a3.2.2.1 11 _ rfl
        have q2 : (1 : Int) ≤ t' := q2
        have q3 : t' ≤ 5 := q3
        have q5 : (0 : Int) ≤ a' := q5
        have q6 : a' ≤ 1600 := q6
        have q8 : (0 : Int) ≤ e' := q8
        have q9 : e' ≤ 1600 := q9
        obtain ⟨u1, u2, u3, u4, u5⟩ := a3.2.2.2.1 (2, 10, 0) (List.mem_of_getElem? (i := 2) rfl)
        rw [x1 2 (e : Int) rfl] at u3
        cases u3
        rw [q4] at u4
        cases u4
        have u5 : (e : Int) + 0 ≤ a' := u5
        obtain ⟨m1, m2, m3, m4, m5⟩ := a3.2.2.2.1 (10, 11, 1) (List.mem_of_getElem? (i := 3) rfl)
        rw [q4] at m3
        cases m3
        rw [q7] at m4
        cases m4
        have m5 : a' + 1 ≤ e' := m5
        obtain ⟨n1, n2, n3, n4, n5⟩ := a3.2.2.2.1 (11, 3, 0) (List.mem_of_getElem? (i := 4) rfl)
        rw [q7] at n3
        cases n3
        rw [x1 3 (s : Int) rfl] at n4
        cases n4
        have n5 : e' + 0 ≤ (s : Int) := n5
        obtain ⟨tn, rfl⟩ : ∃ k : Nat, t' = (k : Int) := ⟨t'.toNat, by omega⟩
        obtain ⟨an, rfl⟩ : ∃ k : Nat, a' = (k : Int) := ⟨a'.toNat, by omega⟩
        obtain ⟨en, rfl⟩ : ∃ k : Nat, e' = (k : Int) := ⟨e'.toNat, by omega⟩
        obtain ⟨wy, wy1, wy2, wy3⟩ := a3.2.2.1 6 _ rfl
        rw [x1 6 (w : Int) rfl] at wy1
        cases wy1
        obtain ⟨uy, uy1, uy2, uy3⟩ := a3.2.2.1 7 _ rfl
        rw [x1 7 (u : Int) rfl] at uy1
        cases uy1
        have uy3 : (u : Int) ≤ 29 := uy3
        have hh1 := hOK_0 a3 a4 rfl
        have hS1 : RS 1 aw1 an en s tn c p w (u + 1) := RS_of hh1 a4 ⟨_, x1 3 (s : Int) rfl, Int.add_zero _⟩ ⟨0, x1 0 0 rfl, rfl⟩ ⟨_, q4, Int.add_zero _⟩ ⟨_, q7, Int.add_zero _⟩ ⟨_, q1, Int.add_zero _⟩ ⟨0, x1 0 0 rfl, rfl⟩ ⟨_, x1 4 (c : Int) rfl, Int.add_zero _⟩ ⟨_, x1 6 (w : Int) rfl, Int.add_zero _⟩ ⟨_, x1 5 (p : Int) rfl, Int.add_zero _⟩ ⟨_, x1 7 (u : Int) rfl, by omega⟩
        have hT1 : tokOK an en s tn := ⟨Or.inr ⟨by omega, by omega, by omega⟩, by omega, by omega⟩
        have hp37 := hS1.2.2.2.2.2.2.2.2.2.1
        have hc35 := hS1.2.2.2.2.2.2.2.1
        obtain ⟨ny, ny1, ny2, ny3⟩ := a3.2.2.1 12 _ rfl
        obtain ⟨xy, xy1, xy2, xy3⟩ := a3.2.2.1 13 _ rfl
        have xy2 : (97 : Int) ≤ xy := xy2
        have xy3 : xy ≤ 122 := xy3
        have i3 := (vI_of ny1 y3).2
        have i4 := (vI_of xy1 y4).2
        rw [Int.add_zero] at i3 i4
        obtain ⟨xn, rfl⟩ : ∃ k : Nat, xy = (k : Int) := ⟨xy.toNat, by omega⟩
        rw [eI_nat (by omega)] at i4
        rw [i3, i4]
        refine ev_emit (mk_X12_unit_265 hM) hcz a1 hh1 (by omega) (eI_lt _) (by omega) hc35 (Nat.zero_le _) y5 (fun D2 aw2 b1 b2 b3 b4 b5 => ?_)
        have hS2 := RS_35 hS1 b2 b3 b4
        have hJ2 := JJ_leaf (x := xn) hJ1 hw (by omega) ⟨by omega, by omega⟩ (fun j => b3.2 233 75 j (by decide +kernel) rfl) (fun j => b3.2 234 76 j (by decide +kernel) rfl) b5
        refine Ev_mono (ub_ok1 hM (d := d' + 1) b1 hS2 hT1 (by omega) (by omega) (by omega) (by omega) hw (by omega) ⟨_, w0, y0⟩) ?_
        rintro v D' ⟨aw', c1, c2, c3, c4⟩
        have hJ3 := JJ_ag hJ2 (fun j => c2.2 233 75 j (by decide +kernel) rfl) (fun j => c2.2 234 76 j (by decide +kernel) rfl) (fun j => c2.2 pCode 73 j (by decide +kernel) rfl)
        refine ⟨aw', c1, agU_trans (agU_s (by rfl) (by rfl) a2) (agU_trans (agU_e (by rfl) b3 b5 ⟨j3, by omega⟩) (agU_s (by rfl) (by rfl) c2)), Or.inr (Or.inr (Or.inr (Or.inl ⟨c3, an, en, tn, c + 1, w, u + 1, pile, ?_, hT1, hJ3, hw, t0, by omega⟩)))⟩
        rw [hpl]
        exact c4
