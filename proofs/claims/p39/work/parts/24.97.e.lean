/-! by hand: a rule's reading -/
abbrev PostE (r : Nat) (aw0 : List rC) (a s : Nat) : Option rV → rD → Prop := fun v D' => v = none ∧ ∃ aw', rep D' aw' ∧ agU r aw0 aw' ∧ (FLT r aw' ∨ DON r aw' a s)
theorem FLT_0 {r : Nat} {md : List (Nat × Nat)} {aw aw' : List rC} (h : FLT r aw) (hh : hOK qH [0] [] aw') (ha : ag qH md aw aw') (hm : mdsub md [] = true) : FLT r aw' := by
  obtain ⟨_, f, c, f1, f2, f3, f4, f5, f6, f7⟩ := h
  have ha := ag_sub hm ha
  exact ⟨hh, f, c, f1, f2, by rw [ha.2 211 53 4 (by decide +kernel) rfl]; exact f3, by rw [ha.2 211 53 35 (by decide +kernel) rfl]; exact f4, f5, f6, by rw [cd_ag ha (Or.inr trivial) (by decide)]; exact f7⟩
theorem DON_0 {r a s : Nat} {md : List (Nat × Nat)} {aw aw' : List rC} (h : DON r aw a s) (hh : hOK qH [0] [] aw') (ha : ag qH md aw aw') (hm : mdsub md [] = true) : DON r aw' a s := by
  obtain ⟨a', e, t, c, w, u, f1, f2, f3, f4, f5, f6⟩ := h
  have ha := ag_sub hm ha
  exact ⟨a', e, t, c, w, u, RS_0 f1 hh ha rfl, f2, f3, f4, f5, by rw [cd_ag ha (Or.inr trivial) (by decide)]; exact f6⟩
theorem JJ_start {r : Nat} {aw : List rC} (h1 : sl aw 233 0 = some (.inl 8)) (h2 : sl aw 234 0 = some (.inl 0)) : JJ r true aw (560 * r) 0 0 [(8, 0)] := by
  refine ⟨fun i e he => ?_, ⟨0, [], rfl, fun e he => absurd he List.not_mem_nil⟩, rfl, Nat.le_refl _, 0, ?_, Nat.le_refl _, by decide, fun _ => ⟨rfl, ?_⟩, fun h => by cases h⟩
  · cases i with
    | zero => cases he; exact ⟨h1, h2⟩
    | succ i => cases he
  · rw [Nat.sub_self]; rfl
  · rw [Nat.sub_self]; decide
theorem e_out {L : List Nat} {M : rM} (hM : mT 253 = some M) {d : Nat} (hd : 6 ≤ d + 1) {r a s v : Nat} {aw0 aw1 : List rC} {lw1 : rK} {D1 : rD} (hv : v = 0 ∨ v = 1) (a11 : rep D1 aw1) (ha : agU r aw0 aw1) (h0 : ∃ v, lget lw1 0 = some v ∧ vOK qH [] (.inr (.inr (some 53))) v) (h1 : lget lw1 1 = some (.inl v)) (h : FLT r aw1 ∨ (v = 0 ∧ DON r aw1 a s)) : Ev L (d + 1) M (19, lw1, [], D1, 0, 0) (PostE r aw0 a s) := by
  have hcz : (0 : Nat) ≤ mC M ∧ (0 : Nat) ≤ mS M := ⟨Nat.zero_le _, Nat.zero_le _⟩
  have hd2 : 2 ≤ d + 1 := by omega
  obtain ⟨v01, w01, y01⟩ := h0
  rcases h with h | ⟨h2, h⟩
  · obtain ⟨hh, f, c, f1, f2, f3, f4, f5, f6, f7⟩ := id h
    rcases hv with hv | hv
    · subst hv
      refine runH (P := P_ee40) (Q := QB) qH_w hM ch_ee40 all_nil (aw0 := aw1) (aw := aw1) (fun g => by cases g) rfl (τ0 := [0, (f : Int)]) (σ := [0, (f : Int)]) rfl rfl (Nat.le_trans (by decide) hd2) hcz (xt_refl _) ⟨eOK2_L ⟨⟨by decide, by decide⟩, ⟨by dsimp only; omega, by dsimp only; omega⟩, trivial⟩ rfl all_nil, hOK_mk hh (all_cons ⟨_, f3, vN ⟨(f : Int), rfl, Int.add_zero _⟩ (by omega)⟩ all_nil), lvOK_cons ⟨_, w01, y01⟩ (lvOK_cons ⟨_, h1, vI (y := 0) (z := 0) rfl (by decide) ⟨by decide, by decide⟩ (by decide)⟩ lvOK_nil), trivial, a11⟩ (ag_refl _ _ _) ?_ all_nil
      intro o ho τ1 aw' w' D' x1 a1 a2 a3 a4 a5
      have ho := List.mem_singleton.mp ho
      subst ho
      exact ⟨a5, aw', a1, agU_trans ha (agU_s (by rfl) (by rfl) a2), Or.inl (FLT_0 h (hOK_0 a3 a4 rfl) a2 (by rfl))⟩
    · subst hv
      refine runH (P := P_ee41) (Q := QB) qH_w hM ch_ee41 all_nil (aw0 := aw1) (aw := aw1) (fun g => by cases g) rfl (τ0 := [0, (f : Int)]) (σ := [0, (f : Int)]) rfl rfl (Nat.le_trans (by decide) hd2) hcz (xt_refl _) ⟨eOK2_L ⟨⟨by decide, by decide⟩, ⟨by dsimp only; omega, by dsimp only; omega⟩, trivial⟩ rfl all_nil, hOK_mk hh (all_cons ⟨_, f3, vN ⟨(f : Int), rfl, Int.add_zero _⟩ (by omega)⟩ all_nil), lvOK_cons ⟨_, w01, y01⟩ (lvOK_cons ⟨_, h1, vI (y := 0) (z := 1) rfl (by decide) ⟨by decide, by decide⟩ (by decide)⟩ lvOK_nil), trivial, a11⟩ (ag_refl _ _ _) ?_ all_nil
      intro o ho τ1 aw' w' D' x1 a1 a2 a3 a4 a5
      have ho := List.mem_singleton.mp ho
      subst ho
      exact ⟨a5, aw', a1, agU_trans ha (agU_s (by rfl) (by rfl) a2), Or.inl (FLT_0 h (hOK_0 a3 a4 rfl) a2 (by rfl))⟩
  · subst h2
    obtain ⟨a', e, t, c, w, u, hS, f2, f3, f4, f5, f6⟩ := id h
    refine runH (P := P_ee5) (Q := QB) qH_w hM ch_ee5 all_nil (aw0 := aw1) (aw := aw1) (fun g => by cases g) rfl (τ0 := [0]) (σ := [0]) rfl rfl (Nat.le_trans (by decide) hd2) hcz (xt_refl _) ⟨eOK2_L ⟨⟨by decide, by decide⟩, trivial⟩ rfl all_nil, hOK_mk hS.1 (all_cons ⟨_, hS.2.2.1, vN ⟨0, rfl, rfl⟩ (by omega)⟩ (all_cons ⟨_, hS.2.2.2.2.2.2.2.2.2.1, vN ⟨0, rfl, rfl⟩ (by omega)⟩ all_nil)), lvOK_cons ⟨_, w01, y01⟩ (lvOK_cons ⟨_, h1, vI (y := 0) (z := 0) rfl (by decide) ⟨by decide, by decide⟩ (by decide)⟩ lvOK_nil), trivial, a11⟩ (ag_refl _ _ _) ?_ all_nil
    intro o ho τ1 aw' w' D' x1 a1 a2 a3 a4 a5
    have ho := List.mem_singleton.mp ho
    subst ho
    exact ⟨a5, aw', a1, agU_trans ha (agU_s (by rfl) (by rfl) a2), Or.inr (DON_0 h (hOK_0 a3 a4 rfl) a2 (by rfl))⟩
theorem e_aft41 {L : List Nat} {M : rM} (hM : mT 253 = some M) {d : Nat} (hd : 6 ≤ d + 1) {r a0 a s t : Nat} {v : Option rV} {aw0 aw1 : List rC} {lw1 : rK} {D1 : rD} (a11 : rep D1 aw1) (ha : agU r aw0 aw1) (haa : a0 ≤ a) (h0 : ∃ v, lget lw1 0 = some v ∧ vOK qH [] (.inr (.inr (some 53))) v) (ho : OUTS r aw1 v a s t) (hgo : ∀ (b' : Bool) (a' e' t' c' w' u' : Nat) (pile' : List (Nat × Nat)) (lw2 : rK) (D2 : rD) (aw2 : List rC), rep D2 aw2 → agU r aw0 aw2 → RS r aw2 a' e' s t' c' pile'.length w' u' → tokOK a' e' s t' → JJ r b' aw2 c' u' w' pile' → w' ≤ 7 → a + 1 ≤ a' → (∃ v, lget lw2 0 = some v ∧ vOK qH [] (.inr (.inr (some 53))) v) → lget lw2 1 = some (.inl (if b' = true then 1 else 0)) → Ev L (d + 1) M (19, lw2, [], D2, 0, 0) (PostE r aw0 a0 s)) : Ev L (d + 1) M (41, lw1, v.toList ++ [], D1, 0, 0) (PostE r aw0 a0 s) := by
  have hcz : (0 : Nat) ≤ mC M ∧ (0 : Nat) ≤ mS M := ⟨Nat.zero_le _, Nat.zero_le _⟩
  obtain ⟨v01, w01, y01⟩ := h0
  rcases ho with ⟨hv, h⟩ | ⟨hv, h⟩ | ⟨hv, h⟩ | ⟨hv, h⟩ | ⟨hv, h⟩
  · subst hv
    change Ev L (d + 1) M (41, lw1, [.inl 1], D1, 0, 0) _
    refine runH (P := P_ee3411) (Q := QB) qH_w hM ch_ee3411 all_nil (aw0 := aw1) (aw := aw1) (fun g => by cases g) rfl (τ0 := [0]) (σ := [0]) rfl rfl (Nat.zero_le _) hcz (xt_refl _) ⟨eOK2_L ⟨⟨by decide, by decide⟩, trivial⟩ rfl all_nil, hOK_nil h.1, lvOK_cons ⟨_, w01, y01⟩ lvOK_nil, ⟨vI (y := 0) (z := 1) rfl (by decide) ⟨by decide, by decide⟩ (by decide), trivial⟩, a11⟩ (ag_refl _ _ _) all_nil ?_
    intro c2 hcc2 τ2 aw2 lw2 sw2 D2 x2 a12 a22 a32 a42 a52 a62
    have hcc2 := List.mem_singleton.mp hcc2
    subst hcc2
    match sw2, a62 with
    | [], _ =>
      obtain ⟨v02, w02, y02⟩ := a52 0 _ rfl
      have w02 : lget lw2 0 = some v02 := w02
      have hh2 := hOK_0 a32 a42 rfl
      obtain ⟨v12, w12, y12⟩ := a52 1 _ rfl
      have w12 : lget lw2 1 = some v12 := w12
      have i12 : v12 = .inl 1 := (vI_of (x2 0 0 rfl) y12).2
      rw [i12] at w12
      have ha2 := agU_trans ha (agU_s (r := r) (by rfl) (by rfl) a22)
      exact e_out hM hd (v := 1) (by omega) a12 ha2 ⟨_, w02, y02⟩ w12 (Or.inl (FLT_0 h hh2 a22 (by rfl)))
  · subst hv
    change Ev L (d + 1) M (41, lw1, [.inl 0], D1, 0, 0) _
    refine runH (P := P_ee3410) (Q := QB) qH_w hM ch_ee3410 all_nil (aw0 := aw1) (aw := aw1) (fun g => by cases g) rfl (τ0 := [0]) (σ := [0]) rfl rfl (Nat.zero_le _) hcz (xt_refl _) ⟨eOK2_L ⟨⟨by decide, by decide⟩, trivial⟩ rfl all_nil, hOK_nil h.1, lvOK_cons ⟨_, w01, y01⟩ lvOK_nil, ⟨vI (y := 0) (z := 0) rfl (by decide) ⟨by decide, by decide⟩ (by decide), trivial⟩, a11⟩ (ag_refl _ _ _) all_nil ?_
    intro c2 hcc2 τ2 aw2 lw2 sw2 D2 x2 a12 a22 a32 a42 a52 a62
    have hcc2 := List.mem_singleton.mp hcc2
    subst hcc2
    match sw2, a62 with
    | [], _ =>
      obtain ⟨v02, w02, y02⟩ := a52 0 _ rfl
      have w02 : lget lw2 0 = some v02 := w02
      have hh2 := hOK_0 a32 a42 rfl
      obtain ⟨v12, w12, y12⟩ := a52 1 _ rfl
      have w12 : lget lw2 1 = some v12 := w12
      have i12 : v12 = .inl 0 := (vI_of (x2 0 0 rfl) y12).2
      rw [i12] at w12
      have ha2 := agU_trans ha (agU_s (r := r) (by rfl) (by rfl) a22)
      exact e_out hM hd (v := 0) (by omega) a12 ha2 ⟨_, w02, y02⟩ w12 (Or.inl (FLT_0 h hh2 a22 (by rfl)))
  · subst hv
    change Ev L (d + 1) M (41, lw1, [.inl 1], D1, 0, 0) _
    obtain ⟨a', e', t', c', w', u', pile', hS, hT, hJ, hw, ht, hlt⟩ := h
    refine runH (P := P_ee3411) (Q := QB) qH_w hM ch_ee3411 all_nil (aw0 := aw1) (aw := aw1) (fun g => by cases g) rfl (τ0 := [0]) (σ := [0]) rfl rfl (Nat.zero_le _) hcz (xt_refl _) ⟨eOK2_L ⟨⟨by decide, by decide⟩, trivial⟩ rfl all_nil, hOK_nil hS.1, lvOK_cons ⟨_, w01, y01⟩ lvOK_nil, ⟨vI (y := 0) (z := 1) rfl (by decide) ⟨by decide, by decide⟩ (by decide), trivial⟩, a11⟩ (ag_refl _ _ _) all_nil ?_
    intro c2 hcc2 τ2 aw2 lw2 sw2 D2 x2 a12 a22 a32 a42 a52 a62
    have hcc2 := List.mem_singleton.mp hcc2
    subst hcc2
    match sw2, a62 with
    | [], _ =>
      obtain ⟨v02, w02, y02⟩ := a52 0 _ rfl
      have w02 : lget lw2 0 = some v02 := w02
      have hh2 := hOK_0 a32 a42 rfl
      obtain ⟨v12, w12, y12⟩ := a52 1 _ rfl
      have w12 : lget lw2 1 = some v12 := w12
      have i12 : v12 = .inl 1 := (vI_of (x2 0 0 rfl) y12).2
      rw [i12] at w12
      have ha2 := agU_trans ha (agU_s (r := r) (by rfl) (by rfl) a22)
      exact hgo true a' e' t' c' w' u' pile' lw2 D2 aw2 a12 ha2 (RS_0 hS hh2 a22 (by rfl)) hT (JJ_0 hJ a22 (by rfl)) hw hlt ⟨_, w02, y02⟩ w12
  · subst hv
    change Ev L (d + 1) M (41, lw1, [.inl 0], D1, 0, 0) _
    obtain ⟨a', e', t', c', w', u', pile', hS, hT, hJ, hw, ht, hlt⟩ := h
    refine runH (P := P_ee3410) (Q := QB) qH_w hM ch_ee3410 all_nil (aw0 := aw1) (aw := aw1) (fun g => by cases g) rfl (τ0 := [0]) (σ := [0]) rfl rfl (Nat.zero_le _) hcz (xt_refl _) ⟨eOK2_L ⟨⟨by decide, by decide⟩, trivial⟩ rfl all_nil, hOK_nil hS.1, lvOK_cons ⟨_, w01, y01⟩ lvOK_nil, ⟨vI (y := 0) (z := 0) rfl (by decide) ⟨by decide, by decide⟩ (by decide), trivial⟩, a11⟩ (ag_refl _ _ _) all_nil ?_
    intro c2 hcc2 τ2 aw2 lw2 sw2 D2 x2 a12 a22 a32 a42 a52 a62
    have hcc2 := List.mem_singleton.mp hcc2
    subst hcc2
    match sw2, a62 with
    | [], _ =>
      obtain ⟨v02, w02, y02⟩ := a52 0 _ rfl
      have w02 : lget lw2 0 = some v02 := w02
      have hh2 := hOK_0 a32 a42 rfl
      obtain ⟨v12, w12, y12⟩ := a52 1 _ rfl
      have w12 : lget lw2 1 = some v12 := w12
      have i12 : v12 = .inl 0 := (vI_of (x2 0 0 rfl) y12).2
      rw [i12] at w12
      have ha2 := agU_trans ha (agU_s (r := r) (by rfl) (by rfl) a22)
      exact hgo false a' e' t' c' w' u' pile' lw2 D2 aw2 a12 ha2 (RS_0 hS hh2 a22 (by rfl)) hT (JJ_0 hJ a22 (by rfl)) hw hlt ⟨_, w02, y02⟩ w12
  · subst hv
    change Ev L (d + 1) M (41, lw1, [.inl 0], D1, 0, 0) _
    obtain ⟨a', e', t', c', w', u', hS, f2, f3, f4, f5, f6⟩ := id h
    refine runH (P := P_ee3410) (Q := QB) qH_w hM ch_ee3410 all_nil (aw0 := aw1) (aw := aw1) (fun g => by cases g) rfl (τ0 := [0]) (σ := [0]) rfl rfl (Nat.zero_le _) hcz (xt_refl _) ⟨eOK2_L ⟨⟨by decide, by decide⟩, trivial⟩ rfl all_nil, hOK_nil hS.1, lvOK_cons ⟨_, w01, y01⟩ lvOK_nil, ⟨vI (y := 0) (z := 0) rfl (by decide) ⟨by decide, by decide⟩ (by decide), trivial⟩, a11⟩ (ag_refl _ _ _) all_nil ?_
    intro c2 hcc2 τ2 aw2 lw2 sw2 D2 x2 a12 a22 a32 a42 a52 a62
    have hcc2 := List.mem_singleton.mp hcc2
    subst hcc2
    match sw2, a62 with
    | [], _ =>
      obtain ⟨v02, w02, y02⟩ := a52 0 _ rfl
      have w02 : lget lw2 0 = some v02 := w02
      have hh2 := hOK_0 a32 a42 rfl
      obtain ⟨v12, w12, y12⟩ := a52 1 _ rfl
      have w12 : lget lw2 1 = some v12 := w12
      have i12 : v12 = .inl 0 := (vI_of (x2 0 0 rfl) y12).2
      rw [i12] at w12
      have ha2 := agU_trans ha (agU_s (r := r) (by rfl) (by rfl) a22)
      exact e_out hM hd (v := 0) (by omega) a12 ha2 ⟨_, w02, y02⟩ w12 (Or.inr ⟨rfl, DON_0 ⟨a', e', t', c', w', u', hS, f2, by omega, f4, f5, f6⟩ hh2 a22 (by rfl)⟩)
theorem e_aft48 {L : List Nat} {M : rM} (hM : mT 253 = some M) {d : Nat} (hd : 6 ≤ d + 1) {r a0 a s t : Nat} {v : Option rV} {aw0 aw1 : List rC} {lw1 : rK} {D1 : rD} (a11 : rep D1 aw1) (ha : agU r aw0 aw1) (haa : a0 ≤ a) (h0 : ∃ v, lget lw1 0 = some v ∧ vOK qH [] (.inr (.inr (some 53))) v) (ho : OUTS r aw1 v a s t) (hgo : ∀ (b' : Bool) (a' e' t' c' w' u' : Nat) (pile' : List (Nat × Nat)) (lw2 : rK) (D2 : rD) (aw2 : List rC), rep D2 aw2 → agU r aw0 aw2 → RS r aw2 a' e' s t' c' pile'.length w' u' → tokOK a' e' s t' → JJ r b' aw2 c' u' w' pile' → w' ≤ 7 → a + 1 ≤ a' → (∃ v, lget lw2 0 = some v ∧ vOK qH [] (.inr (.inr (some 53))) v) → lget lw2 1 = some (.inl (if b' = true then 1 else 0)) → Ev L (d + 1) M (19, lw2, [], D2, 0, 0) (PostE r aw0 a0 s)) : Ev L (d + 1) M (48, lw1, v.toList ++ [], D1, 0, 0) (PostE r aw0 a0 s) := by
  have hcz : (0 : Nat) ≤ mC M ∧ (0 : Nat) ≤ mS M := ⟨Nat.zero_le _, Nat.zero_le _⟩
  obtain ⟨v01, w01, y01⟩ := h0
  rcases ho with ⟨hv, h⟩ | ⟨hv, h⟩ | ⟨hv, h⟩ | ⟨hv, h⟩ | ⟨hv, h⟩
  · subst hv
    change Ev L (d + 1) M (48, lw1, [.inl 1], D1, 0, 0) _
    refine runH (P := P_ee3481) (Q := QB) qH_w hM ch_ee3481 all_nil (aw0 := aw1) (aw := aw1) (fun g => by cases g) rfl (τ0 := [0]) (σ := [0]) rfl rfl (Nat.zero_le _) hcz (xt_refl _) ⟨eOK2_L ⟨⟨by decide, by decide⟩, trivial⟩ rfl all_nil, hOK_nil h.1, lvOK_cons ⟨_, w01, y01⟩ lvOK_nil, ⟨vI (y := 0) (z := 1) rfl (by decide) ⟨by decide, by decide⟩ (by decide), trivial⟩, a11⟩ (ag_refl _ _ _) all_nil ?_
    intro c2 hcc2 τ2 aw2 lw2 sw2 D2 x2 a12 a22 a32 a42 a52 a62
    have hcc2 := List.mem_singleton.mp hcc2
    subst hcc2
    match sw2, a62 with
    | [], _ =>
      obtain ⟨v02, w02, y02⟩ := a52 0 _ rfl
      have w02 : lget lw2 0 = some v02 := w02
      have hh2 := hOK_0 a32 a42 rfl
      obtain ⟨v12, w12, y12⟩ := a52 1 _ rfl
      have w12 : lget lw2 1 = some v12 := w12
      have i12 : v12 = .inl 1 := (vI_of (x2 0 0 rfl) y12).2
      rw [i12] at w12
      have ha2 := agU_trans ha (agU_s (r := r) (by rfl) (by rfl) a22)
      exact e_out hM hd (v := 1) (by omega) a12 ha2 ⟨_, w02, y02⟩ w12 (Or.inl (FLT_0 h hh2 a22 (by rfl)))
  · subst hv
    change Ev L (d + 1) M (48, lw1, [.inl 0], D1, 0, 0) _
    refine runH (P := P_ee3480) (Q := QB) qH_w hM ch_ee3480 all_nil (aw0 := aw1) (aw := aw1) (fun g => by cases g) rfl (τ0 := [0]) (σ := [0]) rfl rfl (Nat.zero_le _) hcz (xt_refl _) ⟨eOK2_L ⟨⟨by decide, by decide⟩, trivial⟩ rfl all_nil, hOK_nil h.1, lvOK_cons ⟨_, w01, y01⟩ lvOK_nil, ⟨vI (y := 0) (z := 0) rfl (by decide) ⟨by decide, by decide⟩ (by decide), trivial⟩, a11⟩ (ag_refl _ _ _) all_nil ?_
    intro c2 hcc2 τ2 aw2 lw2 sw2 D2 x2 a12 a22 a32 a42 a52 a62
    have hcc2 := List.mem_singleton.mp hcc2
    subst hcc2
    match sw2, a62 with
    | [], _ =>
      obtain ⟨v02, w02, y02⟩ := a52 0 _ rfl
      have w02 : lget lw2 0 = some v02 := w02
      have hh2 := hOK_0 a32 a42 rfl
      obtain ⟨v12, w12, y12⟩ := a52 1 _ rfl
      have w12 : lget lw2 1 = some v12 := w12
      have i12 : v12 = .inl 0 := (vI_of (x2 0 0 rfl) y12).2
      rw [i12] at w12
      have ha2 := agU_trans ha (agU_s (r := r) (by rfl) (by rfl) a22)
      exact e_out hM hd (v := 0) (by omega) a12 ha2 ⟨_, w02, y02⟩ w12 (Or.inl (FLT_0 h hh2 a22 (by rfl)))
  · subst hv
    change Ev L (d + 1) M (48, lw1, [.inl 1], D1, 0, 0) _
    obtain ⟨a', e', t', c', w', u', pile', hS, hT, hJ, hw, ht, hlt⟩ := h
    refine runH (P := P_ee3481) (Q := QB) qH_w hM ch_ee3481 all_nil (aw0 := aw1) (aw := aw1) (fun g => by cases g) rfl (τ0 := [0]) (σ := [0]) rfl rfl (Nat.zero_le _) hcz (xt_refl _) ⟨eOK2_L ⟨⟨by decide, by decide⟩, trivial⟩ rfl all_nil, hOK_nil hS.1, lvOK_cons ⟨_, w01, y01⟩ lvOK_nil, ⟨vI (y := 0) (z := 1) rfl (by decide) ⟨by decide, by decide⟩ (by decide), trivial⟩, a11⟩ (ag_refl _ _ _) all_nil ?_
    intro c2 hcc2 τ2 aw2 lw2 sw2 D2 x2 a12 a22 a32 a42 a52 a62
    have hcc2 := List.mem_singleton.mp hcc2
    subst hcc2
    match sw2, a62 with
    | [], _ =>
      obtain ⟨v02, w02, y02⟩ := a52 0 _ rfl
      have w02 : lget lw2 0 = some v02 := w02
      have hh2 := hOK_0 a32 a42 rfl
      obtain ⟨v12, w12, y12⟩ := a52 1 _ rfl
      have w12 : lget lw2 1 = some v12 := w12
      have i12 : v12 = .inl 1 := (vI_of (x2 0 0 rfl) y12).2
      rw [i12] at w12
      have ha2 := agU_trans ha (agU_s (r := r) (by rfl) (by rfl) a22)
      exact hgo true a' e' t' c' w' u' pile' lw2 D2 aw2 a12 ha2 (RS_0 hS hh2 a22 (by rfl)) hT (JJ_0 hJ a22 (by rfl)) hw hlt ⟨_, w02, y02⟩ w12
  · subst hv
    change Ev L (d + 1) M (48, lw1, [.inl 0], D1, 0, 0) _
    obtain ⟨a', e', t', c', w', u', pile', hS, hT, hJ, hw, ht, hlt⟩ := h
    refine runH (P := P_ee3480) (Q := QB) qH_w hM ch_ee3480 all_nil (aw0 := aw1) (aw := aw1) (fun g => by cases g) rfl (τ0 := [0]) (σ := [0]) rfl rfl (Nat.zero_le _) hcz (xt_refl _) ⟨eOK2_L ⟨⟨by decide, by decide⟩, trivial⟩ rfl all_nil, hOK_nil hS.1, lvOK_cons ⟨_, w01, y01⟩ lvOK_nil, ⟨vI (y := 0) (z := 0) rfl (by decide) ⟨by decide, by decide⟩ (by decide), trivial⟩, a11⟩ (ag_refl _ _ _) all_nil ?_
    intro c2 hcc2 τ2 aw2 lw2 sw2 D2 x2 a12 a22 a32 a42 a52 a62
    have hcc2 := List.mem_singleton.mp hcc2
    subst hcc2
    match sw2, a62 with
    | [], _ =>
      obtain ⟨v02, w02, y02⟩ := a52 0 _ rfl
      have w02 : lget lw2 0 = some v02 := w02
      have hh2 := hOK_0 a32 a42 rfl
      obtain ⟨v12, w12, y12⟩ := a52 1 _ rfl
      have w12 : lget lw2 1 = some v12 := w12
      have i12 : v12 = .inl 0 := (vI_of (x2 0 0 rfl) y12).2
      rw [i12] at w12
      have ha2 := agU_trans ha (agU_s (r := r) (by rfl) (by rfl) a22)
      exact hgo false a' e' t' c' w' u' pile' lw2 D2 aw2 a12 ha2 (RS_0 hS hh2 a22 (by rfl)) hT (JJ_0 hJ a22 (by rfl)) hw hlt ⟨_, w02, y02⟩ w12
  · subst hv
    change Ev L (d + 1) M (48, lw1, [.inl 0], D1, 0, 0) _
    obtain ⟨a', e', t', c', w', u', hS, f2, f3, f4, f5, f6⟩ := id h
    refine runH (P := P_ee3480) (Q := QB) qH_w hM ch_ee3480 all_nil (aw0 := aw1) (aw := aw1) (fun g => by cases g) rfl (τ0 := [0]) (σ := [0]) rfl rfl (Nat.zero_le _) hcz (xt_refl _) ⟨eOK2_L ⟨⟨by decide, by decide⟩, trivial⟩ rfl all_nil, hOK_nil hS.1, lvOK_cons ⟨_, w01, y01⟩ lvOK_nil, ⟨vI (y := 0) (z := 0) rfl (by decide) ⟨by decide, by decide⟩ (by decide), trivial⟩, a11⟩ (ag_refl _ _ _) all_nil ?_
    intro c2 hcc2 τ2 aw2 lw2 sw2 D2 x2 a12 a22 a32 a42 a52 a62
    have hcc2 := List.mem_singleton.mp hcc2
    subst hcc2
    match sw2, a62 with
    | [], _ =>
      obtain ⟨v02, w02, y02⟩ := a52 0 _ rfl
      have w02 : lget lw2 0 = some v02 := w02
      have hh2 := hOK_0 a32 a42 rfl
      obtain ⟨v12, w12, y12⟩ := a52 1 _ rfl
      have w12 : lget lw2 1 = some v12 := w12
      have i12 : v12 = .inl 0 := (vI_of (x2 0 0 rfl) y12).2
      rw [i12] at w12
      have ha2 := agU_trans ha (agU_s (r := r) (by rfl) (by rfl) a22)
      exact e_out hM hd (v := 0) (by omega) a12 ha2 ⟨_, w02, y02⟩ w12 (Or.inr ⟨rfl, DON_0 ⟨a', e', t', c', w', u', hS, f2, by omega, f4, f5, f6⟩ hh2 a22 (by rfl)⟩)
set_option maxHeartbeats 4000000 in
theorem e_step0 {L : List Nat} {M : rM} (hM : mT 253 = some M) {d : Nat} (hd : 6 ≤ d + 1) {a0 a e s t c w u : Nat} {b : Bool} {pile : List (Nat × Nat)} {aw0 aw1 : List rC} {lw1 : rK} {D1 : rD} (a11 : rep D1 aw1) (ha : agU 0 aw0 aw1) (hS : RS 0 aw1 a e s t c pile.length w u) (hT : tokW a e s t) (hTb : b = false → tokOK a e s t) (hJ : JJ 0 b aw1 c u w pile) (hw : w ≤ 7) (haa : a0 ≤ a) (h0 : ∃ v, lget lw1 0 = some v ∧ vOK qH [] (.inr (.inr (some 53))) v) (h1 : lget lw1 1 = some (.inl (if b = true then 1 else 0))) (hgo : ∀ (b' : Bool) (a' e' t' c' w' u' : Nat) (pile' : List (Nat × Nat)) (lw2 : rK) (D2 : rD) (aw2 : List rC), rep D2 aw2 → agU 0 aw0 aw2 → RS 0 aw2 a' e' s t' c' pile'.length w' u' → tokOK a' e' s t' → JJ 0 b' aw2 c' u' w' pile' → w' ≤ 7 → a + 1 ≤ a' → (∃ v, lget lw2 0 = some v ∧ vOK qH [] (.inr (.inr (some 53))) v) → lget lw2 1 = some (.inl (if b' = true then 1 else 0)) → Ev L (d + 1) M (19, lw2, [], D2, 0, 0) (PostE 0 aw0 a0 s)) : Ev L (d + 1) M (19, lw1, [], D1, 0, 0) (PostE 0 aw0 a0 s) := by
  obtain ⟨j1, j2, j3, j4, j5, j6⟩ := JJ_bound hJ hw
  have hcz : (0 : Nat) ≤ mC M ∧ (0 : Nat) ≤ mS M := ⟨Nat.zero_le _, Nat.zero_le _⟩
  have hd2 : 2 ≤ d + 1 := by omega
  obtain ⟨d, rfl⟩ : ∃ d', d = d' + 1 := ⟨d - 1, by omega⟩
  obtain ⟨v01, w01, y01⟩ := h0
  cases b with
  | false =>
    have h1 : lget lw1 1 = some (.inl 0) := h1
    refine runH (P := P_ee20) (Q := QB) qH_w hM ch_ee20 all_nil (aw0 := aw1) (aw := aw1) (fun g => by cases g) rfl (τ0 := [0, (pile.length : Int)]) (σ := [0, (pile.length : Int)]) rfl rfl (Nat.le_trans (by decide) hd2) hcz (xt_refl _) ⟨eOK2_L ⟨⟨by decide, by decide⟩, ⟨by dsimp only; omega, by dsimp only; omega⟩, trivial⟩ rfl all_nil, hOK_mk hS.1 (all_cons ⟨_, hS.2.2.1, vN ⟨0, rfl, rfl⟩ (by omega)⟩ (all_cons ⟨_, hS.2.2.2.2.2.2.2.2.2.1, vN ⟨(pile.length : Int), rfl, Int.add_zero _⟩ (by omega)⟩ all_nil)), lvOK_cons ⟨_, w01, y01⟩ (lvOK_cons ⟨_, h1, vI (y := 0) (z := 0) rfl (by decide) ⟨by decide, by decide⟩ (by decide)⟩ lvOK_nil), trivial, a11⟩ (ag_refl _ _ _) all_nil ?_
    intro c2 hcc2 τ2 aw2 lw2 sw2 D2 x2 a12 a22 a32 a42 a52 a62
    have hcc2 := List.mem_singleton.mp hcc2
    subst hcc2
    match sw2, a62 with
    | [p02], _ =>
      obtain ⟨v02, w02, y02⟩ := a52 0 _ rfl
      have w02 : lget lw2 0 = some v02 := w02
      have hh2 := hOK_0 a32 a42 rfl
      obtain ⟨v22, w22, y22⟩ := a52 200 _ rfl
      have w22 : some p02 = some v22 := w22
      cases w22
      rw [refM y22]
      obtain ⟨q, q1, q2⟩ := atM hh2
      obtain ⟨M', m1, m2, m3, m4, m5⟩ : ∃ M', mT 254 = some M' ∧ mLoc M' ≤ 80 ∧ mC M' = 0 ∧ mS M' = 0 ∧ 1 ≤ mLoc M' := ⟨_, rfl, by decide +kernel, rfl, rfl, by decide +kernel⟩
      have hS2 := RS_0 hS hh2 a22 (by rfl)
      have hJ2 := JJ_0 hJ a22 (by rfl)
      have ha2 := agU_trans ha (agU_s (r := 0) (by rfl) (by rfl) a22)
      refine Ev_call (st_callv (mk_X12_e_45 hM) (As := []) rfl a12 q1 q2 (Nat.zero_le _)) m1 m5 m2 (by rw [m3]; exact hcz.1) (by rw [m4]; exact hcz.2) (bu_ok0 m1 (d := d) (by omega) a12 hS2 (hTb rfl) hJ2 hw ⟨_, rfl, vM⟩) ?_
      rintro v D3 ⟨aw3, a13, a23, ho⟩
      rw [m3, m4]
      exact e_aft48 hM hd a13 (agU_trans ha2 a23) haa ⟨_, w02, y02⟩ ho hgo
  | true =>
    have h1 : lget lw1 1 = some (.inl 1) := h1
    refine runH (P := P_ee21) (Q := QB) qH_w hM ch_ee21 all_nil (aw0 := aw1) (aw := aw1) (fun g => by cases g) rfl (τ0 := [0, (pile.length : Int)]) (σ := [0, (pile.length : Int)]) rfl rfl (Nat.le_trans (by decide) hd2) hcz (xt_refl _) ⟨eOK2_L ⟨⟨by decide, by decide⟩, ⟨by dsimp only; omega, by dsimp only; omega⟩, trivial⟩ rfl all_nil, hOK_mk hS.1 (all_cons ⟨_, hS.2.2.1, vN ⟨0, rfl, rfl⟩ (by omega)⟩ (all_cons ⟨_, hS.2.2.2.2.2.2.2.2.2.1, vN ⟨(pile.length : Int), rfl, Int.add_zero _⟩ (by omega)⟩ all_nil)), lvOK_cons ⟨_, w01, y01⟩ (lvOK_cons ⟨_, h1, vI (y := 0) (z := 1) rfl (by decide) ⟨by decide, by decide⟩ (by decide)⟩ lvOK_nil), trivial, a11⟩ (ag_refl _ _ _) all_nil ?_
    intro c2 hcc2 τ2 aw2 lw2 sw2 D2 x2 a12 a22 a32 a42 a52 a62
    have hcc2 := List.mem_singleton.mp hcc2
    subst hcc2
    match sw2, a62 with
    | [p02], _ =>
      obtain ⟨v02, w02, y02⟩ := a52 0 _ rfl
      have w02 : lget lw2 0 = some v02 := w02
      have hh2 := hOK_0 a32 a42 rfl
      obtain ⟨v22, w22, y22⟩ := a52 200 _ rfl
      have w22 : some p02 = some v22 := w22
      cases w22
      rw [refM y22]
      obtain ⟨q, q1, q2⟩ := atM hh2
      obtain ⟨M', m1, m2, m3, m4, m5⟩ : ∃ M', mT 260 = some M' ∧ mLoc M' ≤ 80 ∧ mC M' = 0 ∧ mS M' = 0 ∧ 1 ≤ mLoc M' := ⟨_, rfl, by decide +kernel, rfl, rfl, by decide +kernel⟩
      have hS2 := RS_0 hS hh2 a22 (by rfl)
      have hJ2 := JJ_0 hJ a22 (by rfl)
      have ha2 := agU_trans ha (agU_s (r := 0) (by rfl) (by rfl) a22)
      refine Ev_call (st_callv (mk_X12_e_38 hM) (As := []) rfl a12 q1 q2 (Nat.zero_le _)) m1 m5 m2 (by rw [m3]; exact hcz.1) (by rw [m4]; exact hcz.2) (unit_ok0 m1 (d := d + 1) (by omega) a12 hS2 hT hJ2 hw ⟨_, rfl, vM⟩) ?_
      rintro v D3 ⟨aw3, a13, a23, ho⟩
      rw [m3, m4]
      exact e_aft41 hM hd a13 (agU_trans ha2 a23) haa ⟨_, w02, y02⟩ ho hgo
theorem e_loop0 {L : List Nat} {M : rM} (hM : mT 253 = some M) {d : Nat} (hd : 6 ≤ d + 1) {a0 s : Nat} {aw0 : List rC} : ∀ (n : Nat) (b : Bool) (a e t c w u : Nat) (pile : List (Nat × Nat)) (lw1 : rK) (D1 : rD) (aw1 : List rC), s - a ≤ n → a0 ≤ a → rep D1 aw1 → agU 0 aw0 aw1 → RS 0 aw1 a e s t c pile.length w u → tokOK a e s t → JJ 0 b aw1 c u w pile → w ≤ 7 → (∃ v, lget lw1 0 = some v ∧ vOK qH [] (.inr (.inr (some 53))) v) → lget lw1 1 = some (.inl (if b = true then 1 else 0)) → Ev L (d + 1) M (19, lw1, [], D1, 0, 0) (PostE 0 aw0 a0 s) := by
  intro n
  induction n with
  | zero =>
    intro b a e t c w u pile lw1 D1 aw1 hn haa a11 ha hS hT hJ hw h0 h1
    refine e_step0 hM hd a11 ha hS (tokW_of hT) (fun _ => hT) hJ hw haa h0 h1 (fun b' a' e' t' c' w' u' pile' lw2 D2 aw2 g1 g2 g3 g4 g5 g6 g7 g8 g9 => ?_)
    have : a' ≤ s := by obtain ⟨q1, q2, q3⟩ := g4; rcases q1 with q | q <;> omega
    omega
  | succ n ih =>
    intro b a e t c w u pile lw1 D1 aw1 hn haa a11 ha hS hT hJ hw h0 h1
    refine e_step0 hM hd a11 ha hS (tokW_of hT) (fun _ => hT) hJ hw haa h0 h1 (fun b' a' e' t' c' w' u' pile' lw2 D2 aw2 g1 g2 g3 g4 g5 g6 g7 g8 g9 => ?_)
    exact ih b' a' e' t' c' w' u' pile' lw2 D2 aw2 (by omega) (by omega) g1 g2 g3 g4 g5 g6 g8 g9
set_option maxHeartbeats 4000000 in
theorem e_ok0 {L : List Nat} {M : rM} (hM : mT 253 = some M) {d : Nat} (hd : 6 ≤ d + 1) {Aw : List rV} {D0 : rD} {aw0 : List rC} {a e s t p w : Nat} (a10 : rep D0 aw0) (hS : RS 0 aw0 a e s t (560 * 0) p w 0) (hT : tokW a e s t) (h0 : ∃ v, lget (argsL Aw 0) 0 = some v ∧ vOK qH [] (.inr (.inr (some 53))) v) : Ev L (d + 1) M (0, argsL Aw 0, [], D0, 0, 0) (PostE 0 aw0 a s) := by
  have hcz : (0 : Nat) ≤ mC M ∧ (0 : Nat) ≤ mS M := ⟨Nat.zero_le _, Nat.zero_le _⟩
  refine runH (P := P_ee0) (Q := QB) qH_w hM ch_ee0 all_nil (aw0 := aw0) (aw := aw0) (fun g => by cases g) rfl (τ0 := [0]) (σ := [0]) rfl rfl (Nat.zero_le _) hcz (xt_refl _) ⟨eOK2_L ⟨⟨by decide, by decide⟩, trivial⟩ rfl all_nil, hOK_nil hS.1, lvOK_cons h0 lvOK_nil, trivial, a10⟩ (ag_refl _ _ _) all_nil ?_
  intro c1 hcc1 τ1 aw1 lw1 sw1 D1 x1 a11 a21 a31 a41 a51 a61
  have hcc1 := List.mem_singleton.mp hcc1
  subst hcc1
  match sw1, a61 with
  | [p01, p11, p21], _ =>
    obtain ⟨v01, w01, y01⟩ := a51 0 _ rfl
    have w01 : lget lw1 0 = some v01 := w01
    have hh1 := hOK_0 a31 a41 rfl
    obtain ⟨v21, w21, y21⟩ := a51 200 _ rfl
    have w21 : some p01 = some v21 := w21
    cases w21
    obtain ⟨v31, w31, y31⟩ := a51 201 _ rfl
    have w31 : some p11 = some v31 := w31
    cases w31
    obtain ⟨v41, w41, y41⟩ := a51 202 _ rfl
    have w41 : some p21 = some v41 := w41
    cases w41
    have g36 := (sl_of (j := 36) (i := 0) (o := 0) a41 (by decide +kernel : qH.2[211]? = some 53) (rfl : qH.1[53]? = some _) (by decide) rfl (x1 0 0 rfl)).2
    have g37 := (sl_of (j := 37) (i := 0) (o := 0) a41 (by decide +kernel : qH.2[211]? = some 53) (rfl : qH.1[53]? = some _) (by decide) rfl (x1 0 0 rfl)).2
    have g36 : sl aw1 211 36 = some (.inl 0) := g36
    have g37 : sl aw1 211 37 = some (.inl 0) := g37
    have hS1 := RS_x hS hh1 a21 (by rfl) g36 g37
    have ha1 : agU 0 aw0 aw1 := agU_s (by rfl) (by rfl) a21
    have i21 : p01 = .inl 0 := (vI_of (x1 0 0 rfl) y21).2
    have i31 : p11 = .inl 8 := (vI_of (x1 0 0 rfl) y31).2
    rw [i21, i31]
    refine ev_push (mk_X12_e_14 hM) hcz a11 hh1 (by decide) (by decide) (by decide) g37 (Nat.zero_le _) y41 (fun D2 aw2 b1 b2 b3 b4 b5 b6 => ?_)
    have hS2 := RS_37 hS1 b2 b3 b4
    have hJ2 : JJ 0 true aw2 (560 * 0) 0 0 [(8, 0)] := JJ_start (by rw [b5]; rfl) (by rw [b6]; rfl)
    have ha2 := agU_trans ha1 (agU_s (r := 0) (by rfl) (by rfl) b3)
    have a12 := b1
    refine runH (P := P_ee1) (Q := QB) qH_w hM ch_ee1 all_nil (aw0 := aw2) (aw := aw2) (fun g => by cases g) rfl (τ0 := [0]) (σ := [0]) rfl rfl (Nat.zero_le _) hcz (xt_refl _) ⟨eOK2_L ⟨⟨by decide, by decide⟩, trivial⟩ rfl all_nil, hOK_nil b2, lvOK_cons ⟨_, w01, y01⟩ lvOK_nil, trivial, a12⟩ (ag_refl _ _ _) all_nil ?_
    intro c3 hcc3 τ3 aw3 lw3 sw3 D3 x3 a13 a23 a33 a43 a53 a63
    have hcc3 := List.mem_singleton.mp hcc3
    subst hcc3
    match sw3, a63 with
    | [], _ =>
      obtain ⟨v03, w03, y03⟩ := a53 0 _ rfl
      have w03 : lget lw3 0 = some v03 := w03
      have hh3 := hOK_0 a33 a43 rfl
      obtain ⟨v13, w13, y13⟩ := a53 1 _ rfl
      have w13 : lget lw3 1 = some v13 := w13
      have i13 : v13 = .inl 1 := (vI_of (x3 0 0 rfl) y13).2
      rw [i13] at w13
      exact e_step0 hM hd (pile := [(8, 0)]) (b := true) a13 (agU_trans ha2 (agU_s (by rfl) (by rfl) a23)) (RS_0 hS2 hh3 a23 (by rfl)) hT (fun h => by cases h) (JJ_0 hJ2 a23 (by rfl)) (by decide) (Nat.le_refl _) ⟨_, w03, y03⟩ w13 (fun b' a' e' t' c' w' u' pile' lw2 D2 aw2 g1 g2 g3 g4 g5 g6 g7 g8 g9 => e_loop0 hM hd (s - a') b' a' e' t' c' w' u' pile' lw2 D2 aw2 (Nat.le_refl _) (by omega) g1 g2 g3 g4 g5 g6 g8 g9)
set_option maxHeartbeats 4000000 in
theorem e_step1 {L : List Nat} {M : rM} (hM : mT 253 = some M) {d : Nat} (hd : 6 ≤ d + 1) {a0 a e s t c w u : Nat} {b : Bool} {pile : List (Nat × Nat)} {aw0 aw1 : List rC} {lw1 : rK} {D1 : rD} (a11 : rep D1 aw1) (ha : agU 1 aw0 aw1) (hS : RS 1 aw1 a e s t c pile.length w u) (hT : tokW a e s t) (hTb : b = false → tokOK a e s t) (hJ : JJ 1 b aw1 c u w pile) (hw : w ≤ 7) (haa : a0 ≤ a) (h0 : ∃ v, lget lw1 0 = some v ∧ vOK qH [] (.inr (.inr (some 53))) v) (h1 : lget lw1 1 = some (.inl (if b = true then 1 else 0))) (hgo : ∀ (b' : Bool) (a' e' t' c' w' u' : Nat) (pile' : List (Nat × Nat)) (lw2 : rK) (D2 : rD) (aw2 : List rC), rep D2 aw2 → agU 1 aw0 aw2 → RS 1 aw2 a' e' s t' c' pile'.length w' u' → tokOK a' e' s t' → JJ 1 b' aw2 c' u' w' pile' → w' ≤ 7 → a + 1 ≤ a' → (∃ v, lget lw2 0 = some v ∧ vOK qH [] (.inr (.inr (some 53))) v) → lget lw2 1 = some (.inl (if b' = true then 1 else 0)) → Ev L (d + 1) M (19, lw2, [], D2, 0, 0) (PostE 1 aw0 a0 s)) : Ev L (d + 1) M (19, lw1, [], D1, 0, 0) (PostE 1 aw0 a0 s) := by
  obtain ⟨j1, j2, j3, j4, j5, j6⟩ := JJ_bound hJ hw
  have hcz : (0 : Nat) ≤ mC M ∧ (0 : Nat) ≤ mS M := ⟨Nat.zero_le _, Nat.zero_le _⟩
  have hd2 : 2 ≤ d + 1 := by omega
  obtain ⟨d, rfl⟩ : ∃ d', d = d' + 1 := ⟨d - 1, by omega⟩
  obtain ⟨v01, w01, y01⟩ := h0
  cases b with
  | false =>
    have h1 : lget lw1 1 = some (.inl 0) := h1
    refine runH (P := P_ee20) (Q := QB) qH_w hM ch_ee20 all_nil (aw0 := aw1) (aw := aw1) (fun g => by cases g) rfl (τ0 := [0, (pile.length : Int)]) (σ := [0, (pile.length : Int)]) rfl rfl (Nat.le_trans (by decide) hd2) hcz (xt_refl _) ⟨eOK2_L ⟨⟨by decide, by decide⟩, ⟨by dsimp only; omega, by dsimp only; omega⟩, trivial⟩ rfl all_nil, hOK_mk hS.1 (all_cons ⟨_, hS.2.2.1, vN ⟨0, rfl, rfl⟩ (by omega)⟩ (all_cons ⟨_, hS.2.2.2.2.2.2.2.2.2.1, vN ⟨(pile.length : Int), rfl, Int.add_zero _⟩ (by omega)⟩ all_nil)), lvOK_cons ⟨_, w01, y01⟩ (lvOK_cons ⟨_, h1, vI (y := 0) (z := 0) rfl (by decide) ⟨by decide, by decide⟩ (by decide)⟩ lvOK_nil), trivial, a11⟩ (ag_refl _ _ _) all_nil ?_
    intro c2 hcc2 τ2 aw2 lw2 sw2 D2 x2 a12 a22 a32 a42 a52 a62
    have hcc2 := List.mem_singleton.mp hcc2
    subst hcc2
    match sw2, a62 with
    | [p02], _ =>
      obtain ⟨v02, w02, y02⟩ := a52 0 _ rfl
      have w02 : lget lw2 0 = some v02 := w02
      have hh2 := hOK_0 a32 a42 rfl
      obtain ⟨v22, w22, y22⟩ := a52 200 _ rfl
      have w22 : some p02 = some v22 := w22
      cases w22
      rw [refM y22]
      obtain ⟨q, q1, q2⟩ := atM hh2
      obtain ⟨M', m1, m2, m3, m4, m5⟩ : ∃ M', mT 254 = some M' ∧ mLoc M' ≤ 80 ∧ mC M' = 0 ∧ mS M' = 0 ∧ 1 ≤ mLoc M' := ⟨_, rfl, by decide +kernel, rfl, rfl, by decide +kernel⟩
      have hS2 := RS_0 hS hh2 a22 (by rfl)
      have hJ2 := JJ_0 hJ a22 (by rfl)
      have ha2 := agU_trans ha (agU_s (r := 1) (by rfl) (by rfl) a22)
      refine Ev_call (st_callv (mk_X12_e_45 hM) (As := []) rfl a12 q1 q2 (Nat.zero_le _)) m1 m5 m2 (by rw [m3]; exact hcz.1) (by rw [m4]; exact hcz.2) (bu_ok1 m1 (d := d) (by omega) a12 hS2 (hTb rfl) hJ2 hw ⟨_, rfl, vM⟩) ?_
      rintro v D3 ⟨aw3, a13, a23, ho⟩
      rw [m3, m4]
      exact e_aft48 hM hd a13 (agU_trans ha2 a23) haa ⟨_, w02, y02⟩ ho hgo
  | true =>
    have h1 : lget lw1 1 = some (.inl 1) := h1
    refine runH (P := P_ee21) (Q := QB) qH_w hM ch_ee21 all_nil (aw0 := aw1) (aw := aw1) (fun g => by cases g) rfl (τ0 := [0, (pile.length : Int)]) (σ := [0, (pile.length : Int)]) rfl rfl (Nat.le_trans (by decide) hd2) hcz (xt_refl _) ⟨eOK2_L ⟨⟨by decide, by decide⟩, ⟨by dsimp only; omega, by dsimp only; omega⟩, trivial⟩ rfl all_nil, hOK_mk hS.1 (all_cons ⟨_, hS.2.2.1, vN ⟨0, rfl, rfl⟩ (by omega)⟩ (all_cons ⟨_, hS.2.2.2.2.2.2.2.2.2.1, vN ⟨(pile.length : Int), rfl, Int.add_zero _⟩ (by omega)⟩ all_nil)), lvOK_cons ⟨_, w01, y01⟩ (lvOK_cons ⟨_, h1, vI (y := 0) (z := 1) rfl (by decide) ⟨by decide, by decide⟩ (by decide)⟩ lvOK_nil), trivial, a11⟩ (ag_refl _ _ _) all_nil ?_
    intro c2 hcc2 τ2 aw2 lw2 sw2 D2 x2 a12 a22 a32 a42 a52 a62
    have hcc2 := List.mem_singleton.mp hcc2
    subst hcc2
    match sw2, a62 with
    | [p02], _ =>
      obtain ⟨v02, w02, y02⟩ := a52 0 _ rfl
      have w02 : lget lw2 0 = some v02 := w02
      have hh2 := hOK_0 a32 a42 rfl
      obtain ⟨v22, w22, y22⟩ := a52 200 _ rfl
      have w22 : some p02 = some v22 := w22
      cases w22
      rw [refM y22]
      obtain ⟨q, q1, q2⟩ := atM hh2
      obtain ⟨M', m1, m2, m3, m4, m5⟩ : ∃ M', mT 260 = some M' ∧ mLoc M' ≤ 80 ∧ mC M' = 0 ∧ mS M' = 0 ∧ 1 ≤ mLoc M' := ⟨_, rfl, by decide +kernel, rfl, rfl, by decide +kernel⟩
      have hS2 := RS_0 hS hh2 a22 (by rfl)
      have hJ2 := JJ_0 hJ a22 (by rfl)
      have ha2 := agU_trans ha (agU_s (r := 1) (by rfl) (by rfl) a22)
      refine Ev_call (st_callv (mk_X12_e_38 hM) (As := []) rfl a12 q1 q2 (Nat.zero_le _)) m1 m5 m2 (by rw [m3]; exact hcz.1) (by rw [m4]; exact hcz.2) (unit_ok1 m1 (d := d + 1) (by omega) a12 hS2 hT hJ2 hw ⟨_, rfl, vM⟩) ?_
      rintro v D3 ⟨aw3, a13, a23, ho⟩
      rw [m3, m4]
      exact e_aft41 hM hd a13 (agU_trans ha2 a23) haa ⟨_, w02, y02⟩ ho hgo
theorem e_loop1 {L : List Nat} {M : rM} (hM : mT 253 = some M) {d : Nat} (hd : 6 ≤ d + 1) {a0 s : Nat} {aw0 : List rC} : ∀ (n : Nat) (b : Bool) (a e t c w u : Nat) (pile : List (Nat × Nat)) (lw1 : rK) (D1 : rD) (aw1 : List rC), s - a ≤ n → a0 ≤ a → rep D1 aw1 → agU 1 aw0 aw1 → RS 1 aw1 a e s t c pile.length w u → tokOK a e s t → JJ 1 b aw1 c u w pile → w ≤ 7 → (∃ v, lget lw1 0 = some v ∧ vOK qH [] (.inr (.inr (some 53))) v) → lget lw1 1 = some (.inl (if b = true then 1 else 0)) → Ev L (d + 1) M (19, lw1, [], D1, 0, 0) (PostE 1 aw0 a0 s) := by
  intro n
  induction n with
  | zero =>
    intro b a e t c w u pile lw1 D1 aw1 hn haa a11 ha hS hT hJ hw h0 h1
    refine e_step1 hM hd a11 ha hS (tokW_of hT) (fun _ => hT) hJ hw haa h0 h1 (fun b' a' e' t' c' w' u' pile' lw2 D2 aw2 g1 g2 g3 g4 g5 g6 g7 g8 g9 => ?_)
    have : a' ≤ s := by obtain ⟨q1, q2, q3⟩ := g4; rcases q1 with q | q <;> omega
    omega
  | succ n ih =>
    intro b a e t c w u pile lw1 D1 aw1 hn haa a11 ha hS hT hJ hw h0 h1
    refine e_step1 hM hd a11 ha hS (tokW_of hT) (fun _ => hT) hJ hw haa h0 h1 (fun b' a' e' t' c' w' u' pile' lw2 D2 aw2 g1 g2 g3 g4 g5 g6 g7 g8 g9 => ?_)
    exact ih b' a' e' t' c' w' u' pile' lw2 D2 aw2 (by omega) (by omega) g1 g2 g3 g4 g5 g6 g8 g9
set_option maxHeartbeats 4000000 in
theorem e_ok1 {L : List Nat} {M : rM} (hM : mT 253 = some M) {d : Nat} (hd : 6 ≤ d + 1) {Aw : List rV} {D0 : rD} {aw0 : List rC} {a e s t p w : Nat} (a10 : rep D0 aw0) (hS : RS 1 aw0 a e s t (560 * 1) p w 0) (hT : tokW a e s t) (h0 : ∃ v, lget (argsL Aw 0) 0 = some v ∧ vOK qH [] (.inr (.inr (some 53))) v) : Ev L (d + 1) M (0, argsL Aw 0, [], D0, 0, 0) (PostE 1 aw0 a s) := by
  have hcz : (0 : Nat) ≤ mC M ∧ (0 : Nat) ≤ mS M := ⟨Nat.zero_le _, Nat.zero_le _⟩
  refine runH (P := P_ee0) (Q := QB) qH_w hM ch_ee0 all_nil (aw0 := aw0) (aw := aw0) (fun g => by cases g) rfl (τ0 := [0]) (σ := [0]) rfl rfl (Nat.zero_le _) hcz (xt_refl _) ⟨eOK2_L ⟨⟨by decide, by decide⟩, trivial⟩ rfl all_nil, hOK_nil hS.1, lvOK_cons h0 lvOK_nil, trivial, a10⟩ (ag_refl _ _ _) all_nil ?_
  intro c1 hcc1 τ1 aw1 lw1 sw1 D1 x1 a11 a21 a31 a41 a51 a61
  have hcc1 := List.mem_singleton.mp hcc1
  subst hcc1
  match sw1, a61 with
  | [p01, p11, p21], _ =>
    obtain ⟨v01, w01, y01⟩ := a51 0 _ rfl
    have w01 : lget lw1 0 = some v01 := w01
    have hh1 := hOK_0 a31 a41 rfl
    obtain ⟨v21, w21, y21⟩ := a51 200 _ rfl
    have w21 : some p01 = some v21 := w21
    cases w21
    obtain ⟨v31, w31, y31⟩ := a51 201 _ rfl
    have w31 : some p11 = some v31 := w31
    cases w31
    obtain ⟨v41, w41, y41⟩ := a51 202 _ rfl
    have w41 : some p21 = some v41 := w41
    cases w41
    have g36 := (sl_of (j := 36) (i := 0) (o := 0) a41 (by decide +kernel : qH.2[211]? = some 53) (rfl : qH.1[53]? = some _) (by decide) rfl (x1 0 0 rfl)).2
    have g37 := (sl_of (j := 37) (i := 0) (o := 0) a41 (by decide +kernel : qH.2[211]? = some 53) (rfl : qH.1[53]? = some _) (by decide) rfl (x1 0 0 rfl)).2
    have g36 : sl aw1 211 36 = some (.inl 0) := g36
    have g37 : sl aw1 211 37 = some (.inl 0) := g37
    have hS1 := RS_x hS hh1 a21 (by rfl) g36 g37
    have ha1 : agU 1 aw0 aw1 := agU_s (by rfl) (by rfl) a21
    have i21 : p01 = .inl 0 := (vI_of (x1 0 0 rfl) y21).2
    have i31 : p11 = .inl 8 := (vI_of (x1 0 0 rfl) y31).2
    rw [i21, i31]
    refine ev_push (mk_X12_e_14 hM) hcz a11 hh1 (by decide) (by decide) (by decide) g37 (Nat.zero_le _) y41 (fun D2 aw2 b1 b2 b3 b4 b5 b6 => ?_)
    have hS2 := RS_37 hS1 b2 b3 b4
    have hJ2 : JJ 1 true aw2 (560 * 1) 0 0 [(8, 0)] := JJ_start (by rw [b5]; rfl) (by rw [b6]; rfl)
    have ha2 := agU_trans ha1 (agU_s (r := 1) (by rfl) (by rfl) b3)
    have a12 := b1
    refine runH (P := P_ee1) (Q := QB) qH_w hM ch_ee1 all_nil (aw0 := aw2) (aw := aw2) (fun g => by cases g) rfl (τ0 := [0]) (σ := [0]) rfl rfl (Nat.zero_le _) hcz (xt_refl _) ⟨eOK2_L ⟨⟨by decide, by decide⟩, trivial⟩ rfl all_nil, hOK_nil b2, lvOK_cons ⟨_, w01, y01⟩ lvOK_nil, trivial, a12⟩ (ag_refl _ _ _) all_nil ?_
    intro c3 hcc3 τ3 aw3 lw3 sw3 D3 x3 a13 a23 a33 a43 a53 a63
    have hcc3 := List.mem_singleton.mp hcc3
    subst hcc3
    match sw3, a63 with
    | [], _ =>
      obtain ⟨v03, w03, y03⟩ := a53 0 _ rfl
      have w03 : lget lw3 0 = some v03 := w03
      have hh3 := hOK_0 a33 a43 rfl
      obtain ⟨v13, w13, y13⟩ := a53 1 _ rfl
      have w13 : lget lw3 1 = some v13 := w13
      have i13 : v13 = .inl 1 := (vI_of (x3 0 0 rfl) y13).2
      rw [i13] at w13
      exact e_step1 hM hd (pile := [(8, 0)]) (b := true) a13 (agU_trans ha2 (agU_s (by rfl) (by rfl) a23)) (RS_0 hS2 hh3 a23 (by rfl)) hT (fun h => by cases h) (JJ_0 hJ2 a23 (by rfl)) (by decide) (Nat.le_refl _) ⟨_, w03, y03⟩ w13 (fun b' a' e' t' c' w' u' pile' lw2 D2 aw2 g1 g2 g3 g4 g5 g6 g7 g8 g9 => e_loop1 hM hd (s - a') b' a' e' t' c' w' u' pile' lw2 D2 aw2 (Nat.le_refl _) (by omega) g1 g2 g3 g4 g5 g6 g8 g9)
