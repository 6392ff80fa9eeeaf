/-! by hand: is what stands here compared already -/
theorem ev_ald {L : List Nat} {M : rM} {pc p κ len k x : Nat} {sr : qD} (hm : mTab M pc = some (.iaload, 1)) (hp : qH.2[p]? = some κ) (hK : qH.1[κ]? = some (14, len, some p, [sr])) {lw : rK} {r : List rV} {D : rD} {aw : List rC} {c z d : Nat} (hr : rep D aw) (hh : hOK qH [0] [] aw) (hs : sl aw p k = some (.inl x)) (hk : k ≤ 2147483647) {v0 : rV} {σ : List Int} (hv0 : vOK qH σ (.inr (.inr (some κ))) v0) {Post : Option rV → rD → Prop} (kk : Ev L d M (Nat.add pc 1, lw, .inl x :: r, D, c, z) Post) : Ev L d M (pc, lw, .inl k :: v0 :: r, D, c, z) Post := by
  obtain ⟨pp, h1, h2⟩ := hv0
  have hpp : pp = p := qH_w κ _ p hK rfl pp h2
  subst hpp
  subst h1
  obtain ⟨q, q1, q2, q3, q4⟩ := hOK_at hh hp hK
  unfold sl at hs
  rw [q1] at hs
  refine Ev_step (st_iald hm hr (show aw[pp]? = some (14, q.2) by rw [q1]; congr 1; exact Prod.ext q2 rfl) hs hk) kk
abbrev PostI (aw : List rC) : Option rV → rD → Prop := fun v D' => ∃ aw', rep D' aw' ∧ ag qH [] aw aw' ∧ hOK qH [0] [] aw' ∧ (v = some (.inl 0) ∨ v = some (.inl 1))
theorem ew_at {aw : List rC} {pile : List (Nat × Nat)} (h : PL aw pile) (hb : botOK pile) {k : Nat} (hk : k < pile.length) : ∃ x, x ≤ 8 ∧ sl aw 233 k = some (.inl x) ∧ (x = 5 ∨ x = 6 → 1 ≤ k) := by
  obtain ⟨s0, rest, h1, h2⟩ := hb
  subst h1
  cases k with
  | zero => exact ⟨8, by decide, (h 0 (8, s0) rfl).1, fun g => by omega⟩
  | succ k =>
    have hk : k < rest.length := by simpa using hk
    have he : rest[k]? = some rest[k] := List.getElem?_eq_getElem hk
    have := (pe_pos (h2 _ (List.getElem_mem hk))).1
    exact ⟨rest[k].1, by omega, (h (k + 1) _ (by rw [List.getElem?_cons_succ]; exact he)).1, fun _ => by omega⟩
theorem isc_step {L : List Nat} {M : rM} (hM : mT 257 = some M) {d : Nat} {aw0 : List rC} {pile : List (Nat × Nat)} (hP : PL aw0 pile) (hb : botOK pile) (hl : pile.length ≤ 40) (k : Nat) (hgo : 1 ≤ k → ∀ (lw : rK) (D : rD) (aw : List rC), k - 1 < pile.length → rep D aw → ag qH [] aw0 aw → hOK qH [0] [] aw → (∃ v, lget lw 0 = some v ∧ vOK qH [] (.inr (.inr (some 53))) v) → lget lw 1 = some (.inl (k - 1)) → Ev L d M (7, lw, [], D, 0, 0) (PostI aw0)) : ∀ (lw : rK) (D : rD) (aw : List rC), k < pile.length → rep D aw → ag qH [] aw0 aw → hOK qH [0] [] aw → (∃ v, lget lw 0 = some v ∧ vOK qH [] (.inr (.inr (some 53))) v) → lget lw 1 = some (.inl k) → Ev L d M (7, lw, [], D, 0, 0) (PostI aw0) := by
  intro lw D aw hk hr ha hh h0 h1
  obtain ⟨x, hx, hsx, hxk⟩ := ew_at hP hb hk
  have ek : eI (k : Int) = k := eI_nat (by omega)
  have rd : ∀ {aw' : List rC}, ag qH [] aw0 aw' → sl aw' 233 k = some (.inl x) := fun g => by rw [g.2 233 75 k (by decide +kernel) rfl]; exact hsx
  refine runH (P := P_ic1) (Q := QB) qH_w hM ch_ic1 all_nil (aw0 := aw0) (aw := aw) (fun g => by cases g) rfl (τ0 := [0, (k : Int)]) (σ := [0, (k : Int)]) rfl rfl (Nat.zero_le _) ⟨Nat.zero_le _, Nat.zero_le _⟩ (xt_refl _) ⟨eOK2_L ⟨⟨by decide, by decide⟩, ⟨by dsimp only; omega, by dsimp only; omega⟩, trivial⟩ rfl all_nil, hOK_nil hh, lvOK_cons h0 (lvOK_cons ⟨_, h1, vN ⟨(k : Int), rfl, Int.add_zero _⟩ (by omega)⟩ lvOK_nil), trivial, hr⟩ ha all_nil ?_
  intro c1 hcc1 τ1 aw1 lw1 sw1 D1 x1 a11 a21 a31 a41 a51 a61
  have hcc1 := List.mem_singleton.mp hcc1
  subst hcc1
  match sw1, a61 with
  | [p01, p11], _ =>
    obtain ⟨v01, w01, y01⟩ := a51 0 _ rfl
    obtain ⟨v11, w11, y11⟩ := a51 1 _ rfl
    have w01 : lget lw1 0 = some v01 := w01
    have w11 : lget lw1 1 = some v11 := w11
    have i11 := (vI_of (x1 1 (k : Int) rfl) y11).2
    rw [Int.add_zero, ek] at i11
    rw [i11] at w11
    have hh1 := hOK_0 a31 a41 rfl
    obtain ⟨v21, w21, y21⟩ := a51 200 _ rfl
    have w21 : some p01 = some v21 := w21
    cases w21
    obtain ⟨v31, w31, y31⟩ := a51 201 _ rfl
    have w31 : some p11 = some v31 := w31
    cases w31
    have i21 := (vI_of (x1 1 (k : Int) rfl) y21).2
    rw [Int.add_zero, ek] at i21
    rw [i21]
    refine ev_ald (mt_X12_isCompared_12 hM) (by decide +kernel : qH.2[233]? = some 75) (rfl : qH.1[75]? = some (14, 90, some 233, [.inl (0, 8)])) a11 hh1 (rd a21) (by omega) y31 ?_
    by_cases h5 : x = 5
    · have hk1 := hxk (Or.inl h5)
      refine runH (P := P_ic2a) (Q := QB) qH_w hM ch_ic2a all_nil (aw0 := aw0) (aw := aw1) (fun g => by cases g) rfl (τ0 := [0, (k : Int)]) (σ := [0, (k : Int)]) rfl rfl (Nat.zero_le _) ⟨Nat.zero_le _, Nat.zero_le _⟩ (xt_refl _) ⟨eOK2_L ⟨⟨by decide, by decide⟩, ⟨by dsimp only; omega, by dsimp only; omega⟩, trivial⟩ rfl all_nil, hOK_nil hh1, lvOK_cons ⟨_, w01, y01⟩ (lvOK_cons ⟨_, w11, vN ⟨(k : Int), rfl, Int.add_zero _⟩ (by omega)⟩ lvOK_nil), ⟨vI (y := 0) (z := (x : Int)) rfl (by omega) ⟨by omega, by omega⟩ (eI_nat (by omega)).symm, trivial⟩, a11⟩ a21 all_nil ?_
      intro c2 hcc2 τ2 aw2 lw2 sw2 D2 x2 a12 a22 a32 a42 a52 a62
      have hcc2 := List.mem_singleton.mp hcc2
      subst hcc2
      match sw2, a62 with
      | [], _ =>
        obtain ⟨v02, w02, y02⟩ := a52 0 _ rfl
        obtain ⟨v12, w12, y12⟩ := a52 1 _ rfl
        have w02 : lget lw2 0 = some v02 := w02
        have w12 : lget lw2 1 = some v12 := w12
        have i12 := (vI_of (x2 1 (k : Int) rfl) y12).2
        rw [show (k : Int) + -1 = ((k - 1 : Nat) : Int) by omega, eI_nat (by omega)] at i12
        rw [i12] at w12
        have hh2 := hOK_0 a32 a42 rfl
        exact hgo (hxk (by omega)) lw2 D2 aw2 (by omega) a12 a22 hh2 ⟨_, w02, y02⟩ w12
    · by_cases hx4 : x ≤ 4
      · refine runH (P := P_ic2b) (Q := QB) qH_w hM ch_ic2b all_nil (aw0 := aw0) (aw := aw1) (fun g => by cases g) rfl (τ0 := [0, (k : Int), (x : Int)]) (σ := [0, (k : Int), (x : Int)]) rfl rfl (Nat.zero_le _) ⟨Nat.zero_le _, Nat.zero_le _⟩ (xt_refl _) ⟨eOK2_L ⟨⟨by decide, by decide⟩, ⟨by dsimp only; omega, by dsimp only; omega⟩, ⟨by dsimp only; omega, by dsimp only; omega⟩, trivial⟩ rfl all_nil, hOK_nil hh1, lvOK_cons ⟨_, w01, y01⟩ (lvOK_cons ⟨_, w11, vN ⟨(k : Int), rfl, Int.add_zero _⟩ (by omega)⟩ lvOK_nil), ⟨vN ⟨(x : Int), rfl, Int.add_zero _⟩ (by omega), trivial⟩, a11⟩ a21 all_nil ?_
        intro c3 hcc3 τ3 aw3 lw3 sw3 D3 x3 a13 a23 a33 a43 a53 a63
        have hcc3 := List.mem_singleton.mp hcc3
        subst hcc3
        match sw3, a63 with
        | [p03, p13], _ =>
          obtain ⟨v03, w03, y03⟩ := a53 0 _ rfl
          obtain ⟨v13, w13, y13⟩ := a53 1 _ rfl
          have w03 : lget lw3 0 = some v03 := w03
          have w13 : lget lw3 1 = some v13 := w13
          have i13 := (vI_of (x3 1 (k : Int) rfl) y13).2
          rw [Int.add_zero, ek] at i13
          rw [i13] at w13
          have hh3 := hOK_0 a33 a43 rfl
          obtain ⟨v23, w23, y23⟩ := a53 200 _ rfl
          have w23 : some p03 = some v23 := w23
          cases w23
          obtain ⟨v33, w33, y33⟩ := a53 201 _ rfl
          have w33 : some p13 = some v33 := w33
          cases w33
          have i23 := (vI_of (x3 1 (k : Int) rfl) y23).2
          rw [Int.add_zero, ek] at i23
          rw [i23]
          refine ev_ald (mt_X12_isCompared_22 hM) (by decide +kernel : qH.2[233]? = some 75) (rfl : qH.1[75]? = some (14, 90, some 233, [.inl (0, 8)])) a13 hh3 (rd a23) (by omega) y33 ?_
          by_cases h6 : x = 6
          · have hk1 := hxk (Or.inr h6)
            refine runH (P := P_ic3a) (Q := QB) qH_w hM ch_ic3a all_nil (aw0 := aw0) (aw := aw3) (fun g => by cases g) rfl (τ0 := [0, (k : Int)]) (σ := [0, (k : Int)]) rfl rfl (Nat.zero_le _) ⟨Nat.zero_le _, Nat.zero_le _⟩ (xt_refl _) ⟨eOK2_L ⟨⟨by decide, by decide⟩, ⟨by dsimp only; omega, by dsimp only; omega⟩, trivial⟩ rfl all_nil, hOK_nil hh3, lvOK_cons ⟨_, w03, y03⟩ (lvOK_cons ⟨_, w13, vN ⟨(k : Int), rfl, Int.add_zero _⟩ (by omega)⟩ lvOK_nil), ⟨vI (y := 0) (z := (x : Int)) rfl (by omega) ⟨by omega, by omega⟩ (eI_nat (by omega)).symm, trivial⟩, a13⟩ a23 all_nil ?_
            intro c4 hcc4 τ4 aw4 lw4 sw4 D4 x4 a14 a24 a34 a44 a54 a64
            have hcc4 := List.mem_singleton.mp hcc4
            subst hcc4
            match sw4, a64 with
            | [], _ =>
              obtain ⟨v04, w04, y04⟩ := a54 0 _ rfl
              obtain ⟨v14, w14, y14⟩ := a54 1 _ rfl
              have w04 : lget lw4 0 = some v04 := w04
              have w14 : lget lw4 1 = some v14 := w14
              have i14 := (vI_of (x4 1 (k : Int) rfl) y14).2
              rw [show (k : Int) + -1 = ((k - 1 : Nat) : Int) by omega, eI_nat (by omega)] at i14
              rw [i14] at w14
              have hh4 := hOK_0 a34 a44 rfl
              exact hgo (hxk (by omega)) lw4 D4 aw4 (by omega) a14 a24 hh4 ⟨_, w04, y04⟩ w14
          · by_cases h4 : x ≤ 4
            · refine runH (P := P_ic3b) (Q := QB) qH_w hM ch_ic3b all_nil (aw0 := aw0) (aw := aw3) (fun g => by cases g) rfl (τ0 := [0, (k : Int), (x : Int)]) (σ := [0, (k : Int), (x : Int)]) rfl rfl (Nat.zero_le _) ⟨Nat.zero_le _, Nat.zero_le _⟩ (xt_refl _) ⟨eOK2_L ⟨⟨by decide, by decide⟩, ⟨by dsimp only; omega, by dsimp only; omega⟩, ⟨by dsimp only; omega, by dsimp only; omega⟩, trivial⟩ rfl all_nil, hOK_nil hh3, lvOK_cons ⟨_, w03, y03⟩ (lvOK_cons ⟨_, w13, vN ⟨(k : Int), rfl, Int.add_zero _⟩ (by omega)⟩ lvOK_nil), ⟨vN ⟨(x : Int), rfl, Int.add_zero _⟩ (by omega), trivial⟩, a13⟩ a23 all_nil ?_
              intro c5 hcc5 τ5 aw5 lw5 sw5 D5 x5 a15 a25 a35 a45 a55 a65
              have hcc5 := List.mem_singleton.mp hcc5
              subst hcc5
              match sw5, a65 with
              | [p05, p15], _ =>
                obtain ⟨v05, w05, y05⟩ := a55 0 _ rfl
                obtain ⟨v15, w15, y15⟩ := a55 1 _ rfl
                have w05 : lget lw5 0 = some v05 := w05
                have w15 : lget lw5 1 = some v15 := w15
                have i15 := (vI_of (x5 1 (k : Int) rfl) y15).2
                rw [Int.add_zero, ek] at i15
                rw [i15] at w15
                have hh5 := hOK_0 a35 a45 rfl
                obtain ⟨v25, w25, y25⟩ := a55 200 _ rfl
                have w25 : some p05 = some v25 := w25
                cases w25
                obtain ⟨v35, w35, y35⟩ := a55 201 _ rfl
                have w35 : some p15 = some v35 := w35
                cases w35
                have i25 := (vI_of (x5 1 (k : Int) rfl) y25).2
                rw [Int.add_zero, ek] at i25
                rw [i25]
                refine ev_ald (mt_X12_isCompared_39 hM) (by decide +kernel : qH.2[233]? = some 75) (rfl : qH.1[75]? = some (14, 90, some 233, [.inl (0, 8)])) a15 hh5 (rd a25) (by omega) y35 ?_
                refine runH (P := P_ic4) (Q := QB) qH_w hM ch_ic4 all_nil (aw0 := aw0) (aw := aw5) (fun g => by cases g) rfl (τ0 := [0, (x : Int)]) (σ := [0, (x : Int)]) rfl rfl (Nat.zero_le _) ⟨Nat.zero_le _, Nat.zero_le _⟩ (xt_refl _) ⟨eOK2_L ⟨⟨by decide, by decide⟩, ⟨by dsimp only; omega, by dsimp only; omega⟩, trivial⟩ rfl all_nil, hOK_nil hh5, lvOK_cons ⟨_, w05, y05⟩ lvOK_nil, ⟨vN ⟨(x : Int), rfl, Int.add_zero _⟩ (by omega), trivial⟩, a15⟩ a25 ?_ all_nil
                intro o ho τ9 aw9 w9 D9 x9 d1 d2 d3 d4 d5
                have ho := List.mem_singleton.mp ho
                subst ho
                obtain ⟨y, y1, y2, y3⟩ := d3.2.2.1 2 _ rfl
                obtain ⟨v, v1, v2⟩ := d5
                have v3 := (vI_of y1 v2).2
                rw [Int.add_zero] at v3
                have y2 : (0 : Int) ≤ y := y2
                have y3 : y ≤ 1 := y3
                refine ⟨aw9, d1, d2, hOK_nil d4, ?_⟩
                rw [v1, v3]
                have : y = 0 ∨ y = 1 := by omega
                rcases this with e | e
                · subst e; exact Or.inl rfl
                · subst e; exact Or.inr rfl
            · refine runH (P := P_ic3c) (Q := QB) qH_w hM ch_ic3c all_nil (aw0 := aw0) (aw := aw3) (fun g => by cases g) rfl (τ0 := [0, (k : Int), (x : Int)]) (σ := [0, (k : Int), (x : Int)]) rfl rfl (Nat.zero_le _) ⟨Nat.zero_le _, Nat.zero_le _⟩ (xt_refl _) ⟨eOK2_L ⟨⟨by decide, by decide⟩, ⟨by dsimp only; omega, by dsimp only; omega⟩, ⟨by dsimp only; omega, by dsimp only; omega⟩, trivial⟩ rfl all_nil, hOK_nil hh3, lvOK_cons ⟨_, w03, y03⟩ (lvOK_cons ⟨_, w13, vN ⟨(k : Int), rfl, Int.add_zero _⟩ (by omega)⟩ lvOK_nil), ⟨vN ⟨(x : Int), rfl, Int.add_zero _⟩ (by omega), trivial⟩, a13⟩ a23 all_nil ?_
              intro c5 hcc5 τ5 aw5 lw5 sw5 D5 x5 a15 a25 a35 a45 a55 a65
              have hcc5 := List.mem_singleton.mp hcc5
              subst hcc5
              match sw5, a65 with
              | [p05, p15], _ =>
                obtain ⟨v05, w05, y05⟩ := a55 0 _ rfl
                obtain ⟨v15, w15, y15⟩ := a55 1 _ rfl
                have w05 : lget lw5 0 = some v05 := w05
                have w15 : lget lw5 1 = some v15 := w15
                have i15 := (vI_of (x5 1 (k : Int) rfl) y15).2
                rw [Int.add_zero, ek] at i15
                rw [i15] at w15
                have hh5 := hOK_0 a35 a45 rfl
                obtain ⟨v25, w25, y25⟩ := a55 200 _ rfl
                have w25 : some p05 = some v25 := w25
                cases w25
                obtain ⟨v35, w35, y35⟩ := a55 201 _ rfl
                have w35 : some p15 = some v35 := w35
                cases w35
                have i25 := (vI_of (x5 1 (k : Int) rfl) y25).2
                rw [Int.add_zero, ek] at i25
                rw [i25]
                refine ev_ald (mt_X12_isCompared_39 hM) (by decide +kernel : qH.2[233]? = some 75) (rfl : qH.1[75]? = some (14, 90, some 233, [.inl (0, 8)])) a15 hh5 (rd a25) (by omega) y35 ?_
                refine runH (P := P_ic4) (Q := QB) qH_w hM ch_ic4 all_nil (aw0 := aw0) (aw := aw5) (fun g => by cases g) rfl (τ0 := [0, (x : Int)]) (σ := [0, (x : Int)]) rfl rfl (Nat.zero_le _) ⟨Nat.zero_le _, Nat.zero_le _⟩ (xt_refl _) ⟨eOK2_L ⟨⟨by decide, by decide⟩, ⟨by dsimp only; omega, by dsimp only; omega⟩, trivial⟩ rfl all_nil, hOK_nil hh5, lvOK_cons ⟨_, w05, y05⟩ lvOK_nil, ⟨vN ⟨(x : Int), rfl, Int.add_zero _⟩ (by omega), trivial⟩, a15⟩ a25 ?_ all_nil
                intro o ho τ9 aw9 w9 D9 x9 d1 d2 d3 d4 d5
                have ho := List.mem_singleton.mp ho
                subst ho
                obtain ⟨y, y1, y2, y3⟩ := d3.2.2.1 2 _ rfl
                obtain ⟨v, v1, v2⟩ := d5
                have v3 := (vI_of y1 v2).2
                rw [Int.add_zero] at v3
                have y2 : (0 : Int) ≤ y := y2
                have y3 : y ≤ 1 := y3
                refine ⟨aw9, d1, d2, hOK_nil d4, ?_⟩
                rw [v1, v3]
                have : y = 0 ∨ y = 1 := by omega
                rcases this with e | e
                · subst e; exact Or.inl rfl
                · subst e; exact Or.inr rfl
      · refine runH (P := P_ic2c) (Q := QB) qH_w hM ch_ic2c all_nil (aw0 := aw0) (aw := aw1) (fun g => by cases g) rfl (τ0 := [0, (k : Int), (x : Int)]) (σ := [0, (k : Int), (x : Int)]) rfl rfl (Nat.zero_le _) ⟨Nat.zero_le _, Nat.zero_le _⟩ (xt_refl _) ⟨eOK2_L ⟨⟨by decide, by decide⟩, ⟨by dsimp only; omega, by dsimp only; omega⟩, ⟨by dsimp only; omega, by dsimp only; omega⟩, trivial⟩ rfl all_nil, hOK_nil hh1, lvOK_cons ⟨_, w01, y01⟩ (lvOK_cons ⟨_, w11, vN ⟨(k : Int), rfl, Int.add_zero _⟩ (by omega)⟩ lvOK_nil), ⟨vN ⟨(x : Int), rfl, Int.add_zero _⟩ (by omega), trivial⟩, a11⟩ a21 all_nil ?_
        intro c3 hcc3 τ3 aw3 lw3 sw3 D3 x3 a13 a23 a33 a43 a53 a63
        have hcc3 := List.mem_singleton.mp hcc3
        subst hcc3
        match sw3, a63 with
        | [p03, p13], _ =>
          obtain ⟨v03, w03, y03⟩ := a53 0 _ rfl
          obtain ⟨v13, w13, y13⟩ := a53 1 _ rfl
          have w03 : lget lw3 0 = some v03 := w03
          have w13 : lget lw3 1 = some v13 := w13
          have i13 := (vI_of (x3 1 (k : Int) rfl) y13).2
          rw [Int.add_zero, ek] at i13
          rw [i13] at w13
          have hh3 := hOK_0 a33 a43 rfl
          obtain ⟨v23, w23, y23⟩ := a53 200 _ rfl
          have w23 : some p03 = some v23 := w23
          cases w23
          obtain ⟨v33, w33, y33⟩ := a53 201 _ rfl
          have w33 : some p13 = some v33 := w33
          cases w33
          have i23 := (vI_of (x3 1 (k : Int) rfl) y23).2
          rw [Int.add_zero, ek] at i23
          rw [i23]
          refine ev_ald (mt_X12_isCompared_22 hM) (by decide +kernel : qH.2[233]? = some 75) (rfl : qH.1[75]? = some (14, 90, some 233, [.inl (0, 8)])) a13 hh3 (rd a23) (by omega) y33 ?_
          by_cases h6 : x = 6
          · have hk1 := hxk (Or.inr h6)
            refine runH (P := P_ic3a) (Q := QB) qH_w hM ch_ic3a all_nil (aw0 := aw0) (aw := aw3) (fun g => by cases g) rfl (τ0 := [0, (k : Int)]) (σ := [0, (k : Int)]) rfl rfl (Nat.zero_le _) ⟨Nat.zero_le _, Nat.zero_le _⟩ (xt_refl _) ⟨eOK2_L ⟨⟨by decide, by decide⟩, ⟨by dsimp only; omega, by dsimp only; omega⟩, trivial⟩ rfl all_nil, hOK_nil hh3, lvOK_cons ⟨_, w03, y03⟩ (lvOK_cons ⟨_, w13, vN ⟨(k : Int), rfl, Int.add_zero _⟩ (by omega)⟩ lvOK_nil), ⟨vI (y := 0) (z := (x : Int)) rfl (by omega) ⟨by omega, by omega⟩ (eI_nat (by omega)).symm, trivial⟩, a13⟩ a23 all_nil ?_
            intro c4 hcc4 τ4 aw4 lw4 sw4 D4 x4 a14 a24 a34 a44 a54 a64
            have hcc4 := List.mem_singleton.mp hcc4
            subst hcc4
            match sw4, a64 with
            | [], _ =>
              obtain ⟨v04, w04, y04⟩ := a54 0 _ rfl
              obtain ⟨v14, w14, y14⟩ := a54 1 _ rfl
              have w04 : lget lw4 0 = some v04 := w04
              have w14 : lget lw4 1 = some v14 := w14
              have i14 := (vI_of (x4 1 (k : Int) rfl) y14).2
              rw [show (k : Int) + -1 = ((k - 1 : Nat) : Int) by omega, eI_nat (by omega)] at i14
              rw [i14] at w14
              have hh4 := hOK_0 a34 a44 rfl
              exact hgo (hxk (by omega)) lw4 D4 aw4 (by omega) a14 a24 hh4 ⟨_, w04, y04⟩ w14
          · by_cases h4 : x ≤ 4
            · refine runH (P := P_ic3b) (Q := QB) qH_w hM ch_ic3b all_nil (aw0 := aw0) (aw := aw3) (fun g => by cases g) rfl (τ0 := [0, (k : Int), (x : Int)]) (σ := [0, (k : Int), (x : Int)]) rfl rfl (Nat.zero_le _) ⟨Nat.zero_le _, Nat.zero_le _⟩ (xt_refl _) ⟨eOK2_L ⟨⟨by decide, by decide⟩, ⟨by dsimp only; omega, by dsimp only; omega⟩, ⟨by dsimp only; omega, by dsimp only; omega⟩, trivial⟩ rfl all_nil, hOK_nil hh3, lvOK_cons ⟨_, w03, y03⟩ (lvOK_cons ⟨_, w13, vN ⟨(k : Int), rfl, Int.add_zero _⟩ (by omega)⟩ lvOK_nil), ⟨vN ⟨(x : Int), rfl, Int.add_zero _⟩ (by omega), trivial⟩, a13⟩ a23 all_nil ?_
              intro c5 hcc5 τ5 aw5 lw5 sw5 D5 x5 a15 a25 a35 a45 a55 a65
              have hcc5 := List.mem_singleton.mp hcc5
              subst hcc5
              match sw5, a65 with
              | [p05, p15], _ =>
                obtain ⟨v05, w05, y05⟩ := a55 0 _ rfl
                obtain ⟨v15, w15, y15⟩ := a55 1 _ rfl
                have w05 : lget lw5 0 = some v05 := w05
                have w15 : lget lw5 1 = some v15 := w15
                have i15 := (vI_of (x5 1 (k : Int) rfl) y15).2
                rw [Int.add_zero, ek] at i15
                rw [i15] at w15
                have hh5 := hOK_0 a35 a45 rfl
                obtain ⟨v25, w25, y25⟩ := a55 200 _ rfl
                have w25 : some p05 = some v25 := w25
                cases w25
                obtain ⟨v35, w35, y35⟩ := a55 201 _ rfl
                have w35 : some p15 = some v35 := w35
                cases w35
                have i25 := (vI_of (x5 1 (k : Int) rfl) y25).2
                rw [Int.add_zero, ek] at i25
                rw [i25]
                refine ev_ald (mt_X12_isCompared_39 hM) (by decide +kernel : qH.2[233]? = some 75) (rfl : qH.1[75]? = some (14, 90, some 233, [.inl (0, 8)])) a15 hh5 (rd a25) (by omega) y35 ?_
                refine runH (P := P_ic4) (Q := QB) qH_w hM ch_ic4 all_nil (aw0 := aw0) (aw := aw5) (fun g => by cases g) rfl (τ0 := [0, (x : Int)]) (σ := [0, (x : Int)]) rfl rfl (Nat.zero_le _) ⟨Nat.zero_le _, Nat.zero_le _⟩ (xt_refl _) ⟨eOK2_L ⟨⟨by decide, by decide⟩, ⟨by dsimp only; omega, by dsimp only; omega⟩, trivial⟩ rfl all_nil, hOK_nil hh5, lvOK_cons ⟨_, w05, y05⟩ lvOK_nil, ⟨vN ⟨(x : Int), rfl, Int.add_zero _⟩ (by omega), trivial⟩, a15⟩ a25 ?_ all_nil
                intro o ho τ9 aw9 w9 D9 x9 d1 d2 d3 d4 d5
                have ho := List.mem_singleton.mp ho
                subst ho
                obtain ⟨y, y1, y2, y3⟩ := d3.2.2.1 2 _ rfl
                obtain ⟨v, v1, v2⟩ := d5
                have v3 := (vI_of y1 v2).2
                rw [Int.add_zero] at v3
                have y2 : (0 : Int) ≤ y := y2
                have y3 : y ≤ 1 := y3
                refine ⟨aw9, d1, d2, hOK_nil d4, ?_⟩
                rw [v1, v3]
                have : y = 0 ∨ y = 1 := by omega
                rcases this with e | e
                · subst e; exact Or.inl rfl
                · subst e; exact Or.inr rfl
            · refine runH (P := P_ic3c) (Q := QB) qH_w hM ch_ic3c all_nil (aw0 := aw0) (aw := aw3) (fun g => by cases g) rfl (τ0 := [0, (k : Int), (x : Int)]) (σ := [0, (k : Int), (x : Int)]) rfl rfl (Nat.zero_le _) ⟨Nat.zero_le _, Nat.zero_le _⟩ (xt_refl _) ⟨eOK2_L ⟨⟨by decide, by decide⟩, ⟨by dsimp only; omega, by dsimp only; omega⟩, ⟨by dsimp only; omega, by dsimp only; omega⟩, trivial⟩ rfl all_nil, hOK_nil hh3, lvOK_cons ⟨_, w03, y03⟩ (lvOK_cons ⟨_, w13, vN ⟨(k : Int), rfl, Int.add_zero _⟩ (by omega)⟩ lvOK_nil), ⟨vN ⟨(x : Int), rfl, Int.add_zero _⟩ (by omega), trivial⟩, a13⟩ a23 all_nil ?_
              intro c5 hcc5 τ5 aw5 lw5 sw5 D5 x5 a15 a25 a35 a45 a55 a65
              have hcc5 := List.mem_singleton.mp hcc5
              subst hcc5
              match sw5, a65 with
              | [p05, p15], _ =>
                obtain ⟨v05, w05, y05⟩ := a55 0 _ rfl
                obtain ⟨v15, w15, y15⟩ := a55 1 _ rfl
                have w05 : lget lw5 0 = some v05 := w05
                have w15 : lget lw5 1 = some v15 := w15
                have i15 := (vI_of (x5 1 (k : Int) rfl) y15).2
                rw [Int.add_zero, ek] at i15
                rw [i15] at w15
                have hh5 := hOK_0 a35 a45 rfl
                obtain ⟨v25, w25, y25⟩ := a55 200 _ rfl
                have w25 : some p05 = some v25 := w25
                cases w25
                obtain ⟨v35, w35, y35⟩ := a55 201 _ rfl
                have w35 : some p15 = some v35 := w35
                cases w35
                have i25 := (vI_of (x5 1 (k : Int) rfl) y25).2
                rw [Int.add_zero, ek] at i25
                rw [i25]
                refine ev_ald (mt_X12_isCompared_39 hM) (by decide +kernel : qH.2[233]? = some 75) (rfl : qH.1[75]? = some (14, 90, some 233, [.inl (0, 8)])) a15 hh5 (rd a25) (by omega) y35 ?_
                refine runH (P := P_ic4) (Q := QB) qH_w hM ch_ic4 all_nil (aw0 := aw0) (aw := aw5) (fun g => by cases g) rfl (τ0 := [0, (x : Int)]) (σ := [0, (x : Int)]) rfl rfl (Nat.zero_le _) ⟨Nat.zero_le _, Nat.zero_le _⟩ (xt_refl _) ⟨eOK2_L ⟨⟨by decide, by decide⟩, ⟨by dsimp only; omega, by dsimp only; omega⟩, trivial⟩ rfl all_nil, hOK_nil hh5, lvOK_cons ⟨_, w05, y05⟩ lvOK_nil, ⟨vN ⟨(x : Int), rfl, Int.add_zero _⟩ (by omega), trivial⟩, a15⟩ a25 ?_ all_nil
                intro o ho τ9 aw9 w9 D9 x9 d1 d2 d3 d4 d5
                have ho := List.mem_singleton.mp ho
                subst ho
                obtain ⟨y, y1, y2, y3⟩ := d3.2.2.1 2 _ rfl
                obtain ⟨v, v1, v2⟩ := d5
                have v3 := (vI_of y1 v2).2
                rw [Int.add_zero] at v3
                have y2 : (0 : Int) ≤ y := y2
                have y3 : y ≤ 1 := y3
                refine ⟨aw9, d1, d2, hOK_nil d4, ?_⟩
                rw [v1, v3]
                have : y = 0 ∨ y = 1 := by omega
                rcases this with e | e
                · subst e; exact Or.inl rfl
                · subst e; exact Or.inr rfl
theorem isc_loop {L : List Nat} {M : rM} (hM : mT 257 = some M) {d : Nat} {aw0 : List rC} {pile : List (Nat × Nat)} (hP : PL aw0 pile) (hb : botOK pile) (hl : pile.length ≤ 40) : ∀ (k : Nat) (lw : rK) (D : rD) (aw : List rC), k < pile.length → rep D aw → ag qH [] aw0 aw → hOK qH [0] [] aw → (∃ v, lget lw 0 = some v ∧ vOK qH [] (.inr (.inr (some 53))) v) → lget lw 1 = some (.inl k) → Ev L d M (7, lw, [], D, 0, 0) (PostI aw0) := by
  intro k
  induction k with
  | zero => exact isc_step hM hP hb hl 0 (fun h => absurd h (by decide))
  | succ k ih => exact isc_step hM hP hb hl (k + 1) (fun _ lw D aw hk hr ha hh h0 h1 => ih lw D aw (by omega) hr ha hh h0 h1)
theorem isc_ok {L : List Nat} {M : rM} (hM : mT 257 = some M) {d : Nat} {Aw : List rV} {D : rD} {aw : List rC} {pile : List (Nat × Nat)} (hr : rep D aw) (hh : hOK qH [0] [] aw) (hP : PL aw pile) (hb : botOK pile) (hs : sl aw 211 37 = some (.inl pile.length)) (hl : pile.length ≤ 40) (h0 : ∃ v, lget (argsL Aw 0) 0 = some v ∧ vOK qH [] (.inr (.inr (some 53))) v) : Ev L d M (0, argsL Aw 0, [], D, 0, 0) (PostI aw) := by
  have h1 := bot_len hb
  have ep : eI (pile.length : Int) = pile.length := eI_nat (by omega)
  refine runH (P := P_ic0) (Q := QB) qH_w hM ch_ic0 all_nil (aw0 := aw) (aw := aw) (fun g => by cases g) rfl (τ0 := [0, (pile.length : Int)]) (σ := [0, (pile.length : Int)]) rfl rfl (Nat.zero_le _) ⟨Nat.zero_le _, Nat.zero_le _⟩ (xt_refl _) ⟨eOK2_L ⟨⟨by decide, by decide⟩, ⟨by dsimp only; omega, by dsimp only; omega⟩, trivial⟩ rfl all_nil, hOK_mk hh (all_cons ⟨_, hs, vN ⟨_, rfl, Int.add_zero _⟩ (by omega)⟩ all_nil), lvOK_cons h0 lvOK_nil, trivial, hr⟩ (ag_refl _ _ _) all_nil ?_
  intro c hcc τ1 aw1 lw1 sw1 D1 x1 a1 a2 a3 a4 a5 a6
  have hcc := List.mem_singleton.mp hcc
  subst hcc
  match sw1, a6 with
  | [], _ =>
    obtain ⟨v0, w0, y0⟩ := a5 0 _ rfl
    obtain ⟨v1, w1, y1⟩ := a5 1 _ rfl
    have w0 : lget lw1 0 = some v0 := w0
    have w1 : lget lw1 1 = some v1 := w1
    have i1 := (vI_of (x1 1 (pile.length : Int) rfl) y1).2
    rw [show (pile.length : Int) + -1 = ((pile.length - 1 : Nat) : Int) by omega, eI_nat (by omega)] at i1
    rw [i1] at w1
    exact isc_loop hM hP hb hl (pile.length - 1) lw1 D1 aw1 (by omega) a1 a2 (hOK_0 a3 a4 rfl) ⟨_, w0, y0⟩ w1
