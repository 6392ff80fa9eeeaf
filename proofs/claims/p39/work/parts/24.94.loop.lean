/-! by hand: the loop behind a unit -/
theorem top_le {pile : List (Nat × Nat)} {x : Nat × Nat} (h : botOK (pile ++ [x])) : 1 ≤ x.1 ∧ x.1 ≤ 8 ∧ (x.1 ≤ 6 → x.2 ≤ 255) := by
  by_cases h8 : x.1 = 8
  · exact ⟨by omega, by omega, fun g => by omega⟩
  · have hp := (bot_pop h h8).2
    have := pe_pos hp
    refine ⟨by omega, by omega, fun g => ?_⟩
    rcases hp with ⟨-, q⟩ | q | ⟨-, -, q⟩
    · omega
    · omega
    · exact q
set_option maxHeartbeats 4000000 in
theorem pop_tail0 {L : List Nat} {M : rM} (hM : mT 254 = some M) {d : Nat} (hd : 5 ≤ d + 1) {aw0 : List rC} {a e s t u k : Nat} (hT : tokOK a e s t) {c w : Nat} {pile : List (Nat × Nat)} {x : Nat × Nat} {lw1 : rK} {D1 : rD} {aw1 : List rC} {v0 : rV} {σ : List Int} (a11 : rep D1 aw1) (ha : agU 0 aw0 aw1) (hS : RS 0 aw1 a e s t c pile.length w u) (hJ : JJ 0 false aw1 c u w (pile ++ [x])) (hx : x.1 ≤ 6) (hw : w ≤ 7) (h0 : ∃ v, lget lw1 0 = some v ∧ vOK qH [] (.inr (.inr (some 53))) v) (h1 : lget lw1 1 = some (.inl k)) (hk6 : k ≤ 6) (hv0 : vOK qH σ (.inr (.inr (some 75))) v0) (hgo : ∀ (c' w' : Nat) (lw2 : rK) (D2 : rD) (aw2 : List rC), rep D2 aw2 → agU 0 aw0 aw2 → RS 0 aw2 a e s t c' pile.length w' u → JJ 0 false aw2 c' u w' pile → w' ≤ 7 → (∃ v, lget lw2 0 = some v ∧ vOK qH [] (.inr (.inr (some 53))) v) → lget lw2 1 = some (.inl k) → Ev L (d + 1) M (23, lw2, [], D2, 0, 0) (PostB 0 aw0 a s t)) : Ev L (d + 1) M (72, lw1, [.inl pile.length, v0], D1, 0, 0) (PostB 0 aw0 a s t) := by
  obtain ⟨j1, j2, j3, j4, j5, j6⟩ := JJ_bound hJ hw
  have hcz : (0 : Nat) ≤ mC M ∧ (0 : Nat) ≤ mS M := ⟨Nat.zero_le _, Nat.zero_le _⟩
  have htop := PL_top hJ.1
  obtain ⟨t1, t2, t3⟩ := top_le hJ.2.1
  have t3 := t3 hx
  have hll : (pile ++ [x]).length = pile.length + 1 := by rw [List.length_append]; rfl
  rw [hll] at j1
  obtain ⟨v01, w01, y01⟩ := h0
  have w11 := h1
  have hw3 : x.1 = 3 → 1 ≤ w := by
    intro h3
    have hb := hJ.2.2.1
    rw [hb, List.countP_append, List.countP_cons, if_pos (by unfold isW; rw [decide_eq_true]; omega)]
    omega
  refine ev_ald (mt_X12_behindUnit_72 hM) (by decide +kernel : qH.2[233]? = some 75) (rfl : qH.1[75]? = some (14, 90, some 233, [.inl (0, 8)])) a11 hS.1 htop.1 (by omega) hv0 ?_
  have fin : ∀ (w' : Nat) (c2 : hCu), c2.1 = 96 → c2.2.1 = 3 → c2.2.2.2.1 = [(0, .inr (.inr (some 53))), (1, .inl (1, 0)), (200, .inl (2, 0)), (201, .inr (.inr (some 76))), (202, .inr (.inr (some 53)))] → c2.2.2.2.2.1 = c2.2.2.2.2.1 → w' ≤ 7 → (if x.1 = 3 then w - 1 else w) = w' → ∀ (aw2 : List rC) (lw2 : rK) (sw2 : List rV) (D2 : rD) (τ2 : List Int), xt [0, (k : Int), (pile.length : Int), (w : Int), (x.1 : Int)] τ2 → rep D2 aw2 → agU 0 aw1 aw2 → (∀ j, sl aw2 233 j = sl aw1 233 j) → (∀ j, sl aw2 234 j = sl aw1 234 j) → (∀ j, sl aw2 pCode j = sl aw1 pCode j) → RS 0 aw2 a e s t c pile.length w' u → lvOK qH τ2 [(0, .inr (.inr (some 53))), (1, .inl (1, 0)), (200, .inl (2, 0)), (201, .inr (.inr (some 76))), (202, .inr (.inr (some 53)))] (wst sw2 200 lw2) → sw2.length = 3 → Ev L (d + 1) M (96, lw2, sw2, D2, 0, 0) (PostB 0 aw0 a s t) := by
    intro w' c2 _ _ _ _ hw' hwe aw2 lw2 sw2 D2 τ2 x2 a12 a22 e1 e2 e3 hS2 a52 a62
    match sw2, a62 with
    | [p02, p12, p22], _ =>
      obtain ⟨v02, w02, y02⟩ := a52 0 _ rfl
      have w02 : lget lw2 0 = some v02 := w02
      obtain ⟨v12, w12, y12⟩ := a52 1 _ rfl
      have w12 : lget lw2 1 = some v12 := w12
      have i12 := (vI_of (x2 1 (k : Int) rfl) y12).2
      rw [Int.add_zero, eI_nat (by omega)] at i12
      rw [i12] at w12
      obtain ⟨v22, w22, y22⟩ := a52 200 _ rfl
      have w22 : some p02 = some v22 := w22
      cases w22
      obtain ⟨v32, w32, y32⟩ := a52 201 _ rfl
      have w32 : some p12 = some v32 := w32
      cases w32
      obtain ⟨v42, w42, y42⟩ := a52 202 _ rfl
      have w42 : some p22 = some v42 := w42
      cases w42
      have i22 := (vI_of (x2 2 (pile.length : Int) rfl) y22).2
      rw [Int.add_zero, eI_nat (by omega)] at i22
      rw [i22]
      refine ev_ald (mt_X12_behindUnit_96 hM) (by decide +kernel : qH.2[234]? = some 76) (rfl : qH.1[76]? = some (14, 90, some 234, [.inl (-2147483648, 2147483647)])) a12 hS2.1 (by rw [e2]; exact htop.2) (by omega) y32 ?_
      refine runH (P := P_bl4) (Q := QB) qH_w hM ch_bl4 all_nil (aw0 := aw2) (aw := aw2) (fun g => by cases g) rfl (τ0 := [0, (k : Int), (x.2 : Int)]) (σ := [0, (k : Int), (x.2 : Int)]) rfl rfl (Nat.zero_le _) hcz (xt_refl _) ⟨eOK2_L ⟨⟨by decide, by decide⟩, ⟨by dsimp only; omega, by dsimp only; omega⟩, ⟨by dsimp only; omega, by dsimp only; omega⟩, trivial⟩ rfl all_nil, hOK_nil hS2.1, lvOK_cons ⟨_, w02, y02⟩ (lvOK_cons ⟨_, w12, vN ⟨(k : Int), rfl, Int.add_zero _⟩ (by omega)⟩ lvOK_nil), ⟨vN ⟨(x.2 : Int), rfl, Int.add_zero _⟩ (by omega), y42, trivial⟩, a12⟩ (ag_refl _ _ _) all_nil ?_
      intro c3 hcc3 τ3 aw3 lw3 sw3 D3 x3 a13 a23 a33 a43 a53 a63
      have hcc3 := List.mem_singleton.mp hcc3
      subst hcc3
      match sw3, a63 with
      | [p03, p13, p23], _ =>
        obtain ⟨v03, w03, y03⟩ := a53 0 _ rfl
        have w03 : lget lw3 0 = some v03 := w03
        have hh3 := hOK_0 a33 a43 rfl
        obtain ⟨v13, w13, y13⟩ := a53 1 _ rfl
        have w13 : lget lw3 1 = some v13 := w13
        have i13 := (vI_of (x3 1 (k : Int) rfl) y13).2
        rw [Int.add_zero, eI_nat (by omega)] at i13
        rw [i13] at w13
        obtain ⟨v23, w23, y23⟩ := a53 200 _ rfl
        have w23 : some p03 = some v23 := w23
        cases w23
        obtain ⟨v33, w33, y33⟩ := a53 201 _ rfl
        have w33 : some p13 = some v33 := w33
        cases w33
        obtain ⟨v43, w43, y43⟩ := a53 202 _ rfl
        have w43 : some p23 = some v43 := w43
        cases w43
        have i23 : p03 = .inl 0 := (vI_of (x3 0 0 rfl) y23).2
        have i33 := (vI_of (x3 2 (x.2 : Int) rfl) y33).2
        rw [Int.add_zero, eI_nat (by omega)] at i33
        rw [i23, i33]
        have hS3 := RS_0 hS2 hh3 a23 (by rfl)
        refine ev_emit (mk_X12_behindUnit_98 hM) hcz a13 hh3 (by omega) (by decide) (by omega) hS3.2.2.2.2.2.2.2.1 (Nat.zero_le _) y43 (fun D4 aw4 b1 b2 b3 b4 b5 => ?_)
        have hS4 := RS_35 hS3 b2 b3 b4
        have q1 : ∀ j, sl aw3 233 j = sl aw1 233 j := fun j => by rw [a23.2 233 75 j (by decide +kernel) rfl, e1]
        have q2 : ∀ j, sl aw3 234 j = sl aw1 234 j := fun j => by rw [a23.2 234 76 j (by decide +kernel) rfl, e2]
        have q3 : ∀ j, sl aw3 pCode j = sl aw1 pCode j := fun j => by rw [a23.2 pCode 73 j (by decide +kernel) rfl, e3]
        have hJ4 := (JJ_pop (aw' := aw4) hJ hx (fun j => by rw [b3.2 233 75 j (by decide +kernel) rfl, q1]) (fun j => by rw [b3.2 234 76 j (by decide +kernel) rfl, q2]) (fun j => by rw [b5, q3])).1
        rw [hwe] at hJ4
        have a14 := b1
        refine runH (P := P_bl5) (Q := QB) qH_w hM ch_bl5 all_nil (aw0 := aw4) (aw := aw4) (fun g => by cases g) rfl (τ0 := [0, (k : Int)]) (σ := [0, (k : Int)]) rfl rfl (Nat.zero_le _) hcz (xt_refl _) ⟨eOK2_L ⟨⟨by decide, by decide⟩, ⟨by dsimp only; omega, by dsimp only; omega⟩, trivial⟩ rfl all_nil, hOK_nil b2, lvOK_cons ⟨_, w03, y03⟩ (lvOK_cons ⟨_, w13, vN ⟨(k : Int), rfl, Int.add_zero _⟩ (by omega)⟩ lvOK_nil), trivial, a14⟩ (ag_refl _ _ _) all_nil ?_
        intro c5 hcc5 τ5 aw5 lw5 sw5 D5 x5 a15 a25 a35 a45 a55 a65
        have hcc5 := List.mem_singleton.mp hcc5
        subst hcc5
        match sw5, a65 with
        | [], _ =>
          obtain ⟨v05, w05, y05⟩ := a55 0 _ rfl
          have w05 : lget lw5 0 = some v05 := w05
          have hh5 := hOK_0 a35 a45 rfl
          obtain ⟨v15, w15, y15⟩ := a55 1 _ rfl
          have w15 : lget lw5 1 = some v15 := w15
          have i15 := (vI_of (x5 1 (k : Int) rfl) y15).2
          rw [Int.add_zero, eI_nat (by omega)] at i15
          rw [i15] at w15
          exact hgo (c + 1) w' lw5 D5 aw5 a15 (agU_trans ha (agU_trans a22 (agU_trans (agU_s (by rfl) (by rfl) a23) (agU_trans (agU_e (by rfl) b3 b5 ⟨j3, by omega⟩) (agU_s (by rfl) (by rfl) a25))))) (RS_0 hS4 hh5 a25 (by rfl)) (JJ_0 hJ4 a25 (by rfl)) hw' ⟨_, w05, y05⟩ w15
  by_cases h3 : x.1 = 3
  · refine runH (P := P_bl3a) (Q := QB) qH_w hM ch_bl3a all_nil (aw0 := aw1) (aw := aw1) (fun g => by cases g) rfl (τ0 := [0, (k : Int), (pile.length : Int), (w : Int), (x.1 : Int)]) (σ := [0, (k : Int), (pile.length : Int), (w : Int), (x.1 : Int)]) rfl rfl (Nat.zero_le _) hcz (xt_refl _) ⟨eOK2_L ⟨⟨by decide, by decide⟩, ⟨by dsimp only; omega, by dsimp only; omega⟩, ⟨by dsimp only; omega, by dsimp only; omega⟩, ⟨by dsimp only; omega, by dsimp only; omega⟩, ⟨by dsimp only; omega, by dsimp only; omega⟩, trivial⟩ rfl all_nil, hOK_mk hS.1 (all_cons ⟨_, hS.2.2.2.2.2.2.2.2.1, vN ⟨(w : Int), rfl, Int.add_zero _⟩ (by omega)⟩ (all_cons ⟨_, hS.2.2.2.2.2.2.2.2.2.1, vN ⟨(pile.length : Int), rfl, Int.add_zero _⟩ (by omega)⟩ all_nil)), lvOK_cons ⟨_, w01, y01⟩ (lvOK_cons ⟨_, w11, vN ⟨(k : Int), rfl, Int.add_zero _⟩ (by omega)⟩ lvOK_nil), ⟨vN ⟨(x.1 : Int), rfl, Int.add_zero _⟩ (by omega), trivial⟩, a11⟩ (ag_refl _ _ _) all_nil ?_
    intro c2 hcc2 τ2 aw2 lw2 sw2 D2 x2 a12 a22 a32 a42 a52 a62
    have hcc2 := List.mem_singleton.mp hcc2
    subst hcc2
    have g36 := (sl_of (j := 36) (i := 3) (o := -1) a42 (by decide +kernel : qH.2[211]? = some 53) (rfl : qH.1[53]? = some _) (by decide) rfl (x2 3 (w : Int) rfl)).2
    have g37 := (sl_of (j := 37) (i := 2) (o := 0) a42 (by decide +kernel : qH.2[211]? = some 53) (rfl : qH.1[53]? = some _) (by decide) rfl (x2 2 (pile.length : Int) rfl)).2
    rw [Int.add_zero, eI_nat (by omega)] at g37
    have hw1 := hw3 h3
    rw [show (w : Int) + -1 = ((w - 1 : Nat) : Int) by omega, eI_nat (by omega)] at g36
    exact fin (w - 1) (96, 3, [], [(0, .inr (.inr (some 53))), (1, .inl (1, 0)), (200, .inl (2, 0)), (201, .inr (.inr (some 76))), (202, .inr (.inr (some 53)))], ([], [], []), []) rfl rfl rfl rfl (by omega) (if_pos h3) aw2 lw2 sw2 D2 τ2 x2 a12 (agU_s (by rfl) (by rfl) a22) (fun j => a22.2 233 75 j (by decide +kernel) rfl) (fun j => a22.2 234 76 j (by decide +kernel) rfl) (fun j => a22.2 pCode 73 j (by decide +kernel) rfl) (RS_x hS (hOK_0 a32 a42 rfl) a22 (by rfl) g36 g37) a52 a62
  · by_cases h2 : x.1 ≤ 2
    · refine runH (P := P_bl3b) (Q := QB) qH_w hM ch_bl3b all_nil (aw0 := aw1) (aw := aw1) (fun g => by cases g) rfl (τ0 := [0, (k : Int), (pile.length : Int), (w : Int), (x.1 : Int)]) (σ := [0, (k : Int), (pile.length : Int), (w : Int), (x.1 : Int)]) rfl rfl (Nat.zero_le _) hcz (xt_refl _) ⟨eOK2_L ⟨⟨by decide, by decide⟩, ⟨by dsimp only; omega, by dsimp only; omega⟩, ⟨by dsimp only; omega, by dsimp only; omega⟩, ⟨by dsimp only; omega, by dsimp only; omega⟩, ⟨by dsimp only; omega, by dsimp only; omega⟩, trivial⟩ rfl all_nil, hOK_mk hS.1 (all_cons ⟨_, hS.2.2.2.2.2.2.2.2.1, vN ⟨(w : Int), rfl, Int.add_zero _⟩ (by omega)⟩ (all_cons ⟨_, hS.2.2.2.2.2.2.2.2.2.1, vN ⟨(pile.length : Int), rfl, Int.add_zero _⟩ (by omega)⟩ all_nil)), lvOK_cons ⟨_, w01, y01⟩ (lvOK_cons ⟨_, w11, vN ⟨(k : Int), rfl, Int.add_zero _⟩ (by omega)⟩ lvOK_nil), ⟨vN ⟨(x.1 : Int), rfl, Int.add_zero _⟩ (by omega), trivial⟩, a11⟩ (ag_refl _ _ _) all_nil ?_
      intro c2 hcc2 τ2 aw2 lw2 sw2 D2 x2 a12 a22 a32 a42 a52 a62
      have hcc2 := List.mem_singleton.mp hcc2
      subst hcc2
      have g36 := (sl_of (j := 36) (i := 3) (o := 0) a42 (by decide +kernel : qH.2[211]? = some 53) (rfl : qH.1[53]? = some _) (by decide) rfl (x2 3 (w : Int) rfl)).2
      have g37 := (sl_of (j := 37) (i := 2) (o := 0) a42 (by decide +kernel : qH.2[211]? = some 53) (rfl : qH.1[53]? = some _) (by decide) rfl (x2 2 (pile.length : Int) rfl)).2
      rw [Int.add_zero, eI_nat (by omega)] at g37
      rw [Int.add_zero, eI_nat (by omega)] at g36
      exact fin w (96, 3, [], [(0, .inr (.inr (some 53))), (1, .inl (1, 0)), (200, .inl (2, 0)), (201, .inr (.inr (some 76))), (202, .inr (.inr (some 53)))], ([], [], []), []) rfl rfl rfl rfl (by omega) (if_neg h3) aw2 lw2 sw2 D2 τ2 x2 a12 (agU_s (by rfl) (by rfl) a22) (fun j => a22.2 233 75 j (by decide +kernel) rfl) (fun j => a22.2 234 76 j (by decide +kernel) rfl) (fun j => a22.2 pCode 73 j (by decide +kernel) rfl) (RS_x hS (hOK_0 a32 a42 rfl) a22 (by rfl) g36 g37) a52 a62
    · refine runH (P := P_bl3c) (Q := QB) qH_w hM ch_bl3c all_nil (aw0 := aw1) (aw := aw1) (fun g => by cases g) rfl (τ0 := [0, (k : Int), (pile.length : Int), (w : Int), (x.1 : Int)]) (σ := [0, (k : Int), (pile.length : Int), (w : Int), (x.1 : Int)]) rfl rfl (Nat.zero_le _) hcz (xt_refl _) ⟨eOK2_L ⟨⟨by decide, by decide⟩, ⟨by dsimp only; omega, by dsimp only; omega⟩, ⟨by dsimp only; omega, by dsimp only; omega⟩, ⟨by dsimp only; omega, by dsimp only; omega⟩, ⟨by dsimp only; omega, by dsimp only; omega⟩, trivial⟩ rfl all_nil, hOK_mk hS.1 (all_cons ⟨_, hS.2.2.2.2.2.2.2.2.1, vN ⟨(w : Int), rfl, Int.add_zero _⟩ (by omega)⟩ (all_cons ⟨_, hS.2.2.2.2.2.2.2.2.2.1, vN ⟨(pile.length : Int), rfl, Int.add_zero _⟩ (by omega)⟩ all_nil)), lvOK_cons ⟨_, w01, y01⟩ (lvOK_cons ⟨_, w11, vN ⟨(k : Int), rfl, Int.add_zero _⟩ (by omega)⟩ lvOK_nil), ⟨vN ⟨(x.1 : Int), rfl, Int.add_zero _⟩ (by omega), trivial⟩, a11⟩ (ag_refl _ _ _) all_nil ?_
      intro c2 hcc2 τ2 aw2 lw2 sw2 D2 x2 a12 a22 a32 a42 a52 a62
      have hcc2 := List.mem_singleton.mp hcc2
      subst hcc2
      have g36 := (sl_of (j := 36) (i := 3) (o := 0) a42 (by decide +kernel : qH.2[211]? = some 53) (rfl : qH.1[53]? = some _) (by decide) rfl (x2 3 (w : Int) rfl)).2
      have g37 := (sl_of (j := 37) (i := 2) (o := 0) a42 (by decide +kernel : qH.2[211]? = some 53) (rfl : qH.1[53]? = some _) (by decide) rfl (x2 2 (pile.length : Int) rfl)).2
      rw [Int.add_zero, eI_nat (by omega)] at g37
      rw [Int.add_zero, eI_nat (by omega)] at g36
      exact fin w (96, 3, [], [(0, .inr (.inr (some 53))), (1, .inl (1, 0)), (200, .inl (2, 0)), (201, .inr (.inr (some 76))), (202, .inr (.inr (some 53)))], ([], [], []), []) rfl rfl rfl rfl (by omega) (if_neg h3) aw2 lw2 sw2 D2 τ2 x2 a12 (agU_s (by rfl) (by rfl) a22) (fun j => a22.2 233 75 j (by decide +kernel) rfl) (fun j => a22.2 234 76 j (by decide +kernel) rfl) (fun j => a22.2 pCode 73 j (by decide +kernel) rfl) (RS_x hS (hOK_0 a32 a42 rfl) a22 (by rfl) g36 g37) a52 a62
set_option maxHeartbeats 8000000 in
theorem bu_step0 {L : List Nat} {M : rM} (hM : mT 254 = some M) {d : Nat} (hd : 5 ≤ d + 1) {aw0 : List rC} {a e s t u k : Nat} (hT : tokOK a e s t) {c w : Nat} {pile : List (Nat × Nat)} {x : Nat × Nat} {lw1 : rK} {D1 : rD} {aw1 : List rC} (a11 : rep D1 aw1) (ha : agU 0 aw0 aw1) (hS : RS 0 aw1 a e s t c (pile.length + 1) w u) (hJ : JJ 0 false aw1 c u w (pile ++ [x])) (hw : w ≤ 7) (h0 : ∃ v, lget lw1 0 = some v ∧ vOK qH [] (.inr (.inr (some 53))) v) (h1 : lget lw1 1 = some (.inl k)) (hk : k = 0 ∨ ((k = 1 ∨ k = 2 ∨ k = 4 ∨ k = 5 ∨ k = 6) ∧ 1 ≤ t)) (hg : (k = 4 ∨ k = 5 ∨ k = 6) → opc (SGN aw0 a)) (hgo : ∀ (c' w' : Nat) (lw2 : rK) (D2 : rD) (aw2 : List rC), rep D2 aw2 → agU 0 aw0 aw2 → RS 0 aw2 a e s t c' pile.length w' u → JJ 0 false aw2 c' u w' pile → w' ≤ 7 → (∃ v, lget lw2 0 = some v ∧ vOK qH [] (.inr (.inr (some 53))) v) → lget lw2 1 = some (.inl k) → Ev L (d + 1) M (23, lw2, [], D2, 0, 0) (PostB 0 aw0 a s t)) : Ev L (d + 1) M (23, lw1, [], D1, 0, 0) (PostB 0 aw0 a s t) := by
  obtain ⟨j1, j2, j3, j4, j5, j6⟩ := JJ_bound hJ hw
  have hcz : (0 : Nat) ≤ mC M ∧ (0 : Nat) ≤ mS M := ⟨Nat.zero_le _, Nat.zero_le _⟩
  have htop := PL_top hJ.1
  obtain ⟨t1, t2, t3⟩ := top_le hJ.2.1
  have hll : (pile ++ [x]).length = pile.length + 1 := by rw [List.length_append]; rfl
  rw [hll] at j1
  obtain ⟨v01, w01, y01⟩ := h0
  have w11 := h1
  have hk6 : k ≤ 6 := by omega
  have ha16 : a ≤ 1600 := by obtain ⟨q1, q2, q3⟩ := hT; rcases q1 with q | q <;> omega
  refine runH (P := P_bl0) (Q := QB) qH_w hM ch_bl0 all_nil (aw0 := aw1) (aw := aw1) (fun g => by cases g) rfl (τ0 := [0, (k : Int), ((pile.length + 1 : Nat) : Int)]) (σ := [0, (k : Int), ((pile.length + 1 : Nat) : Int)]) rfl rfl (Nat.zero_le _) hcz (xt_refl _) ⟨eOK2_L ⟨⟨by decide, by decide⟩, ⟨by dsimp only; omega, by dsimp only; omega⟩, ⟨by dsimp only; omega, by dsimp only; omega⟩, trivial⟩ rfl all_nil, hOK_mk hS.1 (all_cons ⟨_, hS.2.2.2.2.2.2.2.2.2.1, vN ⟨((pile.length + 1 : Nat) : Int), rfl, Int.add_zero _⟩ (by omega)⟩ all_nil), lvOK_cons ⟨_, w01, y01⟩ (lvOK_cons ⟨_, w11, vN ⟨(k : Int), rfl, Int.add_zero _⟩ (by omega)⟩ lvOK_nil), trivial, a11⟩ (ag_refl _ _ _) all_nil ?_
  intro c2 hcc2 τ2 aw2 lw2 sw2 D2 x2 a12 a22 a32 a42 a52 a62
  have hcc2 := List.mem_singleton.mp hcc2
  subst hcc2
  match sw2, a62 with
  | [p02, p12], _ =>
    obtain ⟨v02, w02, y02⟩ := a52 0 _ rfl
    have w02 : lget lw2 0 = some v02 := w02
    have hh2 := hOK_0 a32 a42 rfl
    obtain ⟨v12, w12, y12⟩ := a52 1 _ rfl
    have w12 : lget lw2 1 = some v12 := w12
    have i12 := (vI_of (x2 1 (k : Int) rfl) y12).2
    rw [Int.add_zero, eI_nat (by omega)] at i12
    rw [i12] at w12
    obtain ⟨v22, w22, y22⟩ := a52 200 _ rfl
    have w22 : some p02 = some v22 := w22
    cases w22
    obtain ⟨v32, w32, y32⟩ := a52 201 _ rfl
    have w32 : some p12 = some v32 := w32
    cases w32
    have i22 := (vI_of (x2 2 ((pile.length + 1 : Nat) : Int) rfl) y22).2
    rw [show ((pile.length + 1 : Nat) : Int) + -1 = ((pile.length : Nat) : Int) by omega, eI_nat (by omega)] at i22
    rw [i22]
    have g372 := (sl_of (j := 37) (i := 2) (o := 0) a42 (by decide +kernel : qH.2[211]? = some 53) (rfl : qH.1[53]? = some _) (by decide) rfl (x2 2 ((pile.length + 1 : Nat) : Int) rfl)).2
    rw [Int.add_zero, eI_nat (by omega)] at g372
    have hS2 := RS_x hS hh2 a22 (by rfl) (by rw [a22.2 211 53 36 (by decide +kernel) rfl]; exact hS.2.2.2.2.2.2.2.2.1) g372
    have hJ2 := JJ_0 hJ a22 (by rfl)
    have ha2 := agU_trans ha (agU_s (by rfl) (by rfl) a22)
    refine ev_ald (mt_X12_behindUnit_33 hM) (by decide +kernel : qH.2[233]? = some 75) (rfl : qH.1[75]? = some (14, 90, some 233, [.inl (0, 8)])) a12 hh2 (PL_top hJ2.1).1 (by omega) y32 ?_
    by_cases hx6 : x.1 ≤ 6
    · refine runH (P := P_bl1) (Q := QB) qH_w hM ch_bl1 all_nil (aw0 := aw2) (aw := aw2) (fun g => by cases g) rfl (τ0 := [0, (k : Int), ((pile.length + 1 : Nat) : Int), (x.1 : Int)]) (σ := [0, (k : Int), ((pile.length + 1 : Nat) : Int), (x.1 : Int)]) rfl rfl (Nat.zero_le _) hcz (xt_refl _) ⟨eOK2_L ⟨⟨by decide, by decide⟩, ⟨by dsimp only; omega, by dsimp only; omega⟩, ⟨by dsimp only; omega, by dsimp only; omega⟩, ⟨by dsimp only; omega, by dsimp only; omega⟩, trivial⟩ rfl all_nil, hOK_mk hS2.1 (all_cons ⟨_, hS2.2.2.2.2.2.2.2.2.2.1, vN ⟨((pile.length + 1 : Nat) : Int), rfl, Int.add_zero _⟩ (by omega)⟩ all_nil), lvOK_cons ⟨_, w02, y02⟩ (lvOK_cons ⟨_, w12, vN ⟨(k : Int), rfl, Int.add_zero _⟩ (by omega)⟩ lvOK_nil), ⟨vN ⟨(x.1 : Int), rfl, Int.add_zero _⟩ (by omega), trivial⟩, a12⟩ (ag_refl _ _ _) all_nil ?_
      intro c3 hcc3 τ3 aw3 lw3 sw3 D3 x3 a13 a23 a33 a43 a53 a63
      have hcc3 := List.mem_singleton.mp hcc3
      subst hcc3
      match sw3, a63 with
      | [p03, p13], _ =>
        obtain ⟨v03, w03, y03⟩ := a53 0 _ rfl
        have w03 : lget lw3 0 = some v03 := w03
        have hh3 := hOK_0 a33 a43 rfl
        obtain ⟨v13, w13, y13⟩ := a53 1 _ rfl
        have w13 : lget lw3 1 = some v13 := w13
        have i13 := (vI_of (x3 1 (k : Int) rfl) y13).2
        rw [Int.add_zero, eI_nat (by omega)] at i13
        rw [i13] at w13
        obtain ⟨v23, w23, y23⟩ := a53 200 _ rfl
        have w23 : some p03 = some v23 := w23
        cases w23
        obtain ⟨v33, w33, y33⟩ := a53 201 _ rfl
        have w33 : some p13 = some v33 := w33
        cases w33
        have i23 := (vI_of (x3 2 ((pile.length + 1 : Nat) : Int) rfl) y23).2
        rw [show ((pile.length + 1 : Nat) : Int) + -1 = ((pile.length : Nat) : Int) by omega, eI_nat (by omega)] at i23
        rw [i23]
        have g373 := (sl_of (j := 37) (i := 2) (o := 0) a43 (by decide +kernel : qH.2[211]? = some 53) (rfl : qH.1[53]? = some _) (by decide) rfl (x3 2 ((pile.length + 1 : Nat) : Int) rfl)).2
        rw [Int.add_zero, eI_nat (by omega)] at g373
        have hS3 := RS_x hS2 hh3 a23 (by rfl) (by rw [a23.2 211 53 36 (by decide +kernel) rfl]; exact hS2.2.2.2.2.2.2.2.2.1) g373
        have hJ3 := JJ_0 hJ2 a23 (by rfl)
        have ha3 := agU_trans ha2 (agU_s (by rfl) (by rfl) a23)
        refine ev_ald (mt_X12_behindUnit_49 hM) (by decide +kernel : qH.2[233]? = some 75) (rfl : qH.1[75]? = some (14, 90, some 233, [.inl (0, 8)])) a13 hh3 (PL_top hJ3.1).1 (by omega) y33 ?_
        by_cases hk0 : k = 0
        · refine runH (P := P_bl2a) (Q := QB) qH_w hM ch_bl2a all_nil (aw0 := aw3) (aw := aw3) (fun g => by cases g) rfl (τ0 := [0, (k : Int), ((pile.length + 1 : Nat) : Int), (a : Int), (x.1 : Int)]) (σ := [0, (k : Int), ((pile.length + 1 : Nat) : Int), (a : Int), (x.1 : Int)]) rfl rfl (Nat.zero_le _) hcz (xt_refl _) ⟨eOK2_L ⟨⟨by decide, by decide⟩, ⟨by dsimp only; omega, by dsimp only; omega⟩, ⟨by dsimp only; omega, by dsimp only; omega⟩, ⟨by dsimp only; omega, by dsimp only; omega⟩, ⟨by dsimp only; omega, by dsimp only; omega⟩, trivial⟩ rfl all_nil, hOK_mk hS3.1 (all_cons ⟨_, hS3.2.2.2.1, vN ⟨(a : Int), rfl, Int.add_zero _⟩ (by omega)⟩ (all_cons ⟨_, hS3.2.2.2.2.2.2.2.2.2.1, vN ⟨((pile.length + 1 : Nat) : Int), rfl, Int.add_zero _⟩ (by omega)⟩ all_nil)), lvOK_cons ⟨_, w03, y03⟩ (lvOK_cons ⟨_, w13, vN ⟨(k : Int), rfl, Int.add_zero _⟩ (by omega)⟩ lvOK_nil), ⟨vN ⟨(x.1 : Int), rfl, Int.add_zero _⟩ (by omega), trivial⟩, a13⟩ (ag_refl _ _ _) all_nil ?_
          intro c4 hcc4 τ4 aw4 lw4 sw4 D4 x4 a14 a24 a34 a44 a54 a64
          have hcc4 := List.mem_singleton.mp hcc4
          subst hcc4
          match sw4, a64 with
          | [p04, p14], _ =>
            obtain ⟨v04, w04, y04⟩ := a54 0 _ rfl
            have w04 : lget lw4 0 = some v04 := w04
            have hh4 := hOK_0 a34 a44 rfl
            obtain ⟨v14, w14, y14⟩ := a54 1 _ rfl
            have w14 : lget lw4 1 = some v14 := w14
            have i14 := (vI_of (x4 1 (k : Int) rfl) y14).2
            rw [Int.add_zero, eI_nat (by omega)] at i14
            rw [i14] at w14
            obtain ⟨v24, w24, y24⟩ := a54 200 _ rfl
            have w24 : some p04 = some v24 := w24
            cases w24
            obtain ⟨v34, w34, y34⟩ := a54 201 _ rfl
            have w34 : some p14 = some v34 := w34
            cases w34
            have i24 := (vI_of (x4 2 ((pile.length + 1 : Nat) : Int) rfl) y24).2
            rw [show ((pile.length + 1 : Nat) : Int) + -1 = ((pile.length : Nat) : Int) by omega, eI_nat (by omega)] at i24
            rw [i24]
            have g374 := (sl_of (j := 37) (i := 2) (o := -1) a44 (by decide +kernel : qH.2[211]? = some 53) (rfl : qH.1[53]? = some _) (by decide) rfl (x4 2 ((pile.length + 1 : Nat) : Int) rfl)).2
            rw [show ((pile.length + 1 : Nat) : Int) + -1 = ((pile.length : Nat) : Int) by omega, eI_nat (by omega)] at g374
            have hS4 := RS_x hS3 hh4 a24 (by rfl) (by rw [a24.2 211 53 36 (by decide +kernel) rfl]; exact hS3.2.2.2.2.2.2.2.2.1) g374
            have hJ4 := JJ_0 hJ3 a24 (by rfl)
            have ha4 := agU_trans ha3 (agU_s (by rfl) (by rfl) a24)
            exact pop_tail0 hM hd hT a14 ha4 hS4 hJ4 hx6 hw ⟨_, w04, y04⟩ w14 hk6 y34 hgo
        · skip
          by_cases hk1 : k = 1
          · refine runH (P := P_bl2b) (Q := QB) qH_w hM ch_bl2b all_nil (aw0 := aw3) (aw := aw3) (fun g => by cases g) rfl (τ0 := [0, (k : Int), ((pile.length + 1 : Nat) : Int), (a : Int), (x.1 : Int)]) (σ := [0, (k : Int), ((pile.length + 1 : Nat) : Int), (a : Int), (x.1 : Int)]) rfl rfl (Nat.zero_le _) hcz (xt_refl _) ⟨eOK2_L ⟨⟨by decide, by decide⟩, ⟨by dsimp only; omega, by dsimp only; omega⟩, ⟨by dsimp only; omega, by dsimp only; omega⟩, ⟨by dsimp only; omega, by dsimp only; omega⟩, ⟨by dsimp only; omega, by dsimp only; omega⟩, trivial⟩ rfl all_nil, hOK_mk hS3.1 (all_cons ⟨_, hS3.2.2.2.1, vN ⟨(a : Int), rfl, Int.add_zero _⟩ (by omega)⟩ (all_cons ⟨_, hS3.2.2.2.2.2.2.2.2.2.1, vN ⟨((pile.length + 1 : Nat) : Int), rfl, Int.add_zero _⟩ (by omega)⟩ all_nil)), lvOK_cons ⟨_, w03, y03⟩ (lvOK_cons ⟨_, w13, vN ⟨(k : Int), rfl, Int.add_zero _⟩ (by omega)⟩ lvOK_nil), ⟨vN ⟨(x.1 : Int), rfl, Int.add_zero _⟩ (by omega), trivial⟩, a13⟩ (ag_refl _ _ _) all_nil ?_
            intro c4 hcc4 τ4 aw4 lw4 sw4 D4 x4 a14 a24 a34 a44 a54 a64
            rcases List.mem_cons.mp hcc4 with hcc4 | hcc4
            · subst hcc4
              match sw4, a64 with
              | [p04, p14], _ =>
                obtain ⟨v04, w04, y04⟩ := a54 0 _ rfl
                have w04 : lget lw4 0 = some v04 := w04
                have hh4 := hOK_0 a34 a44 rfl
                obtain ⟨v14, w14, y14⟩ := a54 1 _ rfl
                have w14 : lget lw4 1 = some v14 := w14
                have i14 := (vI_of (x4 1 (k : Int) rfl) y14).2
                rw [Int.add_zero, eI_nat (by omega)] at i14
                rw [i14] at w14
                obtain ⟨v24, w24, y24⟩ := a54 200 _ rfl
                have w24 : some p04 = some v24 := w24
                cases w24
                obtain ⟨v34, w34, y34⟩ := a54 201 _ rfl
                have w34 : some p14 = some v34 := w34
                cases w34
                have i24 := (vI_of (x4 2 ((pile.length + 1 : Nat) : Int) rfl) y24).2
                rw [show ((pile.length + 1 : Nat) : Int) + -1 = ((pile.length : Nat) : Int) by omega, eI_nat (by omega)] at i24
                rw [i24]
                have g374 := (sl_of (j := 37) (i := 2) (o := -1) a44 (by decide +kernel : qH.2[211]? = some 53) (rfl : qH.1[53]? = some _) (by decide) rfl (x4 2 ((pile.length + 1 : Nat) : Int) rfl)).2
                rw [show ((pile.length + 1 : Nat) : Int) + -1 = ((pile.length : Nat) : Int) by omega, eI_nat (by omega)] at g374
                have hS4 := RS_x hS3 hh4 a24 (by rfl) (by rw [a24.2 211 53 36 (by decide +kernel) rfl]; exact hS3.2.2.2.2.2.2.2.2.1) g374
                have hJ4 := JJ_0 hJ3 a24 (by rfl)
                have ha4 := agU_trans ha3 (agU_s (by rfl) (by rfl) a24)
                exact pop_tail0 hM hd hT a14 ha4 hS4 hJ4 hx6 hw ⟨_, w04, y04⟩ w14 hk6 y34 hgo
            · have hcc4 := List.mem_singleton.mp hcc4
              subst hcc4
              match sw4, a64 with
              | [p04, p14, p24], _ =>
                obtain ⟨v04, w04, y04⟩ := a54 0 _ rfl
                have w04 : lget lw4 0 = some v04 := w04
                have hh4 := hOK_0 a34 a44 rfl
                obtain ⟨v14, w14, y14⟩ := a54 1 _ rfl
                have w14 : lget lw4 1 = some v14 := w14
                have i14 := (vI_of (x4 1 (k : Int) rfl) y14).2
                rw [Int.add_zero, eI_nat (by omega)] at i14
                rw [i14] at w14
                obtain ⟨v24, w24, y24⟩ := a54 200 _ rfl
                have w24 : some p04 = some v24 := w24
                cases w24
                obtain ⟨v34, w34, y34⟩ := a54 201 _ rfl
                have w34 : some p14 = some v34 := w34
                cases w34
                obtain ⟨v44, w44, y44⟩ := a54 202 _ rfl
                have w44 : some p24 = some v44 := w44
                cases w44
                have g374 := (sl_of (j := 37) (i := 2) (o := 0) a44 (by decide +kernel : qH.2[211]? = some 53) (rfl : qH.1[53]? = some _) (by decide) rfl (x4 2 ((pile.length + 1 : Nat) : Int) rfl)).2
                rw [Int.add_zero, eI_nat (by omega)] at g374
                have hS4 := RS_x hS3 hh4 a24 (by rfl) (by rw [a24.2 211 53 36 (by decide +kernel) rfl]; exact hS3.2.2.2.2.2.2.2.2.1) g374
                have hJ4 := JJ_0 hJ3 a24 (by rfl)
                have ha4 := agU_trans ha3 (agU_s (by rfl) (by rfl) a24)
                have i24 : p04 = .inl 124 := (vI_of (x4 0 0 rfl) y24).2
                have i34 := (vI_of (x4 1 (k : Int) rfl) y34).2
                rw [Int.add_zero, eI_nat (by omega)] at i34
                rw [i24, i34]
                exact op_tail0 hM hd hT a14 ha4 (by rw [hll]; exact hS4) hJ4 hw ⟨_, w04, y04⟩ (by omega) (by omega) ⟨by decide, by decide⟩ (by decide) y44
          · skip
            by_cases hk2 : k = 2
            · refine runH (P := P_bl2c) (Q := QB) qH_w hM ch_bl2c all_nil (aw0 := aw3) (aw := aw3) (fun g => by cases g) rfl (τ0 := [0, (k : Int), ((pile.length + 1 : Nat) : Int), (a : Int), (x.1 : Int)]) (σ := [0, (k : Int), ((pile.length + 1 : Nat) : Int), (a : Int), (x.1 : Int)]) rfl rfl (Nat.zero_le _) hcz (xt_refl _) ⟨eOK2_L ⟨⟨by decide, by decide⟩, ⟨by dsimp only; omega, by dsimp only; omega⟩, ⟨by dsimp only; omega, by dsimp only; omega⟩, ⟨by dsimp only; omega, by dsimp only; omega⟩, ⟨by dsimp only; omega, by dsimp only; omega⟩, trivial⟩ rfl all_nil, hOK_mk hS3.1 (all_cons ⟨_, hS3.2.2.2.1, vN ⟨(a : Int), rfl, Int.add_zero _⟩ (by omega)⟩ (all_cons ⟨_, hS3.2.2.2.2.2.2.2.2.2.1, vN ⟨((pile.length + 1 : Nat) : Int), rfl, Int.add_zero _⟩ (by omega)⟩ all_nil)), lvOK_cons ⟨_, w03, y03⟩ (lvOK_cons ⟨_, w13, vN ⟨(k : Int), rfl, Int.add_zero _⟩ (by omega)⟩ lvOK_nil), ⟨vN ⟨(x.1 : Int), rfl, Int.add_zero _⟩ (by omega), trivial⟩, a13⟩ (ag_refl _ _ _) all_nil ?_
              intro c4 hcc4 τ4 aw4 lw4 sw4 D4 x4 a14 a24 a34 a44 a54 a64
              rcases List.mem_cons.mp hcc4 with hcc4 | hcc4
              · subst hcc4
                match sw4, a64 with
                | [p04, p14], _ =>
                  obtain ⟨v04, w04, y04⟩ := a54 0 _ rfl
                  have w04 : lget lw4 0 = some v04 := w04
                  have hh4 := hOK_0 a34 a44 rfl
                  obtain ⟨v14, w14, y14⟩ := a54 1 _ rfl
                  have w14 : lget lw4 1 = some v14 := w14
                  have i14 := (vI_of (x4 1 (k : Int) rfl) y14).2
                  rw [Int.add_zero, eI_nat (by omega)] at i14
                  rw [i14] at w14
                  obtain ⟨v24, w24, y24⟩ := a54 200 _ rfl
                  have w24 : some p04 = some v24 := w24
                  cases w24
                  obtain ⟨v34, w34, y34⟩ := a54 201 _ rfl
                  have w34 : some p14 = some v34 := w34
                  cases w34
                  have i24 := (vI_of (x4 2 ((pile.length + 1 : Nat) : Int) rfl) y24).2
                  rw [show ((pile.length + 1 : Nat) : Int) + -1 = ((pile.length : Nat) : Int) by omega, eI_nat (by omega)] at i24
                  rw [i24]
                  have g374 := (sl_of (j := 37) (i := 2) (o := -1) a44 (by decide +kernel : qH.2[211]? = some 53) (rfl : qH.1[53]? = some _) (by decide) rfl (x4 2 ((pile.length + 1 : Nat) : Int) rfl)).2
                  rw [show ((pile.length + 1 : Nat) : Int) + -1 = ((pile.length : Nat) : Int) by omega, eI_nat (by omega)] at g374
                  have hS4 := RS_x hS3 hh4 a24 (by rfl) (by rw [a24.2 211 53 36 (by decide +kernel) rfl]; exact hS3.2.2.2.2.2.2.2.2.1) g374
                  have hJ4 := JJ_0 hJ3 a24 (by rfl)
                  have ha4 := agU_trans ha3 (agU_s (by rfl) (by rfl) a24)
                  exact pop_tail0 hM hd hT a14 ha4 hS4 hJ4 hx6 hw ⟨_, w04, y04⟩ w14 hk6 y34 hgo
              · have hcc4 := List.mem_singleton.mp hcc4
                subst hcc4
                match sw4, a64 with
                | [p04, p14, p24], _ =>
                  obtain ⟨v04, w04, y04⟩ := a54 0 _ rfl
                  have w04 : lget lw4 0 = some v04 := w04
                  have hh4 := hOK_0 a34 a44 rfl
                  obtain ⟨v14, w14, y14⟩ := a54 1 _ rfl
                  have w14 : lget lw4 1 = some v14 := w14
                  have i14 := (vI_of (x4 1 (k : Int) rfl) y14).2
                  rw [Int.add_zero, eI_nat (by omega)] at i14
                  rw [i14] at w14
                  obtain ⟨v24, w24, y24⟩ := a54 200 _ rfl
                  have w24 : some p04 = some v24 := w24
                  cases w24
                  obtain ⟨v34, w34, y34⟩ := a54 201 _ rfl
                  have w34 : some p14 = some v34 := w34
                  cases w34
                  obtain ⟨v44, w44, y44⟩ := a54 202 _ rfl
                  have w44 : some p24 = some v44 := w44
                  cases w44
                  have g374 := (sl_of (j := 37) (i := 2) (o := 0) a44 (by decide +kernel : qH.2[211]? = some 53) (rfl : qH.1[53]? = some _) (by decide) rfl (x4 2 ((pile.length + 1 : Nat) : Int) rfl)).2
                  rw [Int.add_zero, eI_nat (by omega)] at g374
                  have hS4 := RS_x hS3 hh4 a24 (by rfl) (by rw [a24.2 211 53 36 (by decide +kernel) rfl]; exact hS3.2.2.2.2.2.2.2.2.1) g374
                  have hJ4 := JJ_0 hJ3 a24 (by rfl)
                  have ha4 := agU_trans ha3 (agU_s (by rfl) (by rfl) a24)
                  have i24 : p04 = .inl 38 := (vI_of (x4 0 0 rfl) y24).2
                  have i34 := (vI_of (x4 1 (k : Int) rfl) y34).2
                  rw [Int.add_zero, eI_nat (by omega)] at i34
                  rw [i24, i34]
                  exact op_tail0 hM hd hT a14 ha4 (by rw [hll]; exact hS4) hJ4 hw ⟨_, w04, y04⟩ (by omega) (by omega) ⟨by decide, by decide⟩ (by decide) y44
            · skip
              · refine runH (P := P_bl2d) (Q := QB) qH_w hM ch_bl2d all_nil (aw0 := aw3) (aw := aw3) (fun g => by cases g) rfl (τ0 := [0, (k : Int), ((pile.length + 1 : Nat) : Int), (a : Int), (x.1 : Int)]) (σ := [0, (k : Int), ((pile.length + 1 : Nat) : Int), (a : Int), (x.1 : Int)]) rfl rfl (Nat.zero_le _) hcz (xt_refl _) ⟨eOK2_L ⟨⟨by decide, by decide⟩, ⟨by dsimp only; omega, by dsimp only; omega⟩, ⟨by dsimp only; omega, by dsimp only; omega⟩, ⟨by dsimp only; omega, by dsimp only; omega⟩, ⟨by dsimp only; omega, by dsimp only; omega⟩, trivial⟩ rfl all_nil, hOK_mk hS3.1 (all_cons ⟨_, hS3.2.2.2.1, vN ⟨(a : Int), rfl, Int.add_zero _⟩ (by omega)⟩ (all_cons ⟨_, hS3.2.2.2.2.2.2.2.2.2.1, vN ⟨((pile.length + 1 : Nat) : Int), rfl, Int.add_zero _⟩ (by omega)⟩ all_nil)), lvOK_cons ⟨_, w03, y03⟩ (lvOK_cons ⟨_, w13, vN ⟨(k : Int), rfl, Int.add_zero _⟩ (by omega)⟩ lvOK_nil), ⟨vN ⟨(x.1 : Int), rfl, Int.add_zero _⟩ (by omega), trivial⟩, a13⟩ (ag_refl _ _ _) all_nil ?_
                intro c4 hcc4 τ4 aw4 lw4 sw4 D4 x4 a14 a24 a34 a44 a54 a64
                rcases List.mem_cons.mp hcc4 with hcc4 | hcc4
                · subst hcc4
                  match sw4, a64 with
                  | [p04, p14], _ =>
                    obtain ⟨v04, w04, y04⟩ := a54 0 _ rfl
                    have w04 : lget lw4 0 = some v04 := w04
                    have hh4 := hOK_0 a34 a44 rfl
                    obtain ⟨v14, w14, y14⟩ := a54 1 _ rfl
                    have w14 : lget lw4 1 = some v14 := w14
                    have i14 := (vI_of (x4 1 (k : Int) rfl) y14).2
                    rw [Int.add_zero, eI_nat (by omega)] at i14
                    rw [i14] at w14
                    obtain ⟨v24, w24, y24⟩ := a54 200 _ rfl
                    have w24 : some p04 = some v24 := w24
                    cases w24
                    obtain ⟨v34, w34, y34⟩ := a54 201 _ rfl
                    have w34 : some p14 = some v34 := w34
                    cases w34
                    have i24 := (vI_of (x4 2 ((pile.length + 1 : Nat) : Int) rfl) y24).2
                    rw [show ((pile.length + 1 : Nat) : Int) + -1 = ((pile.length : Nat) : Int) by omega, eI_nat (by omega)] at i24
                    rw [i24]
                    have g374 := (sl_of (j := 37) (i := 2) (o := -1) a44 (by decide +kernel : qH.2[211]? = some 53) (rfl : qH.1[53]? = some _) (by decide) rfl (x4 2 ((pile.length + 1 : Nat) : Int) rfl)).2
                    rw [show ((pile.length + 1 : Nat) : Int) + -1 = ((pile.length : Nat) : Int) by omega, eI_nat (by omega)] at g374
                    have hS4 := RS_x hS3 hh4 a24 (by rfl) (by rw [a24.2 211 53 36 (by decide +kernel) rfl]; exact hS3.2.2.2.2.2.2.2.2.1) g374
                    have hJ4 := JJ_0 hJ3 a24 (by rfl)
                    have ha4 := agU_trans ha3 (agU_s (by rfl) (by rfl) a24)
                    exact pop_tail0 hM hd hT a14 ha4 hS4 hJ4 hx6 hw ⟨_, w04, y04⟩ w14 hk6 y34 hgo
                · have hcc4 := List.mem_singleton.mp hcc4
                  subst hcc4
                  match sw4, a64 with
                  | [p04, p14, p24, p34], _ =>
                    obtain ⟨v04, w04, y04⟩ := a54 0 _ rfl
                    have w04 : lget lw4 0 = some v04 := w04
                    have hh4 := hOK_0 a34 a44 rfl
                    obtain ⟨v14, w14, y14⟩ := a54 1 _ rfl
                    have w14 : lget lw4 1 = some v14 := w14
                    have i14 := (vI_of (x4 1 (k : Int) rfl) y14).2
                    rw [Int.add_zero, eI_nat (by omega)] at i14
                    rw [i14] at w14
                    obtain ⟨v24, w24, y24⟩ := a54 200 _ rfl
                    have w24 : some p04 = some v24 := w24
                    cases w24
                    obtain ⟨v34, w34, y34⟩ := a54 201 _ rfl
                    have w34 : some p14 = some v34 := w34
                    cases w34
                    obtain ⟨v44, w44, y44⟩ := a54 202 _ rfl
                    have w44 : some p24 = some v44 := w44
                    cases w44
                    obtain ⟨v54, w54, y54⟩ := a54 203 _ rfl
                    have w54 : some p34 = some v54 := w54
                    cases w54
                    have g374 := (sl_of (j := 37) (i := 2) (o := 0) a44 (by decide +kernel : qH.2[211]? = some 53) (rfl : qH.1[53]? = some _) (by decide) rfl (x4 2 ((pile.length + 1 : Nat) : Int) rfl)).2
                    rw [Int.add_zero, eI_nat (by omega)] at g374
                    have hS4 := RS_x hS3 hh4 a24 (by rfl) (by rw [a24.2 211 53 36 (by decide +kernel) rfl]; exact hS3.2.2.2.2.2.2.2.2.1) g374
                    have hJ4 := JJ_0 hJ3 a24 (by rfl)
                    have ha4 := agU_trans ha3 (agU_s (by rfl) (by rfl) a24)
                    have i24 := (vI_of (x4 3 (a : Int) rfl) y24).2
                    rw [Int.add_zero, eI_nat (by omega)] at i24
                    have i44 := (vI_of (x4 1 (k : Int) rfl) y44).2
                    rw [Int.add_zero, eI_nat (by omega)] at i44
                    rw [i24, i44]
                    refine ev_sign (mk_X12_behindUnit_135 hM) hcz a14 hh4 (by omega) (by rw [refM y54]; exact (by decide : (2 : Nat) ≤ 8)) y34 (fun D9 aw9 n1 n2 n3 => ?_)
                    have hsg : SGN aw4 a = SGN aw0 a := SGN_ag ha4.1 rfl rfl a
                    rw [hsg]
                    have hgle := SGN_le aw0 a
                    exact op_tail0 hM hd hT n1 (agU_trans ha4 (agU_s (md := []) rfl rfl n2)) (by rw [hll]; exact RS_0 hS4 n3 n2 rfl) (JJ_0 hJ4 n2 rfl) hw ⟨_, w04, y04⟩ (by omega) (by omega) (hg (by omega)) hgle y54
    · skip
      by_cases hk0 : k = 0
      · refine runH (P := P_bl6a) (Q := QB) qH_w hM ch_bl6a all_nil (aw0 := aw2) (aw := aw2) (fun g => by cases g) rfl (τ0 := [0, (k : Int), ((pile.length + 1 : Nat) : Int), (a : Int), (x.1 : Int)]) (σ := [0, (k : Int), ((pile.length + 1 : Nat) : Int), (a : Int), (x.1 : Int)]) rfl rfl (Nat.zero_le _) hcz (xt_refl _) ⟨eOK2_L ⟨⟨by decide, by decide⟩, ⟨by dsimp only; omega, by dsimp only; omega⟩, ⟨by dsimp only; omega, by dsimp only; omega⟩, ⟨by dsimp only; omega, by dsimp only; omega⟩, ⟨by dsimp only; omega, by dsimp only; omega⟩, trivial⟩ rfl all_nil, hOK_mk hS2.1 (all_cons ⟨_, hS2.2.2.2.1, vN ⟨(a : Int), rfl, Int.add_zero _⟩ (by omega)⟩ (all_cons ⟨_, hS2.2.2.2.2.2.2.2.2.2.1, vN ⟨((pile.length + 1 : Nat) : Int), rfl, Int.add_zero _⟩ (by omega)⟩ all_nil)), lvOK_cons ⟨_, w02, y02⟩ (lvOK_cons ⟨_, w12, vN ⟨(k : Int), rfl, Int.add_zero _⟩ (by omega)⟩ lvOK_nil), ⟨vN ⟨(x.1 : Int), rfl, Int.add_zero _⟩ (by omega), trivial⟩, a12⟩ (ag_refl _ _ _) all_nil ?_
        intro c4 hcc4 τ4 aw4 lw4 sw4 D4 x4 a14 a24 a34 a44 a54 a64
        have hcc4 := List.mem_singleton.mp hcc4
        subst hcc4
        match sw4, a64 with
        | [p04, p14], _ =>
          obtain ⟨v04, w04, y04⟩ := a54 0 _ rfl
          have w04 : lget lw4 0 = some v04 := w04
          have hh4 := hOK_0 a34 a44 rfl
          obtain ⟨v14, w14, y14⟩ := a54 1 _ rfl
          have w14 : lget lw4 1 = some v14 := w14
          have i14 := (vI_of (x4 1 (k : Int) rfl) y14).2
          rw [Int.add_zero, eI_nat (by omega)] at i14
          rw [i14] at w14
          obtain ⟨v24, w24, y24⟩ := a54 200 _ rfl
          have w24 : some p04 = some v24 := w24
          cases w24
          obtain ⟨v34, w34, y34⟩ := a54 201 _ rfl
          have w34 : some p14 = some v34 := w34
          cases w34
          have i24 := (vI_of (x4 2 ((pile.length + 1 : Nat) : Int) rfl) y24).2
          rw [show ((pile.length + 1 : Nat) : Int) + -1 = ((pile.length : Nat) : Int) by omega, eI_nat (by omega)] at i24
          rw [i24]
          have g374 := (sl_of (j := 37) (i := 2) (o := -1) a44 (by decide +kernel : qH.2[211]? = some 53) (rfl : qH.1[53]? = some _) (by decide) rfl (x4 2 ((pile.length + 1 : Nat) : Int) rfl)).2
          rw [show ((pile.length + 1 : Nat) : Int) + -1 = ((pile.length : Nat) : Int) by omega, eI_nat (by omega)] at g374
          have hS4 := RS_x hS2 hh4 a24 (by rfl) (by rw [a24.2 211 53 36 (by decide +kernel) rfl]; exact hS2.2.2.2.2.2.2.2.2.1) g374
          have hJ4 := JJ_0 hJ2 a24 (by rfl)
          have ha4 := agU_trans ha2 (agU_s (by rfl) (by rfl) a24)
          exact close_tail0 (k := k) hM hd hT a14 ha4 hS4 hJ4 (by omega) hw ⟨_, w04, y04⟩ y34
      · skip
        by_cases hk1 : k = 1
        · refine runH (P := P_bl6b) (Q := QB) qH_w hM ch_bl6b all_nil (aw0 := aw2) (aw := aw2) (fun g => by cases g) rfl (τ0 := [0, (k : Int), ((pile.length + 1 : Nat) : Int), (a : Int), (x.1 : Int)]) (σ := [0, (k : Int), ((pile.length + 1 : Nat) : Int), (a : Int), (x.1 : Int)]) rfl rfl (Nat.zero_le _) hcz (xt_refl _) ⟨eOK2_L ⟨⟨by decide, by decide⟩, ⟨by dsimp only; omega, by dsimp only; omega⟩, ⟨by dsimp only; omega, by dsimp only; omega⟩, ⟨by dsimp only; omega, by dsimp only; omega⟩, ⟨by dsimp only; omega, by dsimp only; omega⟩, trivial⟩ rfl all_nil, hOK_mk hS2.1 (all_cons ⟨_, hS2.2.2.2.1, vN ⟨(a : Int), rfl, Int.add_zero _⟩ (by omega)⟩ (all_cons ⟨_, hS2.2.2.2.2.2.2.2.2.2.1, vN ⟨((pile.length + 1 : Nat) : Int), rfl, Int.add_zero _⟩ (by omega)⟩ all_nil)), lvOK_cons ⟨_, w02, y02⟩ (lvOK_cons ⟨_, w12, vN ⟨(k : Int), rfl, Int.add_zero _⟩ (by omega)⟩ lvOK_nil), ⟨vN ⟨(x.1 : Int), rfl, Int.add_zero _⟩ (by omega), trivial⟩, a12⟩ (ag_refl _ _ _) all_nil ?_
          intro c4 hcc4 τ4 aw4 lw4 sw4 D4 x4 a14 a24 a34 a44 a54 a64
          have hcc4 := List.mem_singleton.mp hcc4
          subst hcc4
          match sw4, a64 with
          | [p04, p14, p24], _ =>
            obtain ⟨v04, w04, y04⟩ := a54 0 _ rfl
            have w04 : lget lw4 0 = some v04 := w04
            have hh4 := hOK_0 a34 a44 rfl
            obtain ⟨v14, w14, y14⟩ := a54 1 _ rfl
            have w14 : lget lw4 1 = some v14 := w14
            have i14 := (vI_of (x4 1 (k : Int) rfl) y14).2
            rw [Int.add_zero, eI_nat (by omega)] at i14
            rw [i14] at w14
            obtain ⟨v24, w24, y24⟩ := a54 200 _ rfl
            have w24 : some p04 = some v24 := w24
            cases w24
            obtain ⟨v34, w34, y34⟩ := a54 201 _ rfl
            have w34 : some p14 = some v34 := w34
            cases w34
            obtain ⟨v44, w44, y44⟩ := a54 202 _ rfl
            have w44 : some p24 = some v44 := w44
            cases w44
            have g374 := (sl_of (j := 37) (i := 2) (o := 0) a44 (by decide +kernel : qH.2[211]? = some 53) (rfl : qH.1[53]? = some _) (by decide) rfl (x4 2 ((pile.length + 1 : Nat) : Int) rfl)).2
            rw [Int.add_zero, eI_nat (by omega)] at g374
            have hS4 := RS_x hS2 hh4 a24 (by rfl) (by rw [a24.2 211 53 36 (by decide +kernel) rfl]; exact hS2.2.2.2.2.2.2.2.2.1) g374
            have hJ4 := JJ_0 hJ2 a24 (by rfl)
            have ha4 := agU_trans ha2 (agU_s (by rfl) (by rfl) a24)
            have i24 : p04 = .inl 124 := (vI_of (x4 0 0 rfl) y24).2
            have i34 := (vI_of (x4 1 (k : Int) rfl) y34).2
            rw [Int.add_zero, eI_nat (by omega)] at i34
            rw [i24, i34]
            exact op_tail0 hM hd hT a14 ha4 (by rw [hll]; exact hS4) hJ4 hw ⟨_, w04, y04⟩ (by omega) (by omega) ⟨by decide, by decide⟩ (by decide) y44
        · skip
          by_cases hk2 : k = 2
          · refine runH (P := P_bl6c) (Q := QB) qH_w hM ch_bl6c all_nil (aw0 := aw2) (aw := aw2) (fun g => by cases g) rfl (τ0 := [0, (k : Int), ((pile.length + 1 : Nat) : Int), (a : Int), (x.1 : Int)]) (σ := [0, (k : Int), ((pile.length + 1 : Nat) : Int), (a : Int), (x.1 : Int)]) rfl rfl (Nat.zero_le _) hcz (xt_refl _) ⟨eOK2_L ⟨⟨by decide, by decide⟩, ⟨by dsimp only; omega, by dsimp only; omega⟩, ⟨by dsimp only; omega, by dsimp only; omega⟩, ⟨by dsimp only; omega, by dsimp only; omega⟩, ⟨by dsimp only; omega, by dsimp only; omega⟩, trivial⟩ rfl all_nil, hOK_mk hS2.1 (all_cons ⟨_, hS2.2.2.2.1, vN ⟨(a : Int), rfl, Int.add_zero _⟩ (by omega)⟩ (all_cons ⟨_, hS2.2.2.2.2.2.2.2.2.2.1, vN ⟨((pile.length + 1 : Nat) : Int), rfl, Int.add_zero _⟩ (by omega)⟩ all_nil)), lvOK_cons ⟨_, w02, y02⟩ (lvOK_cons ⟨_, w12, vN ⟨(k : Int), rfl, Int.add_zero _⟩ (by omega)⟩ lvOK_nil), ⟨vN ⟨(x.1 : Int), rfl, Int.add_zero _⟩ (by omega), trivial⟩, a12⟩ (ag_refl _ _ _) all_nil ?_
            intro c4 hcc4 τ4 aw4 lw4 sw4 D4 x4 a14 a24 a34 a44 a54 a64
            have hcc4 := List.mem_singleton.mp hcc4
            subst hcc4
            match sw4, a64 with
            | [p04, p14, p24], _ =>
              obtain ⟨v04, w04, y04⟩ := a54 0 _ rfl
              have w04 : lget lw4 0 = some v04 := w04
              have hh4 := hOK_0 a34 a44 rfl
              obtain ⟨v14, w14, y14⟩ := a54 1 _ rfl
              have w14 : lget lw4 1 = some v14 := w14
              have i14 := (vI_of (x4 1 (k : Int) rfl) y14).2
              rw [Int.add_zero, eI_nat (by omega)] at i14
              rw [i14] at w14
              obtain ⟨v24, w24, y24⟩ := a54 200 _ rfl
              have w24 : some p04 = some v24 := w24
              cases w24
              obtain ⟨v34, w34, y34⟩ := a54 201 _ rfl
              have w34 : some p14 = some v34 := w34
              cases w34
              obtain ⟨v44, w44, y44⟩ := a54 202 _ rfl
              have w44 : some p24 = some v44 := w44
              cases w44
              have g374 := (sl_of (j := 37) (i := 2) (o := 0) a44 (by decide +kernel : qH.2[211]? = some 53) (rfl : qH.1[53]? = some _) (by decide) rfl (x4 2 ((pile.length + 1 : Nat) : Int) rfl)).2
              rw [Int.add_zero, eI_nat (by omega)] at g374
              have hS4 := RS_x hS2 hh4 a24 (by rfl) (by rw [a24.2 211 53 36 (by decide +kernel) rfl]; exact hS2.2.2.2.2.2.2.2.2.1) g374
              have hJ4 := JJ_0 hJ2 a24 (by rfl)
              have ha4 := agU_trans ha2 (agU_s (by rfl) (by rfl) a24)
              have i24 : p04 = .inl 38 := (vI_of (x4 0 0 rfl) y24).2
              have i34 := (vI_of (x4 1 (k : Int) rfl) y34).2
              rw [Int.add_zero, eI_nat (by omega)] at i34
              rw [i24, i34]
              exact op_tail0 hM hd hT a14 ha4 (by rw [hll]; exact hS4) hJ4 hw ⟨_, w04, y04⟩ (by omega) (by omega) ⟨by decide, by decide⟩ (by decide) y44
          · skip
            · refine runH (P := P_bl6d) (Q := QB) qH_w hM ch_bl6d all_nil (aw0 := aw2) (aw := aw2) (fun g => by cases g) rfl (τ0 := [0, (k : Int), ((pile.length + 1 : Nat) : Int), (a : Int), (x.1 : Int)]) (σ := [0, (k : Int), ((pile.length + 1 : Nat) : Int), (a : Int), (x.1 : Int)]) rfl rfl (Nat.zero_le _) hcz (xt_refl _) ⟨eOK2_L ⟨⟨by decide, by decide⟩, ⟨by dsimp only; omega, by dsimp only; omega⟩, ⟨by dsimp only; omega, by dsimp only; omega⟩, ⟨by dsimp only; omega, by dsimp only; omega⟩, ⟨by dsimp only; omega, by dsimp only; omega⟩, trivial⟩ rfl all_nil, hOK_mk hS2.1 (all_cons ⟨_, hS2.2.2.2.1, vN ⟨(a : Int), rfl, Int.add_zero _⟩ (by omega)⟩ (all_cons ⟨_, hS2.2.2.2.2.2.2.2.2.2.1, vN ⟨((pile.length + 1 : Nat) : Int), rfl, Int.add_zero _⟩ (by omega)⟩ all_nil)), lvOK_cons ⟨_, w02, y02⟩ (lvOK_cons ⟨_, w12, vN ⟨(k : Int), rfl, Int.add_zero _⟩ (by omega)⟩ lvOK_nil), ⟨vN ⟨(x.1 : Int), rfl, Int.add_zero _⟩ (by omega), trivial⟩, a12⟩ (ag_refl _ _ _) all_nil ?_
              intro c4 hcc4 τ4 aw4 lw4 sw4 D4 x4 a14 a24 a34 a44 a54 a64
              have hcc4 := List.mem_singleton.mp hcc4
              subst hcc4
              match sw4, a64 with
              | [p04, p14, p24, p34], _ =>
                obtain ⟨v04, w04, y04⟩ := a54 0 _ rfl
                have w04 : lget lw4 0 = some v04 := w04
                have hh4 := hOK_0 a34 a44 rfl
                obtain ⟨v14, w14, y14⟩ := a54 1 _ rfl
                have w14 : lget lw4 1 = some v14 := w14
                have i14 := (vI_of (x4 1 (k : Int) rfl) y14).2
                rw [Int.add_zero, eI_nat (by omega)] at i14
                rw [i14] at w14
                obtain ⟨v24, w24, y24⟩ := a54 200 _ rfl
                have w24 : some p04 = some v24 := w24
                cases w24
                obtain ⟨v34, w34, y34⟩ := a54 201 _ rfl
                have w34 : some p14 = some v34 := w34
                cases w34
                obtain ⟨v44, w44, y44⟩ := a54 202 _ rfl
                have w44 : some p24 = some v44 := w44
                cases w44
                obtain ⟨v54, w54, y54⟩ := a54 203 _ rfl
                have w54 : some p34 = some v54 := w54
                cases w54
                have g374 := (sl_of (j := 37) (i := 2) (o := 0) a44 (by decide +kernel : qH.2[211]? = some 53) (rfl : qH.1[53]? = some _) (by decide) rfl (x4 2 ((pile.length + 1 : Nat) : Int) rfl)).2
                rw [Int.add_zero, eI_nat (by omega)] at g374
                have hS4 := RS_x hS2 hh4 a24 (by rfl) (by rw [a24.2 211 53 36 (by decide +kernel) rfl]; exact hS2.2.2.2.2.2.2.2.2.1) g374
                have hJ4 := JJ_0 hJ2 a24 (by rfl)
                have ha4 := agU_trans ha2 (agU_s (by rfl) (by rfl) a24)
                have i24 := (vI_of (x4 3 (a : Int) rfl) y24).2
                rw [Int.add_zero, eI_nat (by omega)] at i24
                have i44 := (vI_of (x4 1 (k : Int) rfl) y44).2
                rw [Int.add_zero, eI_nat (by omega)] at i44
                rw [i24, i44]
                refine ev_sign (mk_X12_behindUnit_135 hM) hcz a14 hh4 (by omega) (by rw [refM y54]; exact (by decide : (2 : Nat) ≤ 8)) y34 (fun D9 aw9 n1 n2 n3 => ?_)
                have hsg : SGN aw4 a = SGN aw0 a := SGN_ag ha4.1 rfl rfl a
                rw [hsg]
                have hgle := SGN_le aw0 a
                exact op_tail0 hM hd hT n1 (agU_trans ha4 (agU_s (md := []) rfl rfl n2)) (by rw [hll]; exact RS_0 hS4 n3 n2 rfl) (JJ_0 hJ4 n2 rfl) hw ⟨_, w04, y04⟩ (by omega) (by omega) (hg (by omega)) hgle y54
set_option maxHeartbeats 4000000 in
theorem pop_tail1 {L : List Nat} {M : rM} (hM : mT 254 = some M) {d : Nat} (hd : 5 ≤ d + 1) {aw0 : List rC} {a e s t u k : Nat} (hT : tokOK a e s t) {c w : Nat} {pile : List (Nat × Nat)} {x : Nat × Nat} {lw1 : rK} {D1 : rD} {aw1 : List rC} {v0 : rV} {σ : List Int} (a11 : rep D1 aw1) (ha : agU 1 aw0 aw1) (hS : RS 1 aw1 a e s t c pile.length w u) (hJ : JJ 1 false aw1 c u w (pile ++ [x])) (hx : x.1 ≤ 6) (hw : w ≤ 7) (h0 : ∃ v, lget lw1 0 = some v ∧ vOK qH [] (.inr (.inr (some 53))) v) (h1 : lget lw1 1 = some (.inl k)) (hk6 : k ≤ 6) (hv0 : vOK qH σ (.inr (.inr (some 75))) v0) (hgo : ∀ (c' w' : Nat) (lw2 : rK) (D2 : rD) (aw2 : List rC), rep D2 aw2 → agU 1 aw0 aw2 → RS 1 aw2 a e s t c' pile.length w' u → JJ 1 false aw2 c' u w' pile → w' ≤ 7 → (∃ v, lget lw2 0 = some v ∧ vOK qH [] (.inr (.inr (some 53))) v) → lget lw2 1 = some (.inl k) → Ev L (d + 1) M (23, lw2, [], D2, 0, 0) (PostB 1 aw0 a s t)) : Ev L (d + 1) M (72, lw1, [.inl pile.length, v0], D1, 0, 0) (PostB 1 aw0 a s t) := by
  obtain ⟨j1, j2, j3, j4, j5, j6⟩ := JJ_bound hJ hw
  have hcz : (0 : Nat) ≤ mC M ∧ (0 : Nat) ≤ mS M := ⟨Nat.zero_le _, Nat.zero_le _⟩
  have htop := PL_top hJ.1
  obtain ⟨t1, t2, t3⟩ := top_le hJ.2.1
  have t3 := t3 hx
  have hll : (pile ++ [x]).length = pile.length + 1 := by rw [List.length_append]; rfl
  rw [hll] at j1
  obtain ⟨v01, w01, y01⟩ := h0
  have w11 := h1
  have hw3 : x.1 = 3 → 1 ≤ w := by
    intro h3
    have hb := hJ.2.2.1
    rw [hb, List.countP_append, List.countP_cons, if_pos (by unfold isW; rw [decide_eq_true]; omega)]
    omega
  refine ev_ald (mt_X12_behindUnit_72 hM) (by decide +kernel : qH.2[233]? = some 75) (rfl : qH.1[75]? = some (14, 90, some 233, [.inl (0, 8)])) a11 hS.1 htop.1 (by omega) hv0 ?_
  have fin : ∀ (w' : Nat) (c2 : hCu), c2.1 = 96 → c2.2.1 = 3 → c2.2.2.2.1 = [(0, .inr (.inr (some 53))), (1, .inl (1, 0)), (200, .inl (2, 0)), (201, .inr (.inr (some 76))), (202, .inr (.inr (some 53)))] → c2.2.2.2.2.1 = c2.2.2.2.2.1 → w' ≤ 7 → (if x.1 = 3 then w - 1 else w) = w' → ∀ (aw2 : List rC) (lw2 : rK) (sw2 : List rV) (D2 : rD) (τ2 : List Int), xt [0, (k : Int), (pile.length : Int), (w : Int), (x.1 : Int)] τ2 → rep D2 aw2 → agU 1 aw1 aw2 → (∀ j, sl aw2 233 j = sl aw1 233 j) → (∀ j, sl aw2 234 j = sl aw1 234 j) → (∀ j, sl aw2 pCode j = sl aw1 pCode j) → RS 1 aw2 a e s t c pile.length w' u → lvOK qH τ2 [(0, .inr (.inr (some 53))), (1, .inl (1, 0)), (200, .inl (2, 0)), (201, .inr (.inr (some 76))), (202, .inr (.inr (some 53)))] (wst sw2 200 lw2) → sw2.length = 3 → Ev L (d + 1) M (96, lw2, sw2, D2, 0, 0) (PostB 1 aw0 a s t) := by
    intro w' c2 _ _ _ _ hw' hwe aw2 lw2 sw2 D2 τ2 x2 a12 a22 e1 e2 e3 hS2 a52 a62
    match sw2, a62 with
    | [p02, p12, p22], _ =>
      obtain ⟨v02, w02, y02⟩ := a52 0 _ rfl
      have w02 : lget lw2 0 = some v02 := w02
      obtain ⟨v12, w12, y12⟩ := a52 1 _ rfl
      have w12 : lget lw2 1 = some v12 := w12
      have i12 := (vI_of (x2 1 (k : Int) rfl) y12).2
      rw [Int.add_zero, eI_nat (by omega)] at i12
      rw [i12] at w12
      obtain ⟨v22, w22, y22⟩ := a52 200 _ rfl
      have w22 : some p02 = some v22 := w22
      cases w22
      obtain ⟨v32, w32, y32⟩ := a52 201 _ rfl
      have w32 : some p12 = some v32 := w32
      cases w32
      obtain ⟨v42, w42, y42⟩ := a52 202 _ rfl
      have w42 : some p22 = some v42 := w42
      cases w42
      have i22 := (vI_of (x2 2 (pile.length : Int) rfl) y22).2
      rw [Int.add_zero, eI_nat (by omega)] at i22
      rw [i22]
      refine ev_ald (mt_X12_behindUnit_96 hM) (by decide +kernel : qH.2[234]? = some 76) (rfl : qH.1[76]? = some (14, 90, some 234, [.inl (-2147483648, 2147483647)])) a12 hS2.1 (by rw [e2]; exact htop.2) (by omega) y32 ?_
      refine runH (P := P_bl4) (Q := QB) qH_w hM ch_bl4 all_nil (aw0 := aw2) (aw := aw2) (fun g => by cases g) rfl (τ0 := [0, (k : Int), (x.2 : Int)]) (σ := [0, (k : Int), (x.2 : Int)]) rfl rfl (Nat.zero_le _) hcz (xt_refl _) ⟨eOK2_L ⟨⟨by decide, by decide⟩, ⟨by dsimp only; omega, by dsimp only; omega⟩, ⟨by dsimp only; omega, by dsimp only; omega⟩, trivial⟩ rfl all_nil, hOK_nil hS2.1, lvOK_cons ⟨_, w02, y02⟩ (lvOK_cons ⟨_, w12, vN ⟨(k : Int), rfl, Int.add_zero _⟩ (by omega)⟩ lvOK_nil), ⟨vN ⟨(x.2 : Int), rfl, Int.add_zero _⟩ (by omega), y42, trivial⟩, a12⟩ (ag_refl _ _ _) all_nil ?_
      intro c3 hcc3 τ3 aw3 lw3 sw3 D3 x3 a13 a23 a33 a43 a53 a63
      have hcc3 := List.mem_singleton.mp hcc3
      subst hcc3
      match sw3, a63 with
      | [p03, p13, p23], _ =>
        obtain ⟨v03, w03, y03⟩ := a53 0 _ rfl
        have w03 : lget lw3 0 = some v03 := w03
        have hh3 := hOK_0 a33 a43 rfl
        obtain ⟨v13, w13, y13⟩ := a53 1 _ rfl
        have w13 : lget lw3 1 = some v13 := w13
        have i13 := (vI_of (x3 1 (k : Int) rfl) y13).2
        rw [Int.add_zero, eI_nat (by omega)] at i13
        rw [i13] at w13
        obtain ⟨v23, w23, y23⟩ := a53 200 _ rfl
        have w23 : some p03 = some v23 := w23
        cases w23
        obtain ⟨v33, w33, y33⟩ := a53 201 _ rfl
        have w33 : some p13 = some v33 := w33
        cases w33
        obtain ⟨v43, w43, y43⟩ := a53 202 _ rfl
        have w43 : some p23 = some v43 := w43
        cases w43
        have i23 : p03 = .inl 0 := (vI_of (x3 0 0 rfl) y23).2
        have i33 := (vI_of (x3 2 (x.2 : Int) rfl) y33).2
        rw [Int.add_zero, eI_nat (by omega)] at i33
        rw [i23, i33]
        have hS3 := RS_0 hS2 hh3 a23 (by rfl)
        refine ev_emit (mk_X12_behindUnit_98 hM) hcz a13 hh3 (by omega) (by decide) (by omega) hS3.2.2.2.2.2.2.2.1 (Nat.zero_le _) y43 (fun D4 aw4 b1 b2 b3 b4 b5 => ?_)
        have hS4 := RS_35 hS3 b2 b3 b4
        have q1 : ∀ j, sl aw3 233 j = sl aw1 233 j := fun j => by rw [a23.2 233 75 j (by decide +kernel) rfl, e1]
        have q2 : ∀ j, sl aw3 234 j = sl aw1 234 j := fun j => by rw [a23.2 234 76 j (by decide +kernel) rfl, e2]
        have q3 : ∀ j, sl aw3 pCode j = sl aw1 pCode j := fun j => by rw [a23.2 pCode 73 j (by decide +kernel) rfl, e3]
        have hJ4 := (JJ_pop (aw' := aw4) hJ hx (fun j => by rw [b3.2 233 75 j (by decide +kernel) rfl, q1]) (fun j => by rw [b3.2 234 76 j (by decide +kernel) rfl, q2]) (fun j => by rw [b5, q3])).1
        rw [hwe] at hJ4
        have a14 := b1
        refine runH (P := P_bl5) (Q := QB) qH_w hM ch_bl5 all_nil (aw0 := aw4) (aw := aw4) (fun g => by cases g) rfl (τ0 := [0, (k : Int)]) (σ := [0, (k : Int)]) rfl rfl (Nat.zero_le _) hcz (xt_refl _) ⟨eOK2_L ⟨⟨by decide, by decide⟩, ⟨by dsimp only; omega, by dsimp only; omega⟩, trivial⟩ rfl all_nil, hOK_nil b2, lvOK_cons ⟨_, w03, y03⟩ (lvOK_cons ⟨_, w13, vN ⟨(k : Int), rfl, Int.add_zero _⟩ (by omega)⟩ lvOK_nil), trivial, a14⟩ (ag_refl _ _ _) all_nil ?_
        intro c5 hcc5 τ5 aw5 lw5 sw5 D5 x5 a15 a25 a35 a45 a55 a65
        have hcc5 := List.mem_singleton.mp hcc5
        subst hcc5
        match sw5, a65 with
        | [], _ =>
          obtain ⟨v05, w05, y05⟩ := a55 0 _ rfl
          have w05 : lget lw5 0 = some v05 := w05
          have hh5 := hOK_0 a35 a45 rfl
          obtain ⟨v15, w15, y15⟩ := a55 1 _ rfl
          have w15 : lget lw5 1 = some v15 := w15
          have i15 := (vI_of (x5 1 (k : Int) rfl) y15).2
          rw [Int.add_zero, eI_nat (by omega)] at i15
          rw [i15] at w15
          exact hgo (c + 1) w' lw5 D5 aw5 a15 (agU_trans ha (agU_trans a22 (agU_trans (agU_s (by rfl) (by rfl) a23) (agU_trans (agU_e (by rfl) b3 b5 ⟨j3, by omega⟩) (agU_s (by rfl) (by rfl) a25))))) (RS_0 hS4 hh5 a25 (by rfl)) (JJ_0 hJ4 a25 (by rfl)) hw' ⟨_, w05, y05⟩ w15
  by_cases h3 : x.1 = 3
  · refine runH (P := P_bl3a) (Q := QB) qH_w hM ch_bl3a all_nil (aw0 := aw1) (aw := aw1) (fun g => by cases g) rfl (τ0 := [0, (k : Int), (pile.length : Int), (w : Int), (x.1 : Int)]) (σ := [0, (k : Int), (pile.length : Int), (w : Int), (x.1 : Int)]) rfl rfl (Nat.zero_le _) hcz (xt_refl _) ⟨eOK2_L ⟨⟨by decide, by decide⟩, ⟨by dsimp only; omega, by dsimp only; omega⟩, ⟨by dsimp only; omega, by dsimp only; omega⟩, ⟨by dsimp only; omega, by dsimp only; omega⟩, ⟨by dsimp only; omega, by dsimp only; omega⟩, trivial⟩ rfl all_nil, hOK_mk hS.1 (all_cons ⟨_, hS.2.2.2.2.2.2.2.2.1, vN ⟨(w : Int), rfl, Int.add_zero _⟩ (by omega)⟩ (all_cons ⟨_, hS.2.2.2.2.2.2.2.2.2.1, vN ⟨(pile.length : Int), rfl, Int.add_zero _⟩ (by omega)⟩ all_nil)), lvOK_cons ⟨_, w01, y01⟩ (lvOK_cons ⟨_, w11, vN ⟨(k : Int), rfl, Int.add_zero _⟩ (by omega)⟩ lvOK_nil), ⟨vN ⟨(x.1 : Int), rfl, Int.add_zero _⟩ (by omega), trivial⟩, a11⟩ (ag_refl _ _ _) all_nil ?_
    intro c2 hcc2 τ2 aw2 lw2 sw2 D2 x2 a12 a22 a32 a42 a52 a62
    have hcc2 := List.mem_singleton.mp hcc2
    subst hcc2
    have g36 := (sl_of (j := 36) (i := 3) (o := -1) a42 (by decide +kernel : qH.2[211]? = some 53) (rfl : qH.1[53]? = some _) (by decide) rfl (x2 3 (w : Int) rfl)).2
    have g37 := (sl_of (j := 37) (i := 2) (o := 0) a42 (by decide +kernel : qH.2[211]? = some 53) (rfl : qH.1[53]? = some _) (by decide) rfl (x2 2 (pile.length : Int) rfl)).2
    rw [Int.add_zero, eI_nat (by omega)] at g37
    have hw1 := hw3 h3
    rw [show (w : Int) + -1 = ((w - 1 : Nat) : Int) by omega, eI_nat (by omega)] at g36
    exact fin (w - 1) (96, 3, [], [(0, .inr (.inr (some 53))), (1, .inl (1, 0)), (200, .inl (2, 0)), (201, .inr (.inr (some 76))), (202, .inr (.inr (some 53)))], ([], [], []), []) rfl rfl rfl rfl (by omega) (if_pos h3) aw2 lw2 sw2 D2 τ2 x2 a12 (agU_s (by rfl) (by rfl) a22) (fun j => a22.2 233 75 j (by decide +kernel) rfl) (fun j => a22.2 234 76 j (by decide +kernel) rfl) (fun j => a22.2 pCode 73 j (by decide +kernel) rfl) (RS_x hS (hOK_0 a32 a42 rfl) a22 (by rfl) g36 g37) a52 a62
  · by_cases h2 : x.1 ≤ 2
    · refine runH (P := P_bl3b) (Q := QB) qH_w hM ch_bl3b all_nil (aw0 := aw1) (aw := aw1) (fun g => by cases g) rfl (τ0 := [0, (k : Int), (pile.length : Int), (w : Int), (x.1 : Int)]) (σ := [0, (k : Int), (pile.length : Int), (w : Int), (x.1 : Int)]) rfl rfl (Nat.zero_le _) hcz (xt_refl _) ⟨eOK2_L ⟨⟨by decide, by decide⟩, ⟨by dsimp only; omega, by dsimp only; omega⟩, ⟨by dsimp only; omega, by dsimp only; omega⟩, ⟨by dsimp only; omega, by dsimp only; omega⟩, ⟨by dsimp only; omega, by dsimp only; omega⟩, trivial⟩ rfl all_nil, hOK_mk hS.1 (all_cons ⟨_, hS.2.2.2.2.2.2.2.2.1, vN ⟨(w : Int), rfl, Int.add_zero _⟩ (by omega)⟩ (all_cons ⟨_, hS.2.2.2.2.2.2.2.2.2.1, vN ⟨(pile.length : Int), rfl, Int.add_zero _⟩ (by omega)⟩ all_nil)), lvOK_cons ⟨_, w01, y01⟩ (lvOK_cons ⟨_, w11, vN ⟨(k : Int), rfl, Int.add_zero _⟩ (by omega)⟩ lvOK_nil), ⟨vN ⟨(x.1 : Int), rfl, Int.add_zero _⟩ (by omega), trivial⟩, a11⟩ (ag_refl _ _ _) all_nil ?_
      intro c2 hcc2 τ2 aw2 lw2 sw2 D2 x2 a12 a22 a32 a42 a52 a62
      have hcc2 := List.mem_singleton.mp hcc2
      subst hcc2
      have g36 := (sl_of (j := 36) (i := 3) (o := 0) a42 (by decide +kernel : qH.2[211]? = some 53) (rfl : qH.1[53]? = some _) (by decide) rfl (x2 3 (w : Int) rfl)).2
      have g37 := (sl_of (j := 37) (i := 2) (o := 0) a42 (by decide +kernel : qH.2[211]? = some 53) (rfl : qH.1[53]? = some _) (by decide) rfl (x2 2 (pile.length : Int) rfl)).2
      rw [Int.add_zero, eI_nat (by omega)] at g37
      rw [Int.add_zero, eI_nat (by omega)] at g36
      exact fin w (96, 3, [], [(0, .inr (.inr (some 53))), (1, .inl (1, 0)), (200, .inl (2, 0)), (201, .inr (.inr (some 76))), (202, .inr (.inr (some 53)))], ([], [], []), []) rfl rfl rfl rfl (by omega) (if_neg h3) aw2 lw2 sw2 D2 τ2 x2 a12 (agU_s (by rfl) (by rfl) a22) (fun j => a22.2 233 75 j (by decide +kernel) rfl) (fun j => a22.2 234 76 j (by decide +kernel) rfl) (fun j => a22.2 pCode 73 j (by decide +kernel) rfl) (RS_x hS (hOK_0 a32 a42 rfl) a22 (by rfl) g36 g37) a52 a62
    · refine runH (P := P_bl3c) (Q := QB) qH_w hM ch_bl3c all_nil (aw0 := aw1) (aw := aw1) (fun g => by cases g) rfl (τ0 := [0, (k : Int), (pile.length : Int), (w : Int), (x.1 : Int)]) (σ := [0, (k : Int), (pile.length : Int), (w : Int), (x.1 : Int)]) rfl rfl (Nat.zero_le _) hcz (xt_refl _) ⟨eOK2_L ⟨⟨by decide, by decide⟩, ⟨by dsimp only; omega, by dsimp only; omega⟩, ⟨by dsimp only; omega, by dsimp only; omega⟩, ⟨by dsimp only; omega, by dsimp only; omega⟩, ⟨by dsimp only; omega, by dsimp only; omega⟩, trivial⟩ rfl all_nil, hOK_mk hS.1 (all_cons ⟨_, hS.2.2.2.2.2.2.2.2.1, vN ⟨(w : Int), rfl, Int.add_zero _⟩ (by omega)⟩ (all_cons ⟨_, hS.2.2.2.2.2.2.2.2.2.1, vN ⟨(pile.length : Int), rfl, Int.add_zero _⟩ (by omega)⟩ all_nil)), lvOK_cons ⟨_, w01, y01⟩ (lvOK_cons ⟨_, w11, vN ⟨(k : Int), rfl, Int.add_zero _⟩ (by omega)⟩ lvOK_nil), ⟨vN ⟨(x.1 : Int), rfl, Int.add_zero _⟩ (by omega), trivial⟩, a11⟩ (ag_refl _ _ _) all_nil ?_
      intro c2 hcc2 τ2 aw2 lw2 sw2 D2 x2 a12 a22 a32 a42 a52 a62
      have hcc2 := List.mem_singleton.mp hcc2
      subst hcc2
      have g36 := (sl_of (j := 36) (i := 3) (o := 0) a42 (by decide +kernel : qH.2[211]? = some 53) (rfl : qH.1[53]? = some _) (by decide) rfl (x2 3 (w : Int) rfl)).2
      have g37 := (sl_of (j := 37) (i := 2) (o := 0) a42 (by decide +kernel : qH.2[211]? = some 53) (rfl : qH.1[53]? = some _) (by decide) rfl (x2 2 (pile.length : Int) rfl)).2
      rw [Int.add_zero, eI_nat (by omega)] at g37
      rw [Int.add_zero, eI_nat (by omega)] at g36
      exact fin w (96, 3, [], [(0, .inr (.inr (some 53))), (1, .inl (1, 0)), (200, .inl (2, 0)), (201, .inr (.inr (some 76))), (202, .inr (.inr (some 53)))], ([], [], []), []) rfl rfl rfl rfl (by omega) (if_neg h3) aw2 lw2 sw2 D2 τ2 x2 a12 (agU_s (by rfl) (by rfl) a22) (fun j => a22.2 233 75 j (by decide +kernel) rfl) (fun j => a22.2 234 76 j (by decide +kernel) rfl) (fun j => a22.2 pCode 73 j (by decide +kernel) rfl) (RS_x hS (hOK_0 a32 a42 rfl) a22 (by rfl) g36 g37) a52 a62
set_option maxHeartbeats 8000000 in
theorem bu_step1 {L : List Nat} {M : rM} (hM : mT 254 = some M) {d : Nat} (hd : 5 ≤ d + 1) {aw0 : List rC} {a e s t u k : Nat} (hT : tokOK a e s t) {c w : Nat} {pile : List (Nat × Nat)} {x : Nat × Nat} {lw1 : rK} {D1 : rD} {aw1 : List rC} (a11 : rep D1 aw1) (ha : agU 1 aw0 aw1) (hS : RS 1 aw1 a e s t c (pile.length + 1) w u) (hJ : JJ 1 false aw1 c u w (pile ++ [x])) (hw : w ≤ 7) (h0 : ∃ v, lget lw1 0 = some v ∧ vOK qH [] (.inr (.inr (some 53))) v) (h1 : lget lw1 1 = some (.inl k)) (hk : k = 0 ∨ ((k = 1 ∨ k = 2 ∨ k = 4 ∨ k = 5 ∨ k = 6) ∧ 1 ≤ t)) (hg : (k = 4 ∨ k = 5 ∨ k = 6) → opc (SGN aw0 a)) (hgo : ∀ (c' w' : Nat) (lw2 : rK) (D2 : rD) (aw2 : List rC), rep D2 aw2 → agU 1 aw0 aw2 → RS 1 aw2 a e s t c' pile.length w' u → JJ 1 false aw2 c' u w' pile → w' ≤ 7 → (∃ v, lget lw2 0 = some v ∧ vOK qH [] (.inr (.inr (some 53))) v) → lget lw2 1 = some (.inl k) → Ev L (d + 1) M (23, lw2, [], D2, 0, 0) (PostB 1 aw0 a s t)) : Ev L (d + 1) M (23, lw1, [], D1, 0, 0) (PostB 1 aw0 a s t) := by
  obtain ⟨j1, j2, j3, j4, j5, j6⟩ := JJ_bound hJ hw
  have hcz : (0 : Nat) ≤ mC M ∧ (0 : Nat) ≤ mS M := ⟨Nat.zero_le _, Nat.zero_le _⟩
  have htop := PL_top hJ.1
  obtain ⟨t1, t2, t3⟩ := top_le hJ.2.1
  have hll : (pile ++ [x]).length = pile.length + 1 := by rw [List.length_append]; rfl
  rw [hll] at j1
  obtain ⟨v01, w01, y01⟩ := h0
  have w11 := h1
  have hk6 : k ≤ 6 := by omega
  have ha16 : a ≤ 1600 := by obtain ⟨q1, q2, q3⟩ := hT; rcases q1 with q | q <;> omega
  refine runH (P := P_bl0) (Q := QB) qH_w hM ch_bl0 all_nil (aw0 := aw1) (aw := aw1) (fun g => by cases g) rfl (τ0 := [0, (k : Int), ((pile.length + 1 : Nat) : Int)]) (σ := [0, (k : Int), ((pile.length + 1 : Nat) : Int)]) rfl rfl (Nat.zero_le _) hcz (xt_refl _) ⟨eOK2_L ⟨⟨by decide, by decide⟩, ⟨by dsimp only; omega, by dsimp only; omega⟩, ⟨by dsimp only; omega, by dsimp only; omega⟩, trivial⟩ rfl all_nil, hOK_mk hS.1 (all_cons ⟨_, hS.2.2.2.2.2.2.2.2.2.1, vN ⟨((pile.length + 1 : Nat) : Int), rfl, Int.add_zero _⟩ (by omega)⟩ all_nil), lvOK_cons ⟨_, w01, y01⟩ (lvOK_cons ⟨_, w11, vN ⟨(k : Int), rfl, Int.add_zero _⟩ (by omega)⟩ lvOK_nil), trivial, a11⟩ (ag_refl _ _ _) all_nil ?_
  intro c2 hcc2 τ2 aw2 lw2 sw2 D2 x2 a12 a22 a32 a42 a52 a62
  have hcc2 := List.mem_singleton.mp hcc2
  subst hcc2
  match sw2, a62 with
  | [p02, p12], _ =>
    obtain ⟨v02, w02, y02⟩ := a52 0 _ rfl
    have w02 : lget lw2 0 = some v02 := w02
    have hh2 := hOK_0 a32 a42 rfl
    obtain ⟨v12, w12, y12⟩ := a52 1 _ rfl
    have w12 : lget lw2 1 = some v12 := w12
    have i12 := (vI_of (x2 1 (k : Int) rfl) y12).2
    rw [Int.add_zero, eI_nat (by omega)] at i12
    rw [i12] at w12
    obtain ⟨v22, w22, y22⟩ := a52 200 _ rfl
    have w22 : some p02 = some v22 := w22
    cases w22
    obtain ⟨v32, w32, y32⟩ := a52 201 _ rfl
    have w32 : some p12 = some v32 := w32
    cases w32
    have i22 := (vI_of (x2 2 ((pile.length + 1 : Nat) : Int) rfl) y22).2
    rw [show ((pile.length + 1 : Nat) : Int) + -1 = ((pile.length : Nat) : Int) by omega, eI_nat (by omega)] at i22
    rw [i22]
    have g372 := (sl_of (j := 37) (i := 2) (o := 0) a42 (by decide +kernel : qH.2[211]? = some 53) (rfl : qH.1[53]? = some _) (by decide) rfl (x2 2 ((pile.length + 1 : Nat) : Int) rfl)).2
    rw [Int.add_zero, eI_nat (by omega)] at g372
    have hS2 := RS_x hS hh2 a22 (by rfl) (by rw [a22.2 211 53 36 (by decide +kernel) rfl]; exact hS.2.2.2.2.2.2.2.2.1) g372
    have hJ2 := JJ_0 hJ a22 (by rfl)
    have ha2 := agU_trans ha (agU_s (by rfl) (by rfl) a22)
    refine ev_ald (mt_X12_behindUnit_33 hM) (by decide +kernel : qH.2[233]? = some 75) (rfl : qH.1[75]? = some (14, 90, some 233, [.inl (0, 8)])) a12 hh2 (PL_top hJ2.1).1 (by omega) y32 ?_
    by_cases hx6 : x.1 ≤ 6
    · refine runH (P := P_bl1) (Q := QB) qH_w hM ch_bl1 all_nil (aw0 := aw2) (aw := aw2) (fun g => by cases g) rfl (τ0 := [0, (k : Int), ((pile.length + 1 : Nat) : Int), (x.1 : Int)]) (σ := [0, (k : Int), ((pile.length + 1 : Nat) : Int), (x.1 : Int)]) rfl rfl (Nat.zero_le _) hcz (xt_refl _) ⟨eOK2_L ⟨⟨by decide, by decide⟩, ⟨by dsimp only; omega, by dsimp only; omega⟩, ⟨by dsimp only; omega, by dsimp only; omega⟩, ⟨by dsimp only; omega, by dsimp only; omega⟩, trivial⟩ rfl all_nil, hOK_mk hS2.1 (all_cons ⟨_, hS2.2.2.2.2.2.2.2.2.2.1, vN ⟨((pile.length + 1 : Nat) : Int), rfl, Int.add_zero _⟩ (by omega)⟩ all_nil), lvOK_cons ⟨_, w02, y02⟩ (lvOK_cons ⟨_, w12, vN ⟨(k : Int), rfl, Int.add_zero _⟩ (by omega)⟩ lvOK_nil), ⟨vN ⟨(x.1 : Int), rfl, Int.add_zero _⟩ (by omega), trivial⟩, a12⟩ (ag_refl _ _ _) all_nil ?_
      intro c3 hcc3 τ3 aw3 lw3 sw3 D3 x3 a13 a23 a33 a43 a53 a63
      have hcc3 := List.mem_singleton.mp hcc3
      subst hcc3
      match sw3, a63 with
      | [p03, p13], _ =>
        obtain ⟨v03, w03, y03⟩ := a53 0 _ rfl
        have w03 : lget lw3 0 = some v03 := w03
        have hh3 := hOK_0 a33 a43 rfl
        obtain ⟨v13, w13, y13⟩ := a53 1 _ rfl
        have w13 : lget lw3 1 = some v13 := w13
        have i13 := (vI_of (x3 1 (k : Int) rfl) y13).2
        rw [Int.add_zero, eI_nat (by omega)] at i13
        rw [i13] at w13
        obtain ⟨v23, w23, y23⟩ := a53 200 _ rfl
        have w23 : some p03 = some v23 := w23
        cases w23
        obtain ⟨v33, w33, y33⟩ := a53 201 _ rfl
        have w33 : some p13 = some v33 := w33
        cases w33
        have i23 := (vI_of (x3 2 ((pile.length + 1 : Nat) : Int) rfl) y23).2
        rw [show ((pile.length + 1 : Nat) : Int) + -1 = ((pile.length : Nat) : Int) by omega, eI_nat (by omega)] at i23
        rw [i23]
        have g373 := (sl_of (j := 37) (i := 2) (o := 0) a43 (by decide +kernel : qH.2[211]? = some 53) (rfl : qH.1[53]? = some _) (by decide) rfl (x3 2 ((pile.length + 1 : Nat) : Int) rfl)).2
        rw [Int.add_zero, eI_nat (by omega)] at g373
        have hS3 := RS_x hS2 hh3 a23 (by rfl) (by rw [a23.2 211 53 36 (by decide +kernel) rfl]; exact hS2.2.2.2.2.2.2.2.2.1) g373
        have hJ3 := JJ_0 hJ2 a23 (by rfl)
        have ha3 := agU_trans ha2 (agU_s (by rfl) (by rfl) a23)
        refine ev_ald (mt_X12_behindUnit_49 hM) (by decide +kernel : qH.2[233]? = some 75) (rfl : qH.1[75]? = some (14, 90, some 233, [.inl (0, 8)])) a13 hh3 (PL_top hJ3.1).1 (by omega) y33 ?_
        by_cases hk0 : k = 0
        · refine runH (P := P_bl2a) (Q := QB) qH_w hM ch_bl2a all_nil (aw0 := aw3) (aw := aw3) (fun g => by cases g) rfl (τ0 := [0, (k : Int), ((pile.length + 1 : Nat) : Int), (a : Int), (x.1 : Int)]) (σ := [0, (k : Int), ((pile.length + 1 : Nat) : Int), (a : Int), (x.1 : Int)]) rfl rfl (Nat.zero_le _) hcz (xt_refl _) ⟨eOK2_L ⟨⟨by decide, by decide⟩, ⟨by dsimp only; omega, by dsimp only; omega⟩, ⟨by dsimp only; omega, by dsimp only; omega⟩, ⟨by dsimp only; omega, by dsimp only; omega⟩, ⟨by dsimp only; omega, by dsimp only; omega⟩, trivial⟩ rfl all_nil, hOK_mk hS3.1 (all_cons ⟨_, hS3.2.2.2.1, vN ⟨(a : Int), rfl, Int.add_zero _⟩ (by omega)⟩ (all_cons ⟨_, hS3.2.2.2.2.2.2.2.2.2.1, vN ⟨((pile.length + 1 : Nat) : Int), rfl, Int.add_zero _⟩ (by omega)⟩ all_nil)), lvOK_cons ⟨_, w03, y03⟩ (lvOK_cons ⟨_, w13, vN ⟨(k : Int), rfl, Int.add_zero _⟩ (by omega)⟩ lvOK_nil), ⟨vN ⟨(x.1 : Int), rfl, Int.add_zero _⟩ (by omega), trivial⟩, a13⟩ (ag_refl _ _ _) all_nil ?_
          intro c4 hcc4 τ4 aw4 lw4 sw4 D4 x4 a14 a24 a34 a44 a54 a64
          have hcc4 := List.mem_singleton.mp hcc4
          subst hcc4
          match sw4, a64 with
          | [p04, p14], _ =>
            obtain ⟨v04, w04, y04⟩ := a54 0 _ rfl
            have w04 : lget lw4 0 = some v04 := w04
            have hh4 := hOK_0 a34 a44 rfl
            obtain ⟨v14, w14, y14⟩ := a54 1 _ rfl
            have w14 : lget lw4 1 = some v14 := w14
            have i14 := (vI_of (x4 1 (k : Int) rfl) y14).2
            rw [Int.add_zero, eI_nat (by omega)] at i14
            rw [i14] at w14
            obtain ⟨v24, w24, y24⟩ := a54 200 _ rfl
            have w24 : some p04 = some v24 := w24
            cases w24
            obtain ⟨v34, w34, y34⟩ := a54 201 _ rfl
            have w34 : some p14 = some v34 := w34
            cases w34
            have i24 := (vI_of (x4 2 ((pile.length + 1 : Nat) : Int) rfl) y24).2
            rw [show ((pile.length + 1 : Nat) : Int) + -1 = ((pile.length : Nat) : Int) by omega, eI_nat (by omega)] at i24
            rw [i24]
            have g374 := (sl_of (j := 37) (i := 2) (o := -1) a44 (by decide +kernel : qH.2[211]? = some 53) (rfl : qH.1[53]? = some _) (by decide) rfl (x4 2 ((pile.length + 1 : Nat) : Int) rfl)).2
            rw [show ((pile.length + 1 : Nat) : Int) + -1 = ((pile.length : Nat) : Int) by omega, eI_nat (by omega)] at g374
            have hS4 := RS_x hS3 hh4 a24 (by rfl) (by rw [a24.2 211 53 36 (by decide +kernel) rfl]; exact hS3.2.2.2.2.2.2.2.2.1) g374
            have hJ4 := JJ_0 hJ3 a24 (by rfl)
            have ha4 := agU_trans ha3 (agU_s (by rfl) (by rfl) a24)
            exact pop_tail1 hM hd hT a14 ha4 hS4 hJ4 hx6 hw ⟨_, w04, y04⟩ w14 hk6 y34 hgo
        · skip
          by_cases hk1 : k = 1
          · refine runH (P := P_bl2b) (Q := QB) qH_w hM ch_bl2b all_nil (aw0 := aw3) (aw := aw3) (fun g => by cases g) rfl (τ0 := [0, (k : Int), ((pile.length + 1 : Nat) : Int), (a : Int), (x.1 : Int)]) (σ := [0, (k : Int), ((pile.length + 1 : Nat) : Int), (a : Int), (x.1 : Int)]) rfl rfl (Nat.zero_le _) hcz (xt_refl _) ⟨eOK2_L ⟨⟨by decide, by decide⟩, ⟨by dsimp only; omega, by dsimp only; omega⟩, ⟨by dsimp only; omega, by dsimp only; omega⟩, ⟨by dsimp only; omega, by dsimp only; omega⟩, ⟨by dsimp only; omega, by dsimp only; omega⟩, trivial⟩ rfl all_nil, hOK_mk hS3.1 (all_cons ⟨_, hS3.2.2.2.1, vN ⟨(a : Int), rfl, Int.add_zero _⟩ (by omega)⟩ (all_cons ⟨_, hS3.2.2.2.2.2.2.2.2.2.1, vN ⟨((pile.length + 1 : Nat) : Int), rfl, Int.add_zero _⟩ (by omega)⟩ all_nil)), lvOK_cons ⟨_, w03, y03⟩ (lvOK_cons ⟨_, w13, vN ⟨(k : Int), rfl, Int.add_zero _⟩ (by omega)⟩ lvOK_nil), ⟨vN ⟨(x.1 : Int), rfl, Int.add_zero _⟩ (by omega), trivial⟩, a13⟩ (ag_refl _ _ _) all_nil ?_
            intro c4 hcc4 τ4 aw4 lw4 sw4 D4 x4 a14 a24 a34 a44 a54 a64
            rcases List.mem_cons.mp hcc4 with hcc4 | hcc4
            · subst hcc4
              match sw4, a64 with
              | [p04, p14], _ =>
                obtain ⟨v04, w04, y04⟩ := a54 0 _ rfl
                have w04 : lget lw4 0 = some v04 := w04
                have hh4 := hOK_0 a34 a44 rfl
                obtain ⟨v14, w14, y14⟩ := a54 1 _ rfl
                have w14 : lget lw4 1 = some v14 := w14
                have i14 := (vI_of (x4 1 (k : Int) rfl) y14).2
                rw [Int.add_zero, eI_nat (by omega)] at i14
                rw [i14] at w14
                obtain ⟨v24, w24, y24⟩ := a54 200 _ rfl
                have w24 : some p04 = some v24 := w24
                cases w24
                obtain ⟨v34, w34, y34⟩ := a54 201 _ rfl
                have w34 : some p14 = some v34 := w34
                cases w34
                have i24 := (vI_of (x4 2 ((pile.length + 1 : Nat) : Int) rfl) y24).2
                rw [show ((pile.length + 1 : Nat) : Int) + -1 = ((pile.length : Nat) : Int) by omega, eI_nat (by omega)] at i24
                rw [i24]
                have g374 := (sl_of (j := 37) (i := 2) (o := -1) a44 (by decide +kernel : qH.2[211]? = some 53) (rfl : qH.1[53]? = some _) (by decide) rfl (x4 2 ((pile.length + 1 : Nat) : Int) rfl)).2
                rw [show ((pile.length + 1 : Nat) : Int) + -1 = ((pile.length : Nat) : Int) by omega, eI_nat (by omega)] at g374
                have hS4 := RS_x hS3 hh4 a24 (by rfl) (by rw [a24.2 211 53 36 (by decide +kernel) rfl]; exact hS3.2.2.2.2.2.2.2.2.1) g374
                have hJ4 := JJ_0 hJ3 a24 (by rfl)
                have ha4 := agU_trans ha3 (agU_s (by rfl) (by rfl) a24)
                exact pop_tail1 hM hd hT a14 ha4 hS4 hJ4 hx6 hw ⟨_, w04, y04⟩ w14 hk6 y34 hgo
            · have hcc4 := List.mem_singleton.mp hcc4
              subst hcc4
              match sw4, a64 with
              | [p04, p14, p24], _ =>
                obtain ⟨v04, w04, y04⟩ := a54 0 _ rfl
                have w04 : lget lw4 0 = some v04 := w04
                have hh4 := hOK_0 a34 a44 rfl
                obtain ⟨v14, w14, y14⟩ := a54 1 _ rfl
                have w14 : lget lw4 1 = some v14 := w14
                have i14 := (vI_of (x4 1 (k : Int) rfl) y14).2
                rw [Int.add_zero, eI_nat (by omega)] at i14
                rw [i14] at w14
                obtain ⟨v24, w24, y24⟩ := a54 200 _ rfl
                have w24 : some p04 = some v24 := w24
                cases w24
                obtain ⟨v34, w34, y34⟩ := a54 201 _ rfl
                have w34 : some p14 = some v34 := w34
                cases w34
                obtain ⟨v44, w44, y44⟩ := a54 202 _ rfl
                have w44 : some p24 = some v44 := w44
                cases w44
                have g374 := (sl_of (j := 37) (i := 2) (o := 0) a44 (by decide +kernel : qH.2[211]? = some 53) (rfl : qH.1[53]? = some _) (by decide) rfl (x4 2 ((pile.length + 1 : Nat) : Int) rfl)).2
                rw [Int.add_zero, eI_nat (by omega)] at g374
                have hS4 := RS_x hS3 hh4 a24 (by rfl) (by rw [a24.2 211 53 36 (by decide +kernel) rfl]; exact hS3.2.2.2.2.2.2.2.2.1) g374
                have hJ4 := JJ_0 hJ3 a24 (by rfl)
                have ha4 := agU_trans ha3 (agU_s (by rfl) (by rfl) a24)
                have i24 : p04 = .inl 124 := (vI_of (x4 0 0 rfl) y24).2
                have i34 := (vI_of (x4 1 (k : Int) rfl) y34).2
                rw [Int.add_zero, eI_nat (by omega)] at i34
                rw [i24, i34]
                exact op_tail1 hM hd hT a14 ha4 (by rw [hll]; exact hS4) hJ4 hw ⟨_, w04, y04⟩ (by omega) (by omega) ⟨by decide, by decide⟩ (by decide) y44
          · skip
            by_cases hk2 : k = 2
            · refine runH (P := P_bl2c) (Q := QB) qH_w hM ch_bl2c all_nil (aw0 := aw3) (aw := aw3) (fun g => by cases g) rfl (τ0 := [0, (k : Int), ((pile.length + 1 : Nat) : Int), (a : Int), (x.1 : Int)]) (σ := [0, (k : Int), ((pile.length + 1 : Nat) : Int), (a : Int), (x.1 : Int)]) rfl rfl (Nat.zero_le _) hcz (xt_refl _) ⟨eOK2_L ⟨⟨by decide, by decide⟩, ⟨by dsimp only; omega, by dsimp only; omega⟩, ⟨by dsimp only; omega, by dsimp only; omega⟩, ⟨by dsimp only; omega, by dsimp only; omega⟩, ⟨by dsimp only; omega, by dsimp only; omega⟩, trivial⟩ rfl all_nil, hOK_mk hS3.1 (all_cons ⟨_, hS3.2.2.2.1, vN ⟨(a : Int), rfl, Int.add_zero _⟩ (by omega)⟩ (all_cons ⟨_, hS3.2.2.2.2.2.2.2.2.2.1, vN ⟨((pile.length + 1 : Nat) : Int), rfl, Int.add_zero _⟩ (by omega)⟩ all_nil)), lvOK_cons ⟨_, w03, y03⟩ (lvOK_cons ⟨_, w13, vN ⟨(k : Int), rfl, Int.add_zero _⟩ (by omega)⟩ lvOK_nil), ⟨vN ⟨(x.1 : Int), rfl, Int.add_zero _⟩ (by omega), trivial⟩, a13⟩ (ag_refl _ _ _) all_nil ?_
              intro c4 hcc4 τ4 aw4 lw4 sw4 D4 x4 a14 a24 a34 a44 a54 a64
              rcases List.mem_cons.mp hcc4 with hcc4 | hcc4
              · subst hcc4
                match sw4, a64 with
                | [p04, p14], _ =>
                  obtain ⟨v04, w04, y04⟩ := a54 0 _ rfl
                  have w04 : lget lw4 0 = some v04 := w04
                  have hh4 := hOK_0 a34 a44 rfl
                  obtain ⟨v14, w14, y14⟩ := a54 1 _ rfl
                  have w14 : lget lw4 1 = some v14 := w14
                  have i14 := (vI_of (x4 1 (k : Int) rfl) y14).2
                  rw [Int.add_zero, eI_nat (by omega)] at i14
                  rw [i14] at w14
                  obtain ⟨v24, w24, y24⟩ := a54 200 _ rfl
                  have w24 : some p04 = some v24 := w24
                  cases w24
                  obtain ⟨v34, w34, y34⟩ := a54 201 _ rfl
                  have w34 : some p14 = some v34 := w34
                  cases w34
                  have i24 := (vI_of (x4 2 ((pile.length + 1 : Nat) : Int) rfl) y24).2
                  rw [show ((pile.length + 1 : Nat) : Int) + -1 = ((pile.length : Nat) : Int) by omega, eI_nat (by omega)] at i24
                  rw [i24]
                  have g374 := (sl_of (j := 37) (i := 2) (o := -1) a44 (by decide +kernel : qH.2[211]? = some 53) (rfl : qH.1[53]? = some _) (by decide) rfl (x4 2 ((pile.length + 1 : Nat) : Int) rfl)).2
                  rw [show ((pile.length + 1 : Nat) : Int) + -1 = ((pile.length : Nat) : Int) by omega, eI_nat (by omega)] at g374
                  have hS4 := RS_x hS3 hh4 a24 (by rfl) (by rw [a24.2 211 53 36 (by decide +kernel) rfl]; exact hS3.2.2.2.2.2.2.2.2.1) g374
                  have hJ4 := JJ_0 hJ3 a24 (by rfl)
                  have ha4 := agU_trans ha3 (agU_s (by rfl) (by rfl) a24)
                  exact pop_tail1 hM hd hT a14 ha4 hS4 hJ4 hx6 hw ⟨_, w04, y04⟩ w14 hk6 y34 hgo
              · have hcc4 := List.mem_singleton.mp hcc4
                subst hcc4
                match sw4, a64 with
                | [p04, p14, p24], _ =>
                  obtain ⟨v04, w04, y04⟩ := a54 0 _ rfl
                  have w04 : lget lw4 0 = some v04 := w04
                  have hh4 := hOK_0 a34 a44 rfl
                  obtain ⟨v14, w14, y14⟩ := a54 1 _ rfl
                  have w14 : lget lw4 1 = some v14 := w14
                  have i14 := (vI_of (x4 1 (k : Int) rfl) y14).2
                  rw [Int.add_zero, eI_nat (by omega)] at i14
                  rw [i14] at w14
                  obtain ⟨v24, w24, y24⟩ := a54 200 _ rfl
                  have w24 : some p04 = some v24 := w24
                  cases w24
                  obtain ⟨v34, w34, y34⟩ := a54 201 _ rfl
                  have w34 : some p14 = some v34 := w34
                  cases w34
                  obtain ⟨v44, w44, y44⟩ := a54 202 _ rfl
                  have w44 : some p24 = some v44 := w44
                  cases w44
                  have g374 := (sl_of (j := 37) (i := 2) (o := 0) a44 (by decide +kernel : qH.2[211]? = some 53) (rfl : qH.1[53]? = some _) (by decide) rfl (x4 2 ((pile.length + 1 : Nat) : Int) rfl)).2
                  rw [Int.add_zero, eI_nat (by omega)] at g374
                  have hS4 := RS_x hS3 hh4 a24 (by rfl) (by rw [a24.2 211 53 36 (by decide +kernel) rfl]; exact hS3.2.2.2.2.2.2.2.2.1) g374
                  have hJ4 := JJ_0 hJ3 a24 (by rfl)
                  have ha4 := agU_trans ha3 (agU_s (by rfl) (by rfl) a24)
                  have i24 : p04 = .inl 38 := (vI_of (x4 0 0 rfl) y24).2
                  have i34 := (vI_of (x4 1 (k : Int) rfl) y34).2
                  rw [Int.add_zero, eI_nat (by omega)] at i34
                  rw [i24, i34]
                  exact op_tail1 hM hd hT a14 ha4 (by rw [hll]; exact hS4) hJ4 hw ⟨_, w04, y04⟩ (by omega) (by omega) ⟨by decide, by decide⟩ (by decide) y44
            · skip
              · refine runH (P := P_bl2d) (Q := QB) qH_w hM ch_bl2d all_nil (aw0 := aw3) (aw := aw3) (fun g => by cases g) rfl (τ0 := [0, (k : Int), ((pile.length + 1 : Nat) : Int), (a : Int), (x.1 : Int)]) (σ := [0, (k : Int), ((pile.length + 1 : Nat) : Int), (a : Int), (x.1 : Int)]) rfl rfl (Nat.zero_le _) hcz (xt_refl _) ⟨eOK2_L ⟨⟨by decide, by decide⟩, ⟨by dsimp only; omega, by dsimp only; omega⟩, ⟨by dsimp only; omega, by dsimp only; omega⟩, ⟨by dsimp only; omega, by dsimp only; omega⟩, ⟨by dsimp only; omega, by dsimp only; omega⟩, trivial⟩ rfl all_nil, hOK_mk hS3.1 (all_cons ⟨_, hS3.2.2.2.1, vN ⟨(a : Int), rfl, Int.add_zero _⟩ (by omega)⟩ (all_cons ⟨_, hS3.2.2.2.2.2.2.2.2.2.1, vN ⟨((pile.length + 1 : Nat) : Int), rfl, Int.add_zero _⟩ (by omega)⟩ all_nil)), lvOK_cons ⟨_, w03, y03⟩ (lvOK_cons ⟨_, w13, vN ⟨(k : Int), rfl, Int.add_zero _⟩ (by omega)⟩ lvOK_nil), ⟨vN ⟨(x.1 : Int), rfl, Int.add_zero _⟩ (by omega), trivial⟩, a13⟩ (ag_refl _ _ _) all_nil ?_
                intro c4 hcc4 τ4 aw4 lw4 sw4 D4 x4 a14 a24 a34 a44 a54 a64
                rcases List.mem_cons.mp hcc4 with hcc4 | hcc4
                · subst hcc4
                  match sw4, a64 with
                  | [p04, p14], _ =>
                    obtain ⟨v04, w04, y04⟩ := a54 0 _ rfl
                    have w04 : lget lw4 0 = some v04 := w04
                    have hh4 := hOK_0 a34 a44 rfl
                    obtain ⟨v14, w14, y14⟩ := a54 1 _ rfl
                    have w14 : lget lw4 1 = some v14 := w14
                    have i14 := (vI_of (x4 1 (k : Int) rfl) y14).2
                    rw [Int.add_zero, eI_nat (by omega)] at i14
                    rw [i14] at w14
                    obtain ⟨v24, w24, y24⟩ := a54 200 _ rfl
                    have w24 : some p04 = some v24 := w24
                    cases w24
                    obtain ⟨v34, w34, y34⟩ := a54 201 _ rfl
                    have w34 : some p14 = some v34 := w34
                    cases w34
                    have i24 := (vI_of (x4 2 ((pile.length + 1 : Nat) : Int) rfl) y24).2
                    rw [show ((pile.length + 1 : Nat) : Int) + -1 = ((pile.length : Nat) : Int) by omega, eI_nat (by omega)] at i24
                    rw [i24]
                    have g374 := (sl_of (j := 37) (i := 2) (o := -1) a44 (by decide +kernel : qH.2[211]? = some 53) (rfl : qH.1[53]? = some _) (by decide) rfl (x4 2 ((pile.length + 1 : Nat) : Int) rfl)).2
                    rw [show ((pile.length + 1 : Nat) : Int) + -1 = ((pile.length : Nat) : Int) by omega, eI_nat (by omega)] at g374
                    have hS4 := RS_x hS3 hh4 a24 (by rfl) (by rw [a24.2 211 53 36 (by decide +kernel) rfl]; exact hS3.2.2.2.2.2.2.2.2.1) g374
                    have hJ4 := JJ_0 hJ3 a24 (by rfl)
                    have ha4 := agU_trans ha3 (agU_s (by rfl) (by rfl) a24)
                    exact pop_tail1 hM hd hT a14 ha4 hS4 hJ4 hx6 hw ⟨_, w04, y04⟩ w14 hk6 y34 hgo
                · have hcc4 := List.mem_singleton.mp hcc4
                  subst hcc4
                  match sw4, a64 with
                  | [p04, p14, p24, p34], _ =>
                    obtain ⟨v04, w04, y04⟩ := a54 0 _ rfl
                    have w04 : lget lw4 0 = some v04 := w04
                    have hh4 := hOK_0 a34 a44 rfl
                    obtain ⟨v14, w14, y14⟩ := a54 1 _ rfl
                    have w14 : lget lw4 1 = some v14 := w14
                    have i14 := (vI_of (x4 1 (k : Int) rfl) y14).2
                    rw [Int.add_zero, eI_nat (by omega)] at i14
                    rw [i14] at w14
                    obtain ⟨v24, w24, y24⟩ := a54 200 _ rfl
                    have w24 : some p04 = some v24 := w24
                    cases w24
                    obtain ⟨v34, w34, y34⟩ := a54 201 _ rfl
                    have w34 : some p14 = some v34 := w34
                    cases w34
                    obtain ⟨v44, w44, y44⟩ := a54 202 _ rfl
                    have w44 : some p24 = some v44 := w44
                    cases w44
                    obtain ⟨v54, w54, y54⟩ := a54 203 _ rfl
                    have w54 : some p34 = some v54 := w54
                    cases w54
                    have g374 := (sl_of (j := 37) (i := 2) (o := 0) a44 (by decide +kernel : qH.2[211]? = some 53) (rfl : qH.1[53]? = some _) (by decide) rfl (x4 2 ((pile.length + 1 : Nat) : Int) rfl)).2
                    rw [Int.add_zero, eI_nat (by omega)] at g374
                    have hS4 := RS_x hS3 hh4 a24 (by rfl) (by rw [a24.2 211 53 36 (by decide +kernel) rfl]; exact hS3.2.2.2.2.2.2.2.2.1) g374
                    have hJ4 := JJ_0 hJ3 a24 (by rfl)
                    have ha4 := agU_trans ha3 (agU_s (by rfl) (by rfl) a24)
                    have i24 := (vI_of (x4 3 (a : Int) rfl) y24).2
                    rw [Int.add_zero, eI_nat (by omega)] at i24
                    have i44 := (vI_of (x4 1 (k : Int) rfl) y44).2
                    rw [Int.add_zero, eI_nat (by omega)] at i44
                    rw [i24, i44]
                    refine ev_sign (mk_X12_behindUnit_135 hM) hcz a14 hh4 (by omega) (by rw [refM y54]; exact (by decide : (2 : Nat) ≤ 8)) y34 (fun D9 aw9 n1 n2 n3 => ?_)
                    have hsg : SGN aw4 a = SGN aw0 a := SGN_ag ha4.1 rfl rfl a
                    rw [hsg]
                    have hgle := SGN_le aw0 a
                    exact op_tail1 hM hd hT n1 (agU_trans ha4 (agU_s (md := []) rfl rfl n2)) (by rw [hll]; exact RS_0 hS4 n3 n2 rfl) (JJ_0 hJ4 n2 rfl) hw ⟨_, w04, y04⟩ (by omega) (by omega) (hg (by omega)) hgle y54
    · skip
      by_cases hk0 : k = 0
      · refine runH (P := P_bl6a) (Q := QB) qH_w hM ch_bl6a all_nil (aw0 := aw2) (aw := aw2) (fun g => by cases g) rfl (τ0 := [0, (k : Int), ((pile.length + 1 : Nat) : Int), (a : Int), (x.1 : Int)]) (σ := [0, (k : Int), ((pile.length + 1 : Nat) : Int), (a : Int), (x.1 : Int)]) rfl rfl (Nat.zero_le _) hcz (xt_refl _) ⟨eOK2_L ⟨⟨by decide, by decide⟩, ⟨by dsimp only; omega, by dsimp only; omega⟩, ⟨by dsimp only; omega, by dsimp only; omega⟩, ⟨by dsimp only; omega, by dsimp only; omega⟩, ⟨by dsimp only; omega, by dsimp only; omega⟩, trivial⟩ rfl all_nil, hOK_mk hS2.1 (all_cons ⟨_, hS2.2.2.2.1, vN ⟨(a : Int), rfl, Int.add_zero _⟩ (by omega)⟩ (all_cons ⟨_, hS2.2.2.2.2.2.2.2.2.2.1, vN ⟨((pile.length + 1 : Nat) : Int), rfl, Int.add_zero _⟩ (by omega)⟩ all_nil)), lvOK_cons ⟨_, w02, y02⟩ (lvOK_cons ⟨_, w12, vN ⟨(k : Int), rfl, Int.add_zero _⟩ (by omega)⟩ lvOK_nil), ⟨vN ⟨(x.1 : Int), rfl, Int.add_zero _⟩ (by omega), trivial⟩, a12⟩ (ag_refl _ _ _) all_nil ?_
        intro c4 hcc4 τ4 aw4 lw4 sw4 D4 x4 a14 a24 a34 a44 a54 a64
        have hcc4 := List.mem_singleton.mp hcc4
        subst hcc4
        match sw4, a64 with
        | [p04, p14], _ =>
          obtain ⟨v04, w04, y04⟩ := a54 0 _ rfl
          have w04 : lget lw4 0 = some v04 := w04
          have hh4 := hOK_0 a34 a44 rfl
          obtain ⟨v14, w14, y14⟩ := a54 1 _ rfl
          have w14 : lget lw4 1 = some v14 := w14
          have i14 := (vI_of (x4 1 (k : Int) rfl) y14).2
          rw [Int.add_zero, eI_nat (by omega)] at i14
          rw [i14] at w14
          obtain ⟨v24, w24, y24⟩ := a54 200 _ rfl
          have w24 : some p04 = some v24 := w24
          cases w24
          obtain ⟨v34, w34, y34⟩ := a54 201 _ rfl
          have w34 : some p14 = some v34 := w34
          cases w34
          have i24 := (vI_of (x4 2 ((pile.length + 1 : Nat) : Int) rfl) y24).2
          rw [show ((pile.length + 1 : Nat) : Int) + -1 = ((pile.length : Nat) : Int) by omega, eI_nat (by omega)] at i24
          rw [i24]
          have g374 := (sl_of (j := 37) (i := 2) (o := -1) a44 (by decide +kernel : qH.2[211]? = some 53) (rfl : qH.1[53]? = some _) (by decide) rfl (x4 2 ((pile.length + 1 : Nat) : Int) rfl)).2
          rw [show ((pile.length + 1 : Nat) : Int) + -1 = ((pile.length : Nat) : Int) by omega, eI_nat (by omega)] at g374
          have hS4 := RS_x hS2 hh4 a24 (by rfl) (by rw [a24.2 211 53 36 (by decide +kernel) rfl]; exact hS2.2.2.2.2.2.2.2.2.1) g374
          have hJ4 := JJ_0 hJ2 a24 (by rfl)
          have ha4 := agU_trans ha2 (agU_s (by rfl) (by rfl) a24)
          exact close_tail1 (k := k) hM hd hT a14 ha4 hS4 hJ4 (by omega) hw ⟨_, w04, y04⟩ y34
      · skip
        by_cases hk1 : k = 1
        · refine runH (P := P_bl6b) (Q := QB) qH_w hM ch_bl6b all_nil (aw0 := aw2) (aw := aw2) (fun g => by cases g) rfl (τ0 := [0, (k : Int), ((pile.length + 1 : Nat) : Int), (a : Int), (x.1 : Int)]) (σ := [0, (k : Int), ((pile.length + 1 : Nat) : Int), (a : Int), (x.1 : Int)]) rfl rfl (Nat.zero_le _) hcz (xt_refl _) ⟨eOK2_L ⟨⟨by decide, by decide⟩, ⟨by dsimp only; omega, by dsimp only; omega⟩, ⟨by dsimp only; omega, by dsimp only; omega⟩, ⟨by dsimp only; omega, by dsimp only; omega⟩, ⟨by dsimp only; omega, by dsimp only; omega⟩, trivial⟩ rfl all_nil, hOK_mk hS2.1 (all_cons ⟨_, hS2.2.2.2.1, vN ⟨(a : Int), rfl, Int.add_zero _⟩ (by omega)⟩ (all_cons ⟨_, hS2.2.2.2.2.2.2.2.2.2.1, vN ⟨((pile.length + 1 : Nat) : Int), rfl, Int.add_zero _⟩ (by omega)⟩ all_nil)), lvOK_cons ⟨_, w02, y02⟩ (lvOK_cons ⟨_, w12, vN ⟨(k : Int), rfl, Int.add_zero _⟩ (by omega)⟩ lvOK_nil), ⟨vN ⟨(x.1 : Int), rfl, Int.add_zero _⟩ (by omega), trivial⟩, a12⟩ (ag_refl _ _ _) all_nil ?_
          intro c4 hcc4 τ4 aw4 lw4 sw4 D4 x4 a14 a24 a34 a44 a54 a64
          have hcc4 := List.mem_singleton.mp hcc4
          subst hcc4
          match sw4, a64 with
          | [p04, p14, p24], _ =>
            obtain ⟨v04, w04, y04⟩ := a54 0 _ rfl
            have w04 : lget lw4 0 = some v04 := w04
            have hh4 := hOK_0 a34 a44 rfl
            obtain ⟨v14, w14, y14⟩ := a54 1 _ rfl
            have w14 : lget lw4 1 = some v14 := w14
            have i14 := (vI_of (x4 1 (k : Int) rfl) y14).2
            rw [Int.add_zero, eI_nat (by omega)] at i14
            rw [i14] at w14
            obtain ⟨v24, w24, y24⟩ := a54 200 _ rfl
            have w24 : some p04 = some v24 := w24
            cases w24
            obtain ⟨v34, w34, y34⟩ := a54 201 _ rfl
            have w34 : some p14 = some v34 := w34
            cases w34
            obtain ⟨v44, w44, y44⟩ := a54 202 _ rfl
            have w44 : some p24 = some v44 := w44
            cases w44
            have g374 := (sl_of (j := 37) (i := 2) (o := 0) a44 (by decide +kernel : qH.2[211]? = some 53) (rfl : qH.1[53]? = some _) (by decide) rfl (x4 2 ((pile.length + 1 : Nat) : Int) rfl)).2
            rw [Int.add_zero, eI_nat (by omega)] at g374
            have hS4 := RS_x hS2 hh4 a24 (by rfl) (by rw [a24.2 211 53 36 (by decide +kernel) rfl]; exact hS2.2.2.2.2.2.2.2.2.1) g374
            have hJ4 := JJ_0 hJ2 a24 (by rfl)
            have ha4 := agU_trans ha2 (agU_s (by rfl) (by rfl) a24)
            have i24 : p04 = .inl 124 := (vI_of (x4 0 0 rfl) y24).2
            have i34 := (vI_of (x4 1 (k : Int) rfl) y34).2
            rw [Int.add_zero, eI_nat (by omega)] at i34
            rw [i24, i34]
            exact op_tail1 hM hd hT a14 ha4 (by rw [hll]; exact hS4) hJ4 hw ⟨_, w04, y04⟩ (by omega) (by omega) ⟨by decide, by decide⟩ (by decide) y44
        · skip
          by_cases hk2 : k = 2
          · refine runH (P := P_bl6c) (Q := QB) qH_w hM ch_bl6c all_nil (aw0 := aw2) (aw := aw2) (fun g => by cases g) rfl (τ0 := [0, (k : Int), ((pile.length + 1 : Nat) : Int), (a : Int), (x.1 : Int)]) (σ := [0, (k : Int), ((pile.length + 1 : Nat) : Int), (a : Int), (x.1 : Int)]) rfl rfl (Nat.zero_le _) hcz (xt_refl _) ⟨eOK2_L ⟨⟨by decide, by decide⟩, ⟨by dsimp only; omega, by dsimp only; omega⟩, ⟨by dsimp only; omega, by dsimp only; omega⟩, ⟨by dsimp only; omega, by dsimp only; omega⟩, ⟨by dsimp only; omega, by dsimp only; omega⟩, trivial⟩ rfl all_nil, hOK_mk hS2.1 (all_cons ⟨_, hS2.2.2.2.1, vN ⟨(a : Int), rfl, Int.add_zero _⟩ (by omega)⟩ (all_cons ⟨_, hS2.2.2.2.2.2.2.2.2.2.1, vN ⟨((pile.length + 1 : Nat) : Int), rfl, Int.add_zero _⟩ (by omega)⟩ all_nil)), lvOK_cons ⟨_, w02, y02⟩ (lvOK_cons ⟨_, w12, vN ⟨(k : Int), rfl, Int.add_zero _⟩ (by omega)⟩ lvOK_nil), ⟨vN ⟨(x.1 : Int), rfl, Int.add_zero _⟩ (by omega), trivial⟩, a12⟩ (ag_refl _ _ _) all_nil ?_
            intro c4 hcc4 τ4 aw4 lw4 sw4 D4 x4 a14 a24 a34 a44 a54 a64
            have hcc4 := List.mem_singleton.mp hcc4
            subst hcc4
            match sw4, a64 with
            | [p04, p14, p24], _ =>
              obtain ⟨v04, w04, y04⟩ := a54 0 _ rfl
              have w04 : lget lw4 0 = some v04 := w04
              have hh4 := hOK_0 a34 a44 rfl
              obtain ⟨v14, w14, y14⟩ := a54 1 _ rfl
              have w14 : lget lw4 1 = some v14 := w14
              have i14 := (vI_of (x4 1 (k : Int) rfl) y14).2
              rw [Int.add_zero, eI_nat (by omega)] at i14
              rw [i14] at w14
              obtain ⟨v24, w24, y24⟩ := a54 200 _ rfl
              have w24 : some p04 = some v24 := w24
              cases w24
              obtain ⟨v34, w34, y34⟩ := a54 201 _ rfl
              have w34 : some p14 = some v34 := w34
              cases w34
              obtain ⟨v44, w44, y44⟩ := a54 202 _ rfl
              have w44 : some p24 = some v44 := w44
              cases w44
              have g374 := (sl_of (j := 37) (i := 2) (o := 0) a44 (by decide +kernel : qH.2[211]? = some 53) (rfl : qH.1[53]? = some _) (by decide) rfl (x4 2 ((pile.length + 1 : Nat) : Int) rfl)).2
              rw [Int.add_zero, eI_nat (by omega)] at g374
              have hS4 := RS_x hS2 hh4 a24 (by rfl) (by rw [a24.2 211 53 36 (by decide +kernel) rfl]; exact hS2.2.2.2.2.2.2.2.2.1) g374
              have hJ4 := JJ_0 hJ2 a24 (by rfl)
              have ha4 := agU_trans ha2 (agU_s (by rfl) (by rfl) a24)
              have i24 : p04 = .inl 38 := (vI_of (x4 0 0 rfl) y24).2
              have i34 := (vI_of (x4 1 (k : Int) rfl) y34).2
              rw [Int.add_zero, eI_nat (by omega)] at i34
              rw [i24, i34]
              exact op_tail1 hM hd hT a14 ha4 (by rw [hll]; exact hS4) hJ4 hw ⟨_, w04, y04⟩ (by omega) (by omega) ⟨by decide, by decide⟩ (by decide) y44
          · skip
            · refine runH (P := P_bl6d) (Q := QB) qH_w hM ch_bl6d all_nil (aw0 := aw2) (aw := aw2) (fun g => by cases g) rfl (τ0 := [0, (k : Int), ((pile.length + 1 : Nat) : Int), (a : Int), (x.1 : Int)]) (σ := [0, (k : Int), ((pile.length + 1 : Nat) : Int), (a : Int), (x.1 : Int)]) rfl rfl (Nat.zero_le _) hcz (xt_refl _) ⟨eOK2_L ⟨⟨by decide, by decide⟩, ⟨by dsimp only; omega, by dsimp only; omega⟩, ⟨by dsimp only; omega, by dsimp only; omega⟩, ⟨by dsimp only; omega, by dsimp only; omega⟩, ⟨by dsimp only; omega, by dsimp only; omega⟩, trivial⟩ rfl all_nil, hOK_mk hS2.1 (all_cons ⟨_, hS2.2.2.2.1, vN ⟨(a : Int), rfl, Int.add_zero _⟩ (by omega)⟩ (all_cons ⟨_, hS2.2.2.2.2.2.2.2.2.2.1, vN ⟨((pile.length + 1 : Nat) : Int), rfl, Int.add_zero _⟩ (by omega)⟩ all_nil)), lvOK_cons ⟨_, w02, y02⟩ (lvOK_cons ⟨_, w12, vN ⟨(k : Int), rfl, Int.add_zero _⟩ (by omega)⟩ lvOK_nil), ⟨vN ⟨(x.1 : Int), rfl, Int.add_zero _⟩ (by omega), trivial⟩, a12⟩ (ag_refl _ _ _) all_nil ?_
              intro c4 hcc4 τ4 aw4 lw4 sw4 D4 x4 a14 a24 a34 a44 a54 a64
              have hcc4 := List.mem_singleton.mp hcc4
              subst hcc4
              match sw4, a64 with
              | [p04, p14, p24, p34], _ =>
                obtain ⟨v04, w04, y04⟩ := a54 0 _ rfl
                have w04 : lget lw4 0 = some v04 := w04
                have hh4 := hOK_0 a34 a44 rfl
                obtain ⟨v14, w14, y14⟩ := a54 1 _ rfl
                have w14 : lget lw4 1 = some v14 := w14
                have i14 := (vI_of (x4 1 (k : Int) rfl) y14).2
                rw [Int.add_zero, eI_nat (by omega)] at i14
                rw [i14] at w14
                obtain ⟨v24, w24, y24⟩ := a54 200 _ rfl
                have w24 : some p04 = some v24 := w24
                cases w24
                obtain ⟨v34, w34, y34⟩ := a54 201 _ rfl
                have w34 : some p14 = some v34 := w34
                cases w34
                obtain ⟨v44, w44, y44⟩ := a54 202 _ rfl
                have w44 : some p24 = some v44 := w44
                cases w44
                obtain ⟨v54, w54, y54⟩ := a54 203 _ rfl
                have w54 : some p34 = some v54 := w54
                cases w54
                have g374 := (sl_of (j := 37) (i := 2) (o := 0) a44 (by decide +kernel : qH.2[211]? = some 53) (rfl : qH.1[53]? = some _) (by decide) rfl (x4 2 ((pile.length + 1 : Nat) : Int) rfl)).2
                rw [Int.add_zero, eI_nat (by omega)] at g374
                have hS4 := RS_x hS2 hh4 a24 (by rfl) (by rw [a24.2 211 53 36 (by decide +kernel) rfl]; exact hS2.2.2.2.2.2.2.2.2.1) g374
                have hJ4 := JJ_0 hJ2 a24 (by rfl)
                have ha4 := agU_trans ha2 (agU_s (by rfl) (by rfl) a24)
                have i24 := (vI_of (x4 3 (a : Int) rfl) y24).2
                rw [Int.add_zero, eI_nat (by omega)] at i24
                have i44 := (vI_of (x4 1 (k : Int) rfl) y44).2
                rw [Int.add_zero, eI_nat (by omega)] at i44
                rw [i24, i44]
                refine ev_sign (mk_X12_behindUnit_135 hM) hcz a14 hh4 (by omega) (by rw [refM y54]; exact (by decide : (2 : Nat) ≤ 8)) y34 (fun D9 aw9 n1 n2 n3 => ?_)
                have hsg : SGN aw4 a = SGN aw0 a := SGN_ag ha4.1 rfl rfl a
                rw [hsg]
                have hgle := SGN_le aw0 a
                exact op_tail1 hM hd hT n1 (agU_trans ha4 (agU_s (md := []) rfl rfl n2)) (by rw [hll]; exact RS_0 hS4 n3 n2 rfl) (JJ_0 hJ4 n2 rfl) hw ⟨_, w04, y04⟩ (by omega) (by omega) (hg (by omega)) hgle y54
