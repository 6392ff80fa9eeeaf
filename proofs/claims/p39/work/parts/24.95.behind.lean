/-! by hand: behind a unit -/
theorem pile_last {α : Type} : ∀ (l : List α), l ≠ [] → ∃ l' x, l = l' ++ [x]
  | [], h => absurd rfl h
  | [x], _ => ⟨[], x, rfl⟩
  | x :: y :: l, _ => by
    obtain ⟨l', z, h⟩ := pile_last (y :: l) (by intro h; cases h)
    exact ⟨x :: l', z, by rw [h]; rfl⟩
theorem bu_loop0 {L : List Nat} {M : rM} (hM : mT 254 = some M) {d : Nat} (hd : 5 ≤ d + 1) {aw0 : List rC} {a e s t u k : Nat} (hT : tokOK a e s t) (hk : k = 0 ∨ ((k = 1 ∨ k = 2 ∨ k = 4 ∨ k = 5 ∨ k = 6) ∧ 1 ≤ t)) (hg : (k = 4 ∨ k = 5 ∨ k = 6) → opc (SGN aw0 a)) : ∀ (n : Nat) (pile : List (Nat × Nat)), pile.length = n → ∀ (c w : Nat) (lw1 : rK) (D1 : rD) (aw1 : List rC), rep D1 aw1 → agU 0 aw0 aw1 → RS 0 aw1 a e s t c pile.length w u → JJ 0 false aw1 c u w pile → w ≤ 7 → (∃ v, lget lw1 0 = some v ∧ vOK qH [] (.inr (.inr (some 53))) v) → lget lw1 1 = some (.inl k) → Ev L (d + 1) M (23, lw1, [], D1, 0, 0) (PostB 0 aw0 a s t) := by
  intro n
  induction n with
  | zero =>
    intro pile hn c w lw1 D1 aw1 a11 ha hS hJ hw h0 h1
    have := (JJ_bound hJ hw).2.1
    omega
  | succ n ih =>
    intro pile hn c w lw1 D1 aw1 a11 ha hS hJ hw h0 h1
    obtain ⟨pile', x, rfl⟩ := pile_last pile (by intro h; rw [h] at hn; cases hn)
    have hll : (pile' ++ [x]).length = pile'.length + 1 := by rw [List.length_append]; rfl
    rw [hll] at hS hn
    exact bu_step0 hM hd hT a11 ha hS hJ hw h0 h1 hk hg (fun c' w' lw2 D2 aw2 => ih pile' (by omega) c' w' lw2 D2 aw2)
set_option maxHeartbeats 8000000 in
theorem bu_ok0 {L : List Nat} {M : rM} (hM : mT 254 = some M) {d : Nat} (hd : 5 ≤ d + 1) {Aw : List rV} {D0 : rD} {aw0 : List rC} {a e s t u c w : Nat} {pile : List (Nat × Nat)} (a10 : rep D0 aw0) (hS : RS 0 aw0 a e s t c pile.length w u) (hT : tokOK a e s t) (hJ : JJ 0 false aw0 c u w pile) (hw : w ≤ 7) (h0 : ∃ v, lget (argsL Aw 0) 0 = some v ∧ vOK qH [] (.inr (.inr (some 53))) v) : Ev L (d + 1) M (0, argsL Aw 0, [], D0, 0, 0) (PostB 0 aw0 a s t) := by
  obtain ⟨j1, j2, j3, j4, j5, j6⟩ := JJ_bound hJ hw
  have hcz : (0 : Nat) ≤ mC M ∧ (0 : Nat) ≤ mS M := ⟨Nat.zero_le _, Nat.zero_le _⟩
  have ha16 : a ≤ 1600 := by obtain ⟨q1, q2, q3⟩ := hT; rcases q1 with q | q <;> omega
  refine runH (P := P_q0) (Q := QB) qH_w hM ch_q0 all_nil (aw0 := aw0) (aw := aw0) (fun g => by cases g) rfl (τ0 := [0]) (σ := [0]) rfl rfl (Nat.zero_le _) hcz (xt_refl _) ⟨eOK2_L ⟨⟨by decide, by decide⟩, trivial⟩ rfl all_nil, hOK_nil hS.1, lvOK_cons h0 lvOK_nil, trivial, a10⟩ (ag_refl _ _ _) all_nil ?_
  intro c1 hcc1 τ1 aw1 lw1 sw1 D1 x1 a11 a21 a31 a41 a51 a61
  have hcc1 := List.mem_singleton.mp hcc1
  subst hcc1
  match sw1, a61 with
  | [p01], _ =>
    obtain ⟨v01, w01, y01⟩ := a51 0 _ rfl
    have w01 : lget lw1 0 = some v01 := w01
    have hh1 := hOK_0 a31 a41 rfl
    obtain ⟨v21, w21, y21⟩ := a51 200 _ rfl
    have w21 : some p01 = some v21 := w21
    cases w21
    rw [refM y21]
    obtain ⟨q, q1, q2⟩ := atM hh1
    obtain ⟨M', m1, m2, m3, m4, m5⟩ : ∃ M', mT 258 = some M' ∧ mLoc M' ≤ 80 ∧ mC M' = 0 ∧ mS M' = 0 ∧ 1 ≤ mLoc M' := ⟨_, rfl, by decide +kernel, rfl, rfl, by decide +kernel⟩
    have hS1 := RS_0 hS hh1 a21 (by rfl)
    have hJ1 := JJ_0 hJ a21 (by rfl)
    have ha1 : agU 0 aw0 aw1 := agU_s (by rfl) (by rfl) a21
    have hrk : Ev L d M' (0, argsL [.inr (.inr (some (211 + 1)))] 0, [], D1, 0, 0) (fun v D' => ∃ aw' k, rep D' aw' ∧ ag qH [] aw1 aw' ∧ hOK qH [0] [] aw' ∧ v = some (.inl k) ∧ (k = 0 ∨ ((k = 1 ∨ k = 2 ∨ k = 4 ∨ k = 5 ∨ k = 6) ∧ 1 ≤ t)) ∧ ((k = 4 ∨ k = 5 ∨ k = 6) → opc (SGN aw0 a))) := by
      by_cases ht : t = 0
      · refine Ev_mono (cro0 M' d [0] [.inr (.inr (some (211 + 1)))] D1 aw1 m1 (show 1 ≤ d by omega) a11 (eOK2_L ⟨⟨by decide, by decide⟩, trivial⟩ rfl all_nil) (hOK_mk hh1 (all_cons ⟨_, hS1.2.2.2.2.2.1, vN ⟨0, rfl, by omega⟩ (by omega)⟩ all_nil)) (lvOK_cons ⟨_, rfl, vM⟩ lvOK_nil) (fun g => by cases g)) ?_
        rintro v D' ⟨aw', b1, b2, o, b3, τ1, b4, b5, b6, b7⟩
        have b3 := List.mem_singleton.mp b3
        subst b3
        obtain ⟨v', v1, v2⟩ := b7
        have v3 := (vI_of (b4 0 0 rfl) v2).2
        exact ⟨aw', 0, b1, b2, hOK_0 b5 b6 rfl, by rw [v1, v3]; rfl, Or.inl rfl, fun g => by omega⟩
      · refine Ev_mono (rank_ok m1 (show 2 ≤ d by omega) a11 hh1 hS1.2.2.2.1 ha16 ⟨_, rfl, vM⟩) ?_
        rintro v D' ⟨aw', k, b1, b2, b3, b4, b5⟩
        refine ⟨aw', k, b1, b2, b3, b4, by omega, fun g => ?_⟩
        have : opc (SGN aw1 a) := by
          rcases b5 with q | q | q | q
          · omega
          · omega
          · omega
          · exact q.2
        rw [SGN_ag a21 rfl rfl] at this
        exact this
    refine Ev_call (st_callv (mk_X12_behindUnit_1 hM) (As := []) rfl a11 q1 q2 (Nat.zero_le _)) m1 m5 m2 (by rw [m3]; exact hcz.1) (by rw [m4]; exact hcz.2) hrk ?_
    rintro v D2 ⟨aw2, k, a12, a22, hh2, hv, hk, hg⟩
    subst hv
    rw [m3, m4]
    have hS2 := RS_0 hS1 hh2 a22 (by rfl)
    have hJ2 := JJ_0 hJ1 a22 (by rfl)
    have ha2 := agU_trans ha1 (agU_s (r := 0) (md := []) rfl rfl a22)
    have hk6 : k ≤ 6 := by omega
    change Ev L (d + 1) M (4, lw1, [.inl k], D2, 0, 0) _
    by_cases ka : k = 0
    · refine runH (P := P_q4a) (Q := QB) qH_w hM ch_q4a all_nil (aw0 := aw2) (aw := aw2) (fun g => by cases g) rfl (τ0 := [0, (k : Int)]) (σ := [0, (k : Int)]) rfl rfl (Nat.zero_le _) hcz (xt_refl _) ⟨eOK2_L ⟨⟨by decide, by decide⟩, ⟨by dsimp only; omega, by dsimp only; omega⟩, trivial⟩ rfl all_nil, hOK_nil hh2, lvOK_cons ⟨_, w01, y01⟩ lvOK_nil, ⟨vN ⟨(k : Int), rfl, Int.add_zero _⟩ (by omega), trivial⟩, a12⟩ (ag_refl _ _ _) all_nil ?_
      intro c3 hcc3 τ3 aw3 lw3 sw3 D3 x3 a13 a23 a33 a43 a53 a63
      have hcc3 := List.mem_singleton.mp hcc3
      subst hcc3
      match sw3, a63 with
      | [], _ =>
        obtain ⟨v03, w03, y03⟩ := a53 0 _ rfl
        have w03 : lget lw3 0 = some v03 := w03
        have hh3 := hOK_0 a33 a43 rfl
        obtain ⟨v13, w13, y13⟩ := a53 1 _ rfl
        have w13 : lget lw3 1 = some v13 := w13
        have i13 := (vI_of (x3 1 (k : Int) rfl) y13).2
        rw [Int.add_zero, eI_nat (by omega)] at i13
        rw [i13] at w13
        exact bu_loop0 hM hd hT hk hg pile.length pile rfl c w lw3 D3 aw3 a13 (agU_trans ha2 (agU_s (by rfl) (by rfl) a23)) (RS_0 hS2 hh3 a23 (by rfl)) (JJ_0 hJ2 a23 (by rfl)) hw ⟨_, w03, y03⟩ w13
    · have hkka := ka
      by_cases kb : k = 1
      · refine runH (P := P_q4b) (Q := QB) qH_w hM ch_q4b all_nil (aw0 := aw2) (aw := aw2) (fun g => by cases g) rfl (τ0 := [0, (k : Int)]) (σ := [0, (k : Int)]) rfl rfl (Nat.zero_le _) hcz (xt_refl _) ⟨eOK2_L ⟨⟨by decide, by decide⟩, ⟨by dsimp only; omega, by dsimp only; omega⟩, trivial⟩ rfl all_nil, hOK_nil hh2, lvOK_cons ⟨_, w01, y01⟩ lvOK_nil, ⟨vN ⟨(k : Int), rfl, Int.add_zero _⟩ (by omega), trivial⟩, a12⟩ (ag_refl _ _ _) all_nil ?_
        intro c3 hcc3 τ3 aw3 lw3 sw3 D3 x3 a13 a23 a33 a43 a53 a63
        have hcc3 := List.mem_singleton.mp hcc3
        subst hcc3
        match sw3, a63 with
        | [], _ =>
          obtain ⟨v03, w03, y03⟩ := a53 0 _ rfl
          have w03 : lget lw3 0 = some v03 := w03
          have hh3 := hOK_0 a33 a43 rfl
          obtain ⟨v13, w13, y13⟩ := a53 1 _ rfl
          have w13 : lget lw3 1 = some v13 := w13
          have i13 := (vI_of (x3 1 (k : Int) rfl) y13).2
          rw [Int.add_zero, eI_nat (by omega)] at i13
          rw [i13] at w13
          exact bu_loop0 hM hd hT hk hg pile.length pile rfl c w lw3 D3 aw3 a13 (agU_trans ha2 (agU_s (by rfl) (by rfl) a23)) (RS_0 hS2 hh3 a23 (by rfl)) (JJ_0 hJ2 a23 (by rfl)) hw ⟨_, w03, y03⟩ w13
      · have hkkb := kb
        by_cases kc : k = 2
        · refine runH (P := P_q4c) (Q := QB) qH_w hM ch_q4c all_nil (aw0 := aw2) (aw := aw2) (fun g => by cases g) rfl (τ0 := [0, (k : Int)]) (σ := [0, (k : Int)]) rfl rfl (Nat.zero_le _) hcz (xt_refl _) ⟨eOK2_L ⟨⟨by decide, by decide⟩, ⟨by dsimp only; omega, by dsimp only; omega⟩, trivial⟩ rfl all_nil, hOK_nil hh2, lvOK_cons ⟨_, w01, y01⟩ lvOK_nil, ⟨vN ⟨(k : Int), rfl, Int.add_zero _⟩ (by omega), trivial⟩, a12⟩ (ag_refl _ _ _) all_nil ?_
          intro c3 hcc3 τ3 aw3 lw3 sw3 D3 x3 a13 a23 a33 a43 a53 a63
          have hcc3 := List.mem_singleton.mp hcc3
          subst hcc3
          match sw3, a63 with
          | [], _ =>
            obtain ⟨v03, w03, y03⟩ := a53 0 _ rfl
            have w03 : lget lw3 0 = some v03 := w03
            have hh3 := hOK_0 a33 a43 rfl
            obtain ⟨v13, w13, y13⟩ := a53 1 _ rfl
            have w13 : lget lw3 1 = some v13 := w13
            have i13 := (vI_of (x3 1 (k : Int) rfl) y13).2
            rw [Int.add_zero, eI_nat (by omega)] at i13
            rw [i13] at w13
            exact bu_loop0 hM hd hT hk hg pile.length pile rfl c w lw3 D3 aw3 a13 (agU_trans ha2 (agU_s (by rfl) (by rfl) a23)) (RS_0 hS2 hh3 a23 (by rfl)) (JJ_0 hJ2 a23 (by rfl)) hw ⟨_, w03, y03⟩ w13
        · have hkkc := kc
          by_cases kd : 5 ≤ k
          · refine runH (P := P_q4d) (Q := QB) qH_w hM ch_q4d all_nil (aw0 := aw2) (aw := aw2) (fun g => by cases g) rfl (τ0 := [0, (k : Int)]) (σ := [0, (k : Int)]) rfl rfl (Nat.zero_le _) hcz (xt_refl _) ⟨eOK2_L ⟨⟨by decide, by decide⟩, ⟨by dsimp only; omega, by dsimp only; omega⟩, trivial⟩ rfl all_nil, hOK_nil hh2, lvOK_cons ⟨_, w01, y01⟩ lvOK_nil, ⟨vN ⟨(k : Int), rfl, Int.add_zero _⟩ (by omega), trivial⟩, a12⟩ (ag_refl _ _ _) all_nil ?_
            intro c3 hcc3 τ3 aw3 lw3 sw3 D3 x3 a13 a23 a33 a43 a53 a63
            have hcc3 := List.mem_singleton.mp hcc3
            subst hcc3
            match sw3, a63 with
            | [], _ =>
              obtain ⟨v03, w03, y03⟩ := a53 0 _ rfl
              have w03 : lget lw3 0 = some v03 := w03
              have hh3 := hOK_0 a33 a43 rfl
              obtain ⟨v13, w13, y13⟩ := a53 1 _ rfl
              have w13 : lget lw3 1 = some v13 := w13
              have i13 := (vI_of (x3 1 (k : Int) rfl) y13).2
              rw [Int.add_zero, eI_nat (by omega)] at i13
              rw [i13] at w13
              exact bu_loop0 hM hd hT hk hg pile.length pile rfl c w lw3 D3 aw3 a13 (agU_trans ha2 (agU_s (by rfl) (by rfl) a23)) (RS_0 hS2 hh3 a23 (by rfl)) (JJ_0 hJ2 a23 (by rfl)) hw ⟨_, w03, y03⟩ w13
          · have k4 : k = 4 := by omega
            refine runH (P := P_q4e) (Q := QB) qH_w hM ch_q4e all_nil (aw0 := aw2) (aw := aw2) (fun g => by cases g) rfl (τ0 := [0, (k : Int)]) (σ := [0, (k : Int)]) rfl rfl (Nat.zero_le _) hcz (xt_refl _) ⟨eOK2_L ⟨⟨by decide, by decide⟩, ⟨by dsimp only; omega, by dsimp only; omega⟩, trivial⟩ rfl all_nil, hOK_nil hh2, lvOK_cons ⟨_, w01, y01⟩ lvOK_nil, ⟨vN ⟨(k : Int), rfl, Int.add_zero _⟩ (by omega), trivial⟩, a12⟩ (ag_refl _ _ _) all_nil ?_
            intro c3 hcc3 τ3 aw3 lw3 sw3 D3 x3 a13 a23 a33 a43 a53 a63
            have hcc3 := List.mem_singleton.mp hcc3
            subst hcc3
            match sw3, a63 with
            | [p03], _ =>
              obtain ⟨v03, w03, y03⟩ := a53 0 _ rfl
              have w03 : lget lw3 0 = some v03 := w03
              have hh3 := hOK_0 a33 a43 rfl
              obtain ⟨v13, w13, y13⟩ := a53 1 _ rfl
              have w13 : lget lw3 1 = some v13 := w13
              have i13 := (vI_of (x3 1 (k : Int) rfl) y13).2
              rw [Int.add_zero, eI_nat (by omega)] at i13
              rw [i13] at w13
              obtain ⟨v23, w23, y23⟩ := a53 200 _ rfl
              have w23 : some p03 = some v23 := w23
              cases w23
              rw [refM y23]
              obtain ⟨q', q1', q2'⟩ := atM hh3
              obtain ⟨M2, n1, n2, n3, n4, n5⟩ : ∃ M2, mT 257 = some M2 ∧ mLoc M2 ≤ 80 ∧ mC M2 = 0 ∧ mS M2 = 0 ∧ 1 ≤ mLoc M2 := ⟨_, rfl, by decide +kernel, rfl, rfl, by decide +kernel⟩
              have hS3 := RS_0 hS2 hh3 a23 (by rfl)
              have hJ3 := JJ_0 hJ2 a23 (by rfl)
              have ha3 := agU_trans ha2 (agU_s (r := 0) (by rfl) (by rfl) a23)
              refine Ev_call (st_callv (mk_X12_behindUnit_11 hM) (As := []) rfl a13 q1' q2' (Nat.zero_le _)) n1 n5 n2 (by rw [n3]; exact hcz.1) (by rw [n4]; exact hcz.2) (isc_ok n1 (d := d) a13 hh3 hJ3.1 hJ3.2.1 hS3.2.2.2.2.2.2.2.2.2.1 (by omega) ⟨_, rfl, vM⟩) ?_
              rintro v D4 ⟨aw4, a14, a24, hh4, hv⟩
              rw [n3, n4]
              have hS4 := RS_0 hS3 hh4 a24 (by rfl)
              have hJ4 := JJ_0 hJ3 a24 (by rfl)
              have ha4 := agU_trans ha3 (agU_s (r := 0) (md := []) rfl rfl a24)
              rcases hv with hv | hv
              · subst hv
                change Ev L (d + 1) M (14, lw3, [.inl 0], D4, 0, 0) _
                refine runH (P := P_q14z) (Q := QB) qH_w hM ch_q14z all_nil (aw0 := aw4) (aw := aw4) (fun g => by cases g) rfl (τ0 := [0, (k : Int)]) (σ := [0, (k : Int)]) rfl rfl (Nat.zero_le _) hcz (xt_refl _) ⟨eOK2_L ⟨⟨by decide, by decide⟩, ⟨by dsimp only; omega, by dsimp only; omega⟩, trivial⟩ rfl all_nil, hOK_nil hh4, lvOK_cons ⟨_, w03, y03⟩ (lvOK_cons ⟨_, w13, vN ⟨(k : Int), rfl, Int.add_zero _⟩ (by omega)⟩ lvOK_nil), ⟨vI (y := 0) (z := 0) rfl (by decide) ⟨by decide, by decide⟩ (by decide), trivial⟩, a14⟩ (ag_refl _ _ _) all_nil ?_
                intro c5 hcc5 τ5 aw5 lw5 sw5 D5 x5 a15 a25 a35 a45 a55 a65
                have hcc5 := List.mem_singleton.mp hcc5
                subst hcc5
                match sw5, a65 with
                | [], _ =>
                  obtain ⟨v05, w05, y05⟩ := a55 0 _ rfl
                  have w05 : lget lw5 0 = some v05 := w05
                  have hh5 := hOK_0 a35 a45 rfl
                  obtain ⟨v15, w15, y15⟩ := a55 1 _ rfl
                  have w15 : lget lw5 1 = some v15 := w15
                  have i15 := (vI_of (x5 1 (k : Int) rfl) y15).2
                  rw [Int.add_zero, eI_nat (by omega)] at i15
                  rw [i15] at w15
                  exact bu_loop0 hM hd hT hk hg pile.length pile rfl c w lw5 D5 aw5 a15 (agU_trans ha4 (agU_s (by rfl) (by rfl) a25)) (RS_0 hS4 hh5 a25 (by rfl)) (JJ_0 hJ4 a25 (by rfl)) hw ⟨_, w05, y05⟩ w15
              · subst hv
                change Ev L (d + 1) M (14, lw3, [.inl 1], D4, 0, 0) _
                have hd2 : 2 ≤ d + 1 := by omega
                obtain ⟨hT1, hT2, hT3⟩ := hT
                generalize hpl : pile.length = p at *
                rcases hT1 with ⟨t0, t1, t2⟩ | ⟨t0, t1, t2⟩
                · subst t0
                  refine runH (P := P_m00) (Q := QB) qH_w hM ch_m00 all_nil (aw0 := aw4) (aw := aw4) (fun g => by cases g) rfl (τ0 := [0, (a : Int), (e : Int), (s : Int), (c : Int), (p : Int), (w : Int), (u : Int)]) (σ := [0, (a : Int), (e : Int), (s : Int), (c : Int), (p : Int), (w : Int), (u : Int)]) rfl rfl hd2 hcz (xt_refl _) ⟨eOK2_L ⟨⟨by decide, by decide⟩, ⟨by dsimp only; omega, by dsimp only; omega⟩, ⟨by dsimp only; omega, by dsimp only; omega⟩, ⟨by dsimp only; omega, by dsimp only; omega⟩, ⟨by dsimp only; omega, by dsimp only; omega⟩, ⟨by dsimp only; omega, by dsimp only; omega⟩, ⟨by dsimp only; omega, by dsimp only; omega⟩, ⟨by dsimp only; omega, by dsimp only; omega⟩, trivial⟩ rfl (all_cons ⟨(a : Int), (e : Int), rfl, rfl, by dsimp only; omega⟩ (all_cons ⟨(e : Int), (s : Int), rfl, rfl, by dsimp only; omega⟩ all_nil)), RS_C hS4 ⟨by omega, by omega, by omega, by omega, by omega, by omega, by omega, by omega, by omega⟩ ⟨(s : Int), rfl, Int.add_zero _⟩ ⟨0, rfl, rfl⟩ ⟨(a : Int), rfl, Int.add_zero _⟩ ⟨(e : Int), rfl, Int.add_zero _⟩ ⟨0, rfl, rfl⟩ ⟨0, rfl, rfl⟩ ⟨(c : Int), rfl, Int.add_zero _⟩ ⟨(w : Int), rfl, Int.add_zero _⟩ ⟨(p : Int), rfl, Int.add_zero _⟩ ⟨(u : Int), rfl, Int.add_zero _⟩, lvOK_cons ⟨_, w03, y03⟩ lvOK_nil, ⟨vI (y := 0) (z := 1) rfl (by decide) ⟨by decide, by decide⟩ (by decide), trivial⟩, a14⟩ (ag_refl _ _ _) ?_ all_nil
                  intro o ho τ1 aw' w' D' x1 a1 a2 a3 a4 a5
                  have ho := List.mem_singleton.mp ho
                  subst ho
                  obtain ⟨v, v1, v2⟩ := a5
                  have v3 := (vI_of (x1 0 0 rfl) v2).2
                  obtain ⟨f, f1, f2, f3⟩ := a3.2.2.1 8 _ rfl
                  have f2 : (1 : Int) ≤ f := f2
                  have f3 : f ≤ 4 := f3
                  have ef := eI_cast f
                  have g4 := (sl_of (j := 4) (i := 8) (o := 0) a4 (by decide +kernel : qH.2[211]? = some 53) (rfl : qH.1[53]? = some _) (by decide) rfl f1).2
                  have g35 := (sl_of (j := 35) (i := 4) (o := 0) a4 (by decide +kernel : qH.2[211]? = some 53) (rfl : qH.1[53]? = some _) (by decide) rfl (x1 4 (c : Int) rfl)).2
                  rw [Int.add_zero] at g4 g35
                  rw [eI_nat (by omega)] at g35
                  have j64 := (JJ_bound hJ4 hw).2.2.2.2.2
                  exact ⟨aw', a1, agU_trans ha4 (agU_s (by rfl) (by rfl) a2), Or.inl ⟨by rw [v1, v3]; rfl, hOK_0 a3 a4 rfl, eI f, c, by omega, by omega, g4, g35, j3, by omega, by rw [cd_ag a2 (Or.inr trivial) (by decide)]; exact j64⟩⟩
                · have tz := t0
                  refine runH (P := P_m01) (Q := QB) qH_w hM ch_m01 all_nil (aw0 := aw4) (aw := aw4) (fun g => by cases g) rfl (τ0 := [0, (a : Int), (e : Int), (s : Int), (c : Int), (p : Int), (w : Int), (u : Int), (t : Int)]) (σ := [0, (a : Int), (e : Int), (s : Int), (c : Int), (p : Int), (w : Int), (u : Int), (t : Int)]) rfl rfl hd2 hcz (xt_refl _) ⟨eOK2_L ⟨⟨by decide, by decide⟩, ⟨by dsimp only; omega, by dsimp only; omega⟩, ⟨by dsimp only; omega, by dsimp only; omega⟩, ⟨by dsimp only; omega, by dsimp only; omega⟩, ⟨by dsimp only; omega, by dsimp only; omega⟩, ⟨by dsimp only; omega, by dsimp only; omega⟩, ⟨by dsimp only; omega, by dsimp only; omega⟩, ⟨by dsimp only; omega, by dsimp only; omega⟩, ⟨by dsimp only; omega, by dsimp only; omega⟩, trivial⟩ rfl (all_cons ⟨(a : Int), (e : Int), rfl, rfl, by dsimp only; omega⟩ (all_cons ⟨(e : Int), (s : Int), rfl, rfl, by dsimp only; omega⟩ all_nil)), RS_C hS4 ⟨by omega, by omega, by omega, by omega, by omega, by omega, by omega, by omega, by omega⟩ ⟨(s : Int), rfl, Int.add_zero _⟩ ⟨0, rfl, rfl⟩ ⟨(a : Int), rfl, Int.add_zero _⟩ ⟨(e : Int), rfl, Int.add_zero _⟩ ⟨(t : Int), rfl, Int.add_zero _⟩ ⟨0, rfl, rfl⟩ ⟨(c : Int), rfl, Int.add_zero _⟩ ⟨(w : Int), rfl, Int.add_zero _⟩ ⟨(p : Int), rfl, Int.add_zero _⟩ ⟨(u : Int), rfl, Int.add_zero _⟩, lvOK_cons ⟨_, w03, y03⟩ lvOK_nil, ⟨vI (y := 0) (z := 1) rfl (by decide) ⟨by decide, by decide⟩ (by decide), trivial⟩, a14⟩ (ag_refl _ _ _) ?_ all_nil
                  intro o ho τ1 aw' w' D' x1 a1 a2 a3 a4 a5
                  have ho := List.mem_singleton.mp ho
                  subst ho
                  obtain ⟨v, v1, v2⟩ := a5
                  have v3 := (vI_of (x1 0 0 rfl) v2).2
                  obtain ⟨f, f1, f2, f3⟩ := a3.2.2.1 9 _ rfl
                  have f2 : (1 : Int) ≤ f := f2
                  have f3 : f ≤ 4 := f3
                  have ef := eI_cast f
                  have g4 := (sl_of (j := 4) (i := 9) (o := 0) a4 (by decide +kernel : qH.2[211]? = some 53) (rfl : qH.1[53]? = some _) (by decide) rfl f1).2
                  have g35 := (sl_of (j := 35) (i := 4) (o := 0) a4 (by decide +kernel : qH.2[211]? = some 53) (rfl : qH.1[53]? = some _) (by decide) rfl (x1 4 (c : Int) rfl)).2
                  rw [Int.add_zero] at g4 g35
                  rw [eI_nat (by omega)] at g35
                  have j64 := (JJ_bound hJ4 hw).2.2.2.2.2
                  exact ⟨aw', a1, agU_trans ha4 (agU_s (by rfl) (by rfl) a2), Or.inl ⟨by rw [v1, v3]; rfl, hOK_0 a3 a4 rfl, eI f, c, by omega, by omega, g4, g35, j3, by omega, by rw [cd_ag a2 (Or.inr trivial) (by decide)]; exact j64⟩⟩
theorem bu_loop1 {L : List Nat} {M : rM} (hM : mT 254 = some M) {d : Nat} (hd : 5 ≤ d + 1) {aw0 : List rC} {a e s t u k : Nat} (hT : tokOK a e s t) (hk : k = 0 ∨ ((k = 1 ∨ k = 2 ∨ k = 4 ∨ k = 5 ∨ k = 6) ∧ 1 ≤ t)) (hg : (k = 4 ∨ k = 5 ∨ k = 6) → opc (SGN aw0 a)) : ∀ (n : Nat) (pile : List (Nat × Nat)), pile.length = n → ∀ (c w : Nat) (lw1 : rK) (D1 : rD) (aw1 : List rC), rep D1 aw1 → agU 1 aw0 aw1 → RS 1 aw1 a e s t c pile.length w u → JJ 1 false aw1 c u w pile → w ≤ 7 → (∃ v, lget lw1 0 = some v ∧ vOK qH [] (.inr (.inr (some 53))) v) → lget lw1 1 = some (.inl k) → Ev L (d + 1) M (23, lw1, [], D1, 0, 0) (PostB 1 aw0 a s t) := by
  intro n
  induction n with
  | zero =>
    intro pile hn c w lw1 D1 aw1 a11 ha hS hJ hw h0 h1
    have := (JJ_bound hJ hw).2.1
    omega
  | succ n ih =>
    intro pile hn c w lw1 D1 aw1 a11 ha hS hJ hw h0 h1
    obtain ⟨pile', x, rfl⟩ := pile_last pile (by intro h; rw [h] at hn; cases hn)
    have hll : (pile' ++ [x]).length = pile'.length + 1 := by rw [List.length_append]; rfl
    rw [hll] at hS hn
    exact bu_step1 hM hd hT a11 ha hS hJ hw h0 h1 hk hg (fun c' w' lw2 D2 aw2 => ih pile' (by omega) c' w' lw2 D2 aw2)
set_option maxHeartbeats 8000000 in
theorem bu_ok1 {L : List Nat} {M : rM} (hM : mT 254 = some M) {d : Nat} (hd : 5 ≤ d + 1) {Aw : List rV} {D0 : rD} {aw0 : List rC} {a e s t u c w : Nat} {pile : List (Nat × Nat)} (a10 : rep D0 aw0) (hS : RS 1 aw0 a e s t c pile.length w u) (hT : tokOK a e s t) (hJ : JJ 1 false aw0 c u w pile) (hw : w ≤ 7) (h0 : ∃ v, lget (argsL Aw 0) 0 = some v ∧ vOK qH [] (.inr (.inr (some 53))) v) : Ev L (d + 1) M (0, argsL Aw 0, [], D0, 0, 0) (PostB 1 aw0 a s t) := by
  obtain ⟨j1, j2, j3, j4, j5, j6⟩ := JJ_bound hJ hw
  have hcz : (0 : Nat) ≤ mC M ∧ (0 : Nat) ≤ mS M := ⟨Nat.zero_le _, Nat.zero_le _⟩
  have ha16 : a ≤ 1600 := by obtain ⟨q1, q2, q3⟩ := hT; rcases q1 with q | q <;> omega
  refine runH (P := P_q0) (Q := QB) qH_w hM ch_q0 all_nil (aw0 := aw0) (aw := aw0) (fun g => by cases g) rfl (τ0 := [0]) (σ := [0]) rfl rfl (Nat.zero_le _) hcz (xt_refl _) ⟨eOK2_L ⟨⟨by decide, by decide⟩, trivial⟩ rfl all_nil, hOK_nil hS.1, lvOK_cons h0 lvOK_nil, trivial, a10⟩ (ag_refl _ _ _) all_nil ?_
  intro c1 hcc1 τ1 aw1 lw1 sw1 D1 x1 a11 a21 a31 a41 a51 a61
  have hcc1 := List.mem_singleton.mp hcc1
  subst hcc1
  match sw1, a61 with
  | [p01], _ =>
    obtain ⟨v01, w01, y01⟩ := a51 0 _ rfl
    have w01 : lget lw1 0 = some v01 := w01
    have hh1 := hOK_0 a31 a41 rfl
    obtain ⟨v21, w21, y21⟩ := a51 200 _ rfl
    have w21 : some p01 = some v21 := w21
    cases w21
    rw [refM y21]
    obtain ⟨q, q1, q2⟩ := atM hh1
    obtain ⟨M', m1, m2, m3, m4, m5⟩ : ∃ M', mT 258 = some M' ∧ mLoc M' ≤ 80 ∧ mC M' = 0 ∧ mS M' = 0 ∧ 1 ≤ mLoc M' := ⟨_, rfl, by decide +kernel, rfl, rfl, by decide +kernel⟩
    have hS1 := RS_0 hS hh1 a21 (by rfl)
    have hJ1 := JJ_0 hJ a21 (by rfl)
    have ha1 : agU 1 aw0 aw1 := agU_s (by rfl) (by rfl) a21
    have hrk : Ev L d M' (0, argsL [.inr (.inr (some (211 + 1)))] 0, [], D1, 0, 0) (fun v D' => ∃ aw' k, rep D' aw' ∧ ag qH [] aw1 aw' ∧ hOK qH [0] [] aw' ∧ v = some (.inl k) ∧ (k = 0 ∨ ((k = 1 ∨ k = 2 ∨ k = 4 ∨ k = 5 ∨ k = 6) ∧ 1 ≤ t)) ∧ ((k = 4 ∨ k = 5 ∨ k = 6) → opc (SGN aw0 a))) := by
      by_cases ht : t = 0
      · refine Ev_mono (cro0 M' d [0] [.inr (.inr (some (211 + 1)))] D1 aw1 m1 (show 1 ≤ d by omega) a11 (eOK2_L ⟨⟨by decide, by decide⟩, trivial⟩ rfl all_nil) (hOK_mk hh1 (all_cons ⟨_, hS1.2.2.2.2.2.1, vN ⟨0, rfl, by omega⟩ (by omega)⟩ all_nil)) (lvOK_cons ⟨_, rfl, vM⟩ lvOK_nil) (fun g => by cases g)) ?_
        rintro v D' ⟨aw', b1, b2, o, b3, τ1, b4, b5, b6, b7⟩
        have b3 := List.mem_singleton.mp b3
        subst b3
        obtain ⟨v', v1, v2⟩ := b7
        have v3 := (vI_of (b4 0 0 rfl) v2).2
        exact ⟨aw', 0, b1, b2, hOK_0 b5 b6 rfl, by rw [v1, v3]; rfl, Or.inl rfl, fun g => by omega⟩
      · refine Ev_mono (rank_ok m1 (show 2 ≤ d by omega) a11 hh1 hS1.2.2.2.1 ha16 ⟨_, rfl, vM⟩) ?_
        rintro v D' ⟨aw', k, b1, b2, b3, b4, b5⟩
        refine ⟨aw', k, b1, b2, b3, b4, by omega, fun g => ?_⟩
        have : opc (SGN aw1 a) := by
          rcases b5 with q | q | q | q
          · omega
          · omega
          · omega
          · exact q.2
        rw [SGN_ag a21 rfl rfl] at this
        exact this
    refine Ev_call (st_callv (mk_X12_behindUnit_1 hM) (As := []) rfl a11 q1 q2 (Nat.zero_le _)) m1 m5 m2 (by rw [m3]; exact hcz.1) (by rw [m4]; exact hcz.2) hrk ?_
    rintro v D2 ⟨aw2, k, a12, a22, hh2, hv, hk, hg⟩
    subst hv
    rw [m3, m4]
    have hS2 := RS_0 hS1 hh2 a22 (by rfl)
    have hJ2 := JJ_0 hJ1 a22 (by rfl)
    have ha2 := agU_trans ha1 (agU_s (r := 1) (md := []) rfl rfl a22)
    have hk6 : k ≤ 6 := by omega
    change Ev L (d + 1) M (4, lw1, [.inl k], D2, 0, 0) _
    by_cases ka : k = 0
    · refine runH (P := P_q4a) (Q := QB) qH_w hM ch_q4a all_nil (aw0 := aw2) (aw := aw2) (fun g => by cases g) rfl (τ0 := [0, (k : Int)]) (σ := [0, (k : Int)]) rfl rfl (Nat.zero_le _) hcz (xt_refl _) ⟨eOK2_L ⟨⟨by decide, by decide⟩, ⟨by dsimp only; omega, by dsimp only; omega⟩, trivial⟩ rfl all_nil, hOK_nil hh2, lvOK_cons ⟨_, w01, y01⟩ lvOK_nil, ⟨vN ⟨(k : Int), rfl, Int.add_zero _⟩ (by omega), trivial⟩, a12⟩ (ag_refl _ _ _) all_nil ?_
      intro c3 hcc3 τ3 aw3 lw3 sw3 D3 x3 a13 a23 a33 a43 a53 a63
      have hcc3 := List.mem_singleton.mp hcc3
      subst hcc3
      match sw3, a63 with
      | [], _ =>
        obtain ⟨v03, w03, y03⟩ := a53 0 _ rfl
        have w03 : lget lw3 0 = some v03 := w03
        have hh3 := hOK_0 a33 a43 rfl
        obtain ⟨v13, w13, y13⟩ := a53 1 _ rfl
        have w13 : lget lw3 1 = some v13 := w13
        have i13 := (vI_of (x3 1 (k : Int) rfl) y13).2
        rw [Int.add_zero, eI_nat (by omega)] at i13
        rw [i13] at w13
        exact bu_loop1 hM hd hT hk hg pile.length pile rfl c w lw3 D3 aw3 a13 (agU_trans ha2 (agU_s (by rfl) (by rfl) a23)) (RS_0 hS2 hh3 a23 (by rfl)) (JJ_0 hJ2 a23 (by rfl)) hw ⟨_, w03, y03⟩ w13
    · have hkka := ka
      by_cases kb : k = 1
      · refine runH (P := P_q4b) (Q := QB) qH_w hM ch_q4b all_nil (aw0 := aw2) (aw := aw2) (fun g => by cases g) rfl (τ0 := [0, (k : Int)]) (σ := [0, (k : Int)]) rfl rfl (Nat.zero_le _) hcz (xt_refl _) ⟨eOK2_L ⟨⟨by decide, by decide⟩, ⟨by dsimp only; omega, by dsimp only; omega⟩, trivial⟩ rfl all_nil, hOK_nil hh2, lvOK_cons ⟨_, w01, y01⟩ lvOK_nil, ⟨vN ⟨(k : Int), rfl, Int.add_zero _⟩ (by omega), trivial⟩, a12⟩ (ag_refl _ _ _) all_nil ?_
        intro c3 hcc3 τ3 aw3 lw3 sw3 D3 x3 a13 a23 a33 a43 a53 a63
        have hcc3 := List.mem_singleton.mp hcc3
        subst hcc3
        match sw3, a63 with
        | [], _ =>
          obtain ⟨v03, w03, y03⟩ := a53 0 _ rfl
          have w03 : lget lw3 0 = some v03 := w03
          have hh3 := hOK_0 a33 a43 rfl
          obtain ⟨v13, w13, y13⟩ := a53 1 _ rfl
          have w13 : lget lw3 1 = some v13 := w13
          have i13 := (vI_of (x3 1 (k : Int) rfl) y13).2
          rw [Int.add_zero, eI_nat (by omega)] at i13
          rw [i13] at w13
          exact bu_loop1 hM hd hT hk hg pile.length pile rfl c w lw3 D3 aw3 a13 (agU_trans ha2 (agU_s (by rfl) (by rfl) a23)) (RS_0 hS2 hh3 a23 (by rfl)) (JJ_0 hJ2 a23 (by rfl)) hw ⟨_, w03, y03⟩ w13
      · have hkkb := kb
        by_cases kc : k = 2
        · refine runH (P := P_q4c) (Q := QB) qH_w hM ch_q4c all_nil (aw0 := aw2) (aw := aw2) (fun g => by cases g) rfl (τ0 := [0, (k : Int)]) (σ := [0, (k : Int)]) rfl rfl (Nat.zero_le _) hcz (xt_refl _) ⟨eOK2_L ⟨⟨by decide, by decide⟩, ⟨by dsimp only; omega, by dsimp only; omega⟩, trivial⟩ rfl all_nil, hOK_nil hh2, lvOK_cons ⟨_, w01, y01⟩ lvOK_nil, ⟨vN ⟨(k : Int), rfl, Int.add_zero _⟩ (by omega), trivial⟩, a12⟩ (ag_refl _ _ _) all_nil ?_
          intro c3 hcc3 τ3 aw3 lw3 sw3 D3 x3 a13 a23 a33 a43 a53 a63
          have hcc3 := List.mem_singleton.mp hcc3
          subst hcc3
          match sw3, a63 with
          | [], _ =>
            obtain ⟨v03, w03, y03⟩ := a53 0 _ rfl
            have w03 : lget lw3 0 = some v03 := w03
            have hh3 := hOK_0 a33 a43 rfl
            obtain ⟨v13, w13, y13⟩ := a53 1 _ rfl
            have w13 : lget lw3 1 = some v13 := w13
            have i13 := (vI_of (x3 1 (k : Int) rfl) y13).2
            rw [Int.add_zero, eI_nat (by omega)] at i13
            rw [i13] at w13
            exact bu_loop1 hM hd hT hk hg pile.length pile rfl c w lw3 D3 aw3 a13 (agU_trans ha2 (agU_s (by rfl) (by rfl) a23)) (RS_0 hS2 hh3 a23 (by rfl)) (JJ_0 hJ2 a23 (by rfl)) hw ⟨_, w03, y03⟩ w13
        · have hkkc := kc
          by_cases kd : 5 ≤ k
          · refine runH (P := P_q4d) (Q := QB) qH_w hM ch_q4d all_nil (aw0 := aw2) (aw := aw2) (fun g => by cases g) rfl (τ0 := [0, (k : Int)]) (σ := [0, (k : Int)]) rfl rfl (Nat.zero_le _) hcz (xt_refl _) ⟨eOK2_L ⟨⟨by decide, by decide⟩, ⟨by dsimp only; omega, by dsimp only; omega⟩, trivial⟩ rfl all_nil, hOK_nil hh2, lvOK_cons ⟨_, w01, y01⟩ lvOK_nil, ⟨vN ⟨(k : Int), rfl, Int.add_zero _⟩ (by omega), trivial⟩, a12⟩ (ag_refl _ _ _) all_nil ?_
            intro c3 hcc3 τ3 aw3 lw3 sw3 D3 x3 a13 a23 a33 a43 a53 a63
            have hcc3 := List.mem_singleton.mp hcc3
            subst hcc3
            match sw3, a63 with
            | [], _ =>
              obtain ⟨v03, w03, y03⟩ := a53 0 _ rfl
              have w03 : lget lw3 0 = some v03 := w03
              have hh3 := hOK_0 a33 a43 rfl
              obtain ⟨v13, w13, y13⟩ := a53 1 _ rfl
              have w13 : lget lw3 1 = some v13 := w13
              have i13 := (vI_of (x3 1 (k : Int) rfl) y13).2
              rw [Int.add_zero, eI_nat (by omega)] at i13
              rw [i13] at w13
              exact bu_loop1 hM hd hT hk hg pile.length pile rfl c w lw3 D3 aw3 a13 (agU_trans ha2 (agU_s (by rfl) (by rfl) a23)) (RS_0 hS2 hh3 a23 (by rfl)) (JJ_0 hJ2 a23 (by rfl)) hw ⟨_, w03, y03⟩ w13
          · have k4 : k = 4 := by omega
            refine runH (P := P_q4e) (Q := QB) qH_w hM ch_q4e all_nil (aw0 := aw2) (aw := aw2) (fun g => by cases g) rfl (τ0 := [0, (k : Int)]) (σ := [0, (k : Int)]) rfl rfl (Nat.zero_le _) hcz (xt_refl _) ⟨eOK2_L ⟨⟨by decide, by decide⟩, ⟨by dsimp only; omega, by dsimp only; omega⟩, trivial⟩ rfl all_nil, hOK_nil hh2, lvOK_cons ⟨_, w01, y01⟩ lvOK_nil, ⟨vN ⟨(k : Int), rfl, Int.add_zero _⟩ (by omega), trivial⟩, a12⟩ (ag_refl _ _ _) all_nil ?_
            intro c3 hcc3 τ3 aw3 lw3 sw3 D3 x3 a13 a23 a33 a43 a53 a63
            have hcc3 := List.mem_singleton.mp hcc3
            subst hcc3
            match sw3, a63 with
            | [p03], _ =>
              obtain ⟨v03, w03, y03⟩ := a53 0 _ rfl
              have w03 : lget lw3 0 = some v03 := w03
              have hh3 := hOK_0 a33 a43 rfl
              obtain ⟨v13, w13, y13⟩ := a53 1 _ rfl
              have w13 : lget lw3 1 = some v13 := w13
              have i13 := (vI_of (x3 1 (k : Int) rfl) y13).2
              rw [Int.add_zero, eI_nat (by omega)] at i13
              rw [i13] at w13
              obtain ⟨v23, w23, y23⟩ := a53 200 _ rfl
              have w23 : some p03 = some v23 := w23
              cases w23
              rw [refM y23]
              obtain ⟨q', q1', q2'⟩ := atM hh3
              obtain ⟨M2, n1, n2, n3, n4, n5⟩ : ∃ M2, mT 257 = some M2 ∧ mLoc M2 ≤ 80 ∧ mC M2 = 0 ∧ mS M2 = 0 ∧ 1 ≤ mLoc M2 := ⟨_, rfl, by decide +kernel, rfl, rfl, by decide +kernel⟩
              have hS3 := RS_0 hS2 hh3 a23 (by rfl)
              have hJ3 := JJ_0 hJ2 a23 (by rfl)
              have ha3 := agU_trans ha2 (agU_s (r := 1) (by rfl) (by rfl) a23)
              refine Ev_call (st_callv (mk_X12_behindUnit_11 hM) (As := []) rfl a13 q1' q2' (Nat.zero_le _)) n1 n5 n2 (by rw [n3]; exact hcz.1) (by rw [n4]; exact hcz.2) (isc_ok n1 (d := d) a13 hh3 hJ3.1 hJ3.2.1 hS3.2.2.2.2.2.2.2.2.2.1 (by omega) ⟨_, rfl, vM⟩) ?_
              rintro v D4 ⟨aw4, a14, a24, hh4, hv⟩
              rw [n3, n4]
              have hS4 := RS_0 hS3 hh4 a24 (by rfl)
              have hJ4 := JJ_0 hJ3 a24 (by rfl)
              have ha4 := agU_trans ha3 (agU_s (r := 1) (md := []) rfl rfl a24)
              rcases hv with hv | hv
              · subst hv
                change Ev L (d + 1) M (14, lw3, [.inl 0], D4, 0, 0) _
                refine runH (P := P_q14z) (Q := QB) qH_w hM ch_q14z all_nil (aw0 := aw4) (aw := aw4) (fun g => by cases g) rfl (τ0 := [0, (k : Int)]) (σ := [0, (k : Int)]) rfl rfl (Nat.zero_le _) hcz (xt_refl _) ⟨eOK2_L ⟨⟨by decide, by decide⟩, ⟨by dsimp only; omega, by dsimp only; omega⟩, trivial⟩ rfl all_nil, hOK_nil hh4, lvOK_cons ⟨_, w03, y03⟩ (lvOK_cons ⟨_, w13, vN ⟨(k : Int), rfl, Int.add_zero _⟩ (by omega)⟩ lvOK_nil), ⟨vI (y := 0) (z := 0) rfl (by decide) ⟨by decide, by decide⟩ (by decide), trivial⟩, a14⟩ (ag_refl _ _ _) all_nil ?_
                intro c5 hcc5 τ5 aw5 lw5 sw5 D5 x5 a15 a25 a35 a45 a55 a65
                have hcc5 := List.mem_singleton.mp hcc5
                subst hcc5
                match sw5, a65 with
                | [], _ =>
                  obtain ⟨v05, w05, y05⟩ := a55 0 _ rfl
                  have w05 : lget lw5 0 = some v05 := w05
                  have hh5 := hOK_0 a35 a45 rfl
                  obtain ⟨v15, w15, y15⟩ := a55 1 _ rfl
                  have w15 : lget lw5 1 = some v15 := w15
                  have i15 := (vI_of (x5 1 (k : Int) rfl) y15).2
                  rw [Int.add_zero, eI_nat (by omega)] at i15
                  rw [i15] at w15
                  exact bu_loop1 hM hd hT hk hg pile.length pile rfl c w lw5 D5 aw5 a15 (agU_trans ha4 (agU_s (by rfl) (by rfl) a25)) (RS_0 hS4 hh5 a25 (by rfl)) (JJ_0 hJ4 a25 (by rfl)) hw ⟨_, w05, y05⟩ w15
              · subst hv
                change Ev L (d + 1) M (14, lw3, [.inl 1], D4, 0, 0) _
                have hd2 : 2 ≤ d + 1 := by omega
                obtain ⟨hT1, hT2, hT3⟩ := hT
                generalize hpl : pile.length = p at *
                rcases hT1 with ⟨t0, t1, t2⟩ | ⟨t0, t1, t2⟩
                · subst t0
                  refine runH (P := P_m10) (Q := QB) qH_w hM ch_m10 all_nil (aw0 := aw4) (aw := aw4) (fun g => by cases g) rfl (τ0 := [0, (a : Int), (e : Int), (s : Int), (c : Int), (p : Int), (w : Int), (u : Int)]) (σ := [0, (a : Int), (e : Int), (s : Int), (c : Int), (p : Int), (w : Int), (u : Int)]) rfl rfl hd2 hcz (xt_refl _) ⟨eOK2_L ⟨⟨by decide, by decide⟩, ⟨by dsimp only; omega, by dsimp only; omega⟩, ⟨by dsimp only; omega, by dsimp only; omega⟩, ⟨by dsimp only; omega, by dsimp only; omega⟩, ⟨by dsimp only; omega, by dsimp only; omega⟩, ⟨by dsimp only; omega, by dsimp only; omega⟩, ⟨by dsimp only; omega, by dsimp only; omega⟩, ⟨by dsimp only; omega, by dsimp only; omega⟩, trivial⟩ rfl (all_cons ⟨(a : Int), (e : Int), rfl, rfl, by dsimp only; omega⟩ (all_cons ⟨(e : Int), (s : Int), rfl, rfl, by dsimp only; omega⟩ all_nil)), RS_C hS4 ⟨by omega, by omega, by omega, by omega, by omega, by omega, by omega, by omega, by omega⟩ ⟨(s : Int), rfl, Int.add_zero _⟩ ⟨0, rfl, rfl⟩ ⟨(a : Int), rfl, Int.add_zero _⟩ ⟨(e : Int), rfl, Int.add_zero _⟩ ⟨0, rfl, rfl⟩ ⟨0, rfl, rfl⟩ ⟨(c : Int), rfl, Int.add_zero _⟩ ⟨(w : Int), rfl, Int.add_zero _⟩ ⟨(p : Int), rfl, Int.add_zero _⟩ ⟨(u : Int), rfl, Int.add_zero _⟩, lvOK_cons ⟨_, w03, y03⟩ lvOK_nil, ⟨vI (y := 0) (z := 1) rfl (by decide) ⟨by decide, by decide⟩ (by decide), trivial⟩, a14⟩ (ag_refl _ _ _) ?_ all_nil
                  intro o ho τ1 aw' w' D' x1 a1 a2 a3 a4 a5
                  have ho := List.mem_singleton.mp ho
                  subst ho
                  obtain ⟨v, v1, v2⟩ := a5
                  have v3 := (vI_of (x1 0 0 rfl) v2).2
                  obtain ⟨f, f1, f2, f3⟩ := a3.2.2.1 8 _ rfl
                  have f2 : (1 : Int) ≤ f := f2
                  have f3 : f ≤ 4 := f3
                  have ef := eI_cast f
                  have g4 := (sl_of (j := 4) (i := 8) (o := 0) a4 (by decide +kernel : qH.2[211]? = some 53) (rfl : qH.1[53]? = some _) (by decide) rfl f1).2
                  have g35 := (sl_of (j := 35) (i := 4) (o := 0) a4 (by decide +kernel : qH.2[211]? = some 53) (rfl : qH.1[53]? = some _) (by decide) rfl (x1 4 (c : Int) rfl)).2
                  rw [Int.add_zero] at g4 g35
                  rw [eI_nat (by omega)] at g35
                  have j64 := (JJ_bound hJ4 hw).2.2.2.2.2
                  exact ⟨aw', a1, agU_trans ha4 (agU_s (by rfl) (by rfl) a2), Or.inl ⟨by rw [v1, v3]; rfl, hOK_0 a3 a4 rfl, eI f, c, by omega, by omega, g4, g35, j3, by omega, by rw [cd_ag a2 (Or.inr trivial) (by decide)]; exact j64⟩⟩
                · have tz := t0
                  refine runH (P := P_m11) (Q := QB) qH_w hM ch_m11 all_nil (aw0 := aw4) (aw := aw4) (fun g => by cases g) rfl (τ0 := [0, (a : Int), (e : Int), (s : Int), (c : Int), (p : Int), (w : Int), (u : Int), (t : Int)]) (σ := [0, (a : Int), (e : Int), (s : Int), (c : Int), (p : Int), (w : Int), (u : Int), (t : Int)]) rfl rfl hd2 hcz (xt_refl _) ⟨eOK2_L ⟨⟨by decide, by decide⟩, ⟨by dsimp only; omega, by dsimp only; omega⟩, ⟨by dsimp only; omega, by dsimp only; omega⟩, ⟨by dsimp only; omega, by dsimp only; omega⟩, ⟨by dsimp only; omega, by dsimp only; omega⟩, ⟨by dsimp only; omega, by dsimp only; omega⟩, ⟨by dsimp only; omega, by dsimp only; omega⟩, ⟨by dsimp only; omega, by dsimp only; omega⟩, ⟨by dsimp only; omega, by dsimp only; omega⟩, trivial⟩ rfl (all_cons ⟨(a : Int), (e : Int), rfl, rfl, by dsimp only; omega⟩ (all_cons ⟨(e : Int), (s : Int), rfl, rfl, by dsimp only; omega⟩ all_nil)), RS_C hS4 ⟨by omega, by omega, by omega, by omega, by omega, by omega, by omega, by omega, by omega⟩ ⟨(s : Int), rfl, Int.add_zero _⟩ ⟨0, rfl, rfl⟩ ⟨(a : Int), rfl, Int.add_zero _⟩ ⟨(e : Int), rfl, Int.add_zero _⟩ ⟨(t : Int), rfl, Int.add_zero _⟩ ⟨0, rfl, rfl⟩ ⟨(c : Int), rfl, Int.add_zero _⟩ ⟨(w : Int), rfl, Int.add_zero _⟩ ⟨(p : Int), rfl, Int.add_zero _⟩ ⟨(u : Int), rfl, Int.add_zero _⟩, lvOK_cons ⟨_, w03, y03⟩ lvOK_nil, ⟨vI (y := 0) (z := 1) rfl (by decide) ⟨by decide, by decide⟩ (by decide), trivial⟩, a14⟩ (ag_refl _ _ _) ?_ all_nil
                  intro o ho τ1 aw' w' D' x1 a1 a2 a3 a4 a5
                  have ho := List.mem_singleton.mp ho
                  subst ho
                  obtain ⟨v, v1, v2⟩ := a5
                  have v3 := (vI_of (x1 0 0 rfl) v2).2
                  obtain ⟨f, f1, f2, f3⟩ := a3.2.2.1 9 _ rfl
                  have f2 : (1 : Int) ≤ f := f2
                  have f3 : f ≤ 4 := f3
                  have ef := eI_cast f
                  have g4 := (sl_of (j := 4) (i := 9) (o := 0) a4 (by decide +kernel : qH.2[211]? = some 53) (rfl : qH.1[53]? = some _) (by decide) rfl f1).2
                  have g35 := (sl_of (j := 35) (i := 4) (o := 0) a4 (by decide +kernel : qH.2[211]? = some 53) (rfl : qH.1[53]? = some _) (by decide) rfl (x1 4 (c : Int) rfl)).2
                  rw [Int.add_zero] at g4 g35
                  rw [eI_nat (by omega)] at g35
                  have j64 := (JJ_bound hJ4 hw).2.2.2.2.2
                  exact ⟨aw', a1, agU_trans ha4 (agU_s (by rfl) (by rfl) a2), Or.inl ⟨by rw [v1, v3]; rfl, hOK_0 a3 a4 rfl, eI f, c, by omega, by omega, g4, g35, j3, by omega, by rw [cd_ag a2 (Or.inr trivial) (by decide)]; exact j64⟩⟩
