/-! by hand: what stands behind a unit -/
theorem RS_x {r : Nat} {md : List (Nat × Nat)} {aw aw' : List rC} {a e s t c p p' w w' u : Nat} (h : RS r aw a e s t c p w u) (hh : hOK qH [0] [] aw') (ha : ag qH md aw aw') (hm : mdsub md [(53, 36), (53, 37)] = true) (h36 : sl aw' 211 36 = some (.inl w')) (h37 : sl aw' 211 37 = some (.inl p')) : RS r aw' a e s t c p' w' u := by
  obtain ⟨g0, k3, k4, k6, k7, k8, k34, k35, k36, k37, k38⟩ := h
  have ha := ag_sub hm ha
  have key : ∀ j, mdin [(53, 36), (53, 37)] 53 j = false → sl aw' 211 j = sl aw 211 j := fun j hj => ha.2 211 53 j (by decide +kernel) hj
  exact ⟨hh, by rw [key 3 rfl]; exact k3, by rw [key 4 rfl]; exact k4, by rw [key 6 rfl]; exact k6, by rw [key 7 rfl]; exact k7, by rw [key 8 rfl]; exact k8, by rw [key 34 rfl]; exact k34, by rw [key 35 rfl]; exact k35, h36, h37, by rw [key 38 rfl]; exact k38⟩
theorem RS_0 {r : Nat} {md : List (Nat × Nat)} {aw aw' : List rC} {a e s t c p w u : Nat} (h : RS r aw a e s t c p w u) (hh : hOK qH [0] [] aw') (ha : ag qH md aw aw') (hm : mdsub md [] = true) : RS r aw' a e s t c p w u := RS_ag h hh (ag_sub hm ha) rfl
theorem JJ_0 {r : Nat} {b : Bool} {md : List (Nat × Nat)} {aw aw' : List rC} {c u wn : Nat} {pile : List (Nat × Nat)} (h : JJ r b aw c u wn pile) (ha : ag qH md aw aw') (hm : mdfree md [75, 76, 73] = true) : JJ r b aw' c u wn pile := JJ_ag h (fun j => ha.2 233 75 j (by decide +kernel) (mdfree_ok hm (by decide))) (fun j => ha.2 234 76 j (by decide +kernel) (mdfree_ok hm (by decide))) (fun j => ha.2 pCode 73 j (by decide +kernel) (mdfree_ok hm (by decide)))
abbrev PostB (r : Nat) (aw0 : List rC) (a s t : Nat) : Option rV → rD → Prop := fun v D' => ∃ aw', rep D' aw' ∧ agU r aw0 aw' ∧ OUTS r aw' v a s t
set_option maxHeartbeats 4000000 in
theorem op_tail0 {L : List Nat} {M : rM} (hM : mT 254 = some M) {d : Nat} (hd : 5 ≤ d + 1) {aw0 : List rC} {a e s t u k : Nat} (hT : tokOK a e s t) {c w g : Nat} {pile : List (Nat × Nat)} {lw1 : rK} {D1 : rD} {aw1 : List rC} {v0 : rV} (a11 : rep D1 aw1) (ha : agU 0 aw0 aw1) (hS : RS 0 aw1 a e s t c pile.length w u) (hJ : JJ 0 false aw1 c u w pile) (hw : w ≤ 7) (h0 : ∃ v, lget lw1 0 = some v ∧ vOK qH [] (.inr (.inr (some 53))) v) (ht : 1 ≤ t) (hk : k = 1 ∨ k = 2 ∨ k = 4 ∨ k = 5 ∨ k = 6) (hg : opc g) (hg2 : g ≤ 255) (hv0 : vOK qH [] (.inr (.inr (some 53))) v0) : Ev L (d + 1) M (138, lw1, [.inl g, .inl k, v0], D1, 0, 0) (PostB 0 aw0 a s t) := by
  obtain ⟨j1, j2, j3, j4, j5, j6⟩ := JJ_bound hJ hw
  have hcz : (0 : Nat) ≤ mC M ∧ (0 : Nat) ≤ mS M := ⟨Nat.zero_le _, Nat.zero_le _⟩
  refine ev_push (mk_X12_behindUnit_138 hM) hcz a11 hS.1 (by omega) (by omega) (by omega) hS.2.2.2.2.2.2.2.2.2.1 (Nat.zero_le _) hv0 (fun D2 aw2 b1 b2 b3 b4 b5 b6 => ?_)
  have hS2 := RS_37 hS b2 b3 b4
  have hJ2 := JJ_op (k := k) (g := g) hJ hk hg hg2 b5 b6 (fun j => b3.2 pCode 73 j (by decide +kernel) rfl)
  obtain ⟨hT1, hT2, hT3⟩ := hT
  have hT4 : t ≤ 5 ∧ a + 1 ≤ e := by rcases hT1 with q | q <;> omega
  have hlen : (pile ++ [(k, g)]).length = pile.length + 1 := by rw [List.length_append]; rfl
  generalize hpl : pile.length + 1 = p at *
  refine runH (P := P_g01) (Q := QB) qH_w hM ch_g01 (all_cons ho_2 all_nil) (aw0 := aw2) (aw := aw2) (fun g => by cases g) rfl (τ0 := [0, (a : Int), (e : Int), (s : Int), (c : Int), (p : Int), (w : Int), (u : Int), (t : Int)]) (σ := [0, (a : Int), (e : Int), (s : Int), (c : Int), (p : Int), (w : Int), (u : Int), (t : Int)]) rfl rfl (Nat.le_trans (by decide) hd) hcz (xt_refl _) ⟨eOK2_L ⟨⟨by decide, by decide⟩, ⟨by dsimp only; omega, by dsimp only; omega⟩, ⟨by dsimp only; omega, by dsimp only; omega⟩, ⟨by dsimp only; omega, by dsimp only; omega⟩, ⟨by dsimp only; omega, by dsimp only; omega⟩, ⟨by dsimp only; omega, by dsimp only; omega⟩, ⟨by dsimp only; omega, by dsimp only; omega⟩, ⟨by dsimp only; omega, by dsimp only; omega⟩, ⟨by dsimp only; omega, by dsimp only; omega⟩, trivial⟩ rfl (all_cons ⟨(a : Int), (e : Int), rfl, rfl, by dsimp only; omega⟩ (all_cons ⟨(e : Int), (s : Int), rfl, rfl, by dsimp only; omega⟩ all_nil)), RS_C hS2 ⟨by omega, by omega, by omega, by omega, by omega, by omega, by omega, by omega, by omega⟩ ⟨(s : Int), rfl, Int.add_zero _⟩ ⟨0, rfl, rfl⟩ ⟨(a : Int), rfl, Int.add_zero _⟩ ⟨(e : Int), rfl, Int.add_zero _⟩ ⟨(t : Int), rfl, Int.add_zero _⟩ ⟨0, rfl, rfl⟩ ⟨(c : Int), rfl, Int.add_zero _⟩ ⟨(w : Int), rfl, Int.add_zero _⟩ ⟨(p : Int), rfl, Int.add_zero _⟩ ⟨(u : Int), rfl, Int.add_zero _⟩, lvOK_cons h0 lvOK_nil, trivial, b1⟩ (ag_refl _ _ _) ?_ all_nil
  intro o ho τ1 aw' w' D' x1 a1 a2 a3 a4 a5
  rcases List.mem_cons.mp ho with ho | ho
  · subst ho
    obtain ⟨v, v1, v2⟩ := a5
    have v3 := (vI_of (x1 0 0 rfl) v2).2
    have hJ3 := JJ_0 hJ2 a2 (by rfl)
    have hS3 : RS 0 aw' s s s 0 c p (w) u := RS_of (hOK_0 a3 a4 rfl) a4 ⟨_, x1 3 (s : Int) rfl, Int.add_zero _⟩ ⟨0, x1 0 0 rfl, rfl⟩ ⟨_, x1 3 (s : Int) rfl, Int.add_zero _⟩ ⟨_, x1 3 (s : Int) rfl, Int.add_zero _⟩ ⟨0, x1 0 0 rfl, rfl⟩ ⟨0, x1 0 0 rfl, rfl⟩ ⟨_, x1 4 (c : Int) rfl, Int.add_zero _⟩ ⟨_, x1 6 (w : Int) rfl, Int.add_zero _⟩ ⟨_, x1 5 (p : Int) rfl, Int.add_zero _⟩ ⟨_, x1 7 (u : Int) rfl, Int.add_zero _⟩
    exact ⟨aw', a1, agU_trans ha (agU_trans (agU_s (by rfl) (by rfl) b3) (agU_s (by rfl) (by rfl) a2)), Or.inr (Or.inr (Or.inl ⟨by rw [v1, v3]; rfl, s, s, 0, c, w, u, _, by rw [hlen]; exact hS3, ⟨Or.inl ⟨rfl, rfl, rfl⟩, by omega, by omega⟩, hJ3, by omega, ht, by omega⟩))⟩
  have ho := List.mem_singleton.mp ho
  subst ho
  obtain ⟨v, v1, v2⟩ := a5
  have v3 := (vI_of (x1 0 0 rfl) v2).2
  have hJ3 := JJ_0 hJ2 a2 (by rfl)
  obtain ⟨t', q1, q2, q3⟩ := a3.2.2.1 9 _ rfl
  obtain ⟨a', q4, q5, q6⟩ := a3.2.2.1 10 _ rfl
  obtain ⟨e', q7, q8, q9⟩ := a3.2.2.1 11 _ rfl
  have q2 : (1 : Int) ≤ t' := q2
  have q3 : t' ≤ 5 := q3
  have q5 : (0 : Int) ≤ a' := q5
  have q6 : a' ≤ 1600 := q6
  have q8 : (0 : Int) ≤ e' := q8
  have q9 : e' ≤ 1600 := q9
  obtain ⟨u1, u2, u3, u4, u5⟩ := a3.2.2.2.1 (2, 10, 0) (List.mem_of_getElem? (i := 2) rfl)
  rw [x1 2 (e : Int) rfl] at u3
  cases u3
  rw [q4] at u4
  cases u4
  have u5 : (e : Int) + 0 ≤ a' := u5
  obtain ⟨m1, m2, m3, m4, m5⟩ := a3.2.2.2.1 (10, 11, 1) (List.mem_of_getElem? (i := 3) rfl)
  rw [q4] at m3
  cases m3
  rw [q7] at m4
  cases m4
  have m5 : a' + 1 ≤ e' := m5
  obtain ⟨n1, n2, n3, n4, n5⟩ := a3.2.2.2.1 (11, 3, 0) (List.mem_of_getElem? (i := 4) rfl)
  rw [q7] at n3
  cases n3
  rw [x1 3 (s : Int) rfl] at n4
  cases n4
  have n5 : e' + 0 ≤ (s : Int) := n5
  obtain ⟨tn, rfl⟩ : ∃ k : Nat, t' = (k : Int) := ⟨t'.toNat, by omega⟩
  obtain ⟨an, rfl⟩ : ∃ k : Nat, a' = (k : Int) := ⟨a'.toNat, by omega⟩
  obtain ⟨en, rfl⟩ : ∃ k : Nat, e' = (k : Int) := ⟨e'.toNat, by omega⟩
  have hS3 : RS 0 aw' an en s tn c p (w) u := RS_of (hOK_0 a3 a4 rfl) a4 ⟨_, x1 3 (s : Int) rfl, Int.add_zero _⟩ ⟨0, x1 0 0 rfl, rfl⟩ ⟨_, q4, Int.add_zero _⟩ ⟨_, q7, Int.add_zero _⟩ ⟨_, q1, Int.add_zero _⟩ ⟨0, x1 0 0 rfl, rfl⟩ ⟨_, x1 4 (c : Int) rfl, Int.add_zero _⟩ ⟨_, x1 6 (w : Int) rfl, Int.add_zero _⟩ ⟨_, x1 5 (p : Int) rfl, Int.add_zero _⟩ ⟨_, x1 7 (u : Int) rfl, Int.add_zero _⟩
  exact ⟨aw', a1, agU_trans ha (agU_trans (agU_s (by rfl) (by rfl) b3) (agU_s (by rfl) (by rfl) a2)), Or.inr (Or.inr (Or.inl ⟨by rw [v1, v3]; rfl, an, en, tn, c, w, u, _, by rw [hlen]; exact hS3, ⟨Or.inr ⟨by omega, by omega, by omega⟩, by omega, by omega⟩, hJ3, by omega, ht, by omega⟩))⟩
set_option maxHeartbeats 4000000 in
theorem close_tail0 {L : List Nat} {M : rM} (hM : mT 254 = some M) {d : Nat} (hd : 5 ≤ d + 1) {aw0 : List rC} {a e s t u k : Nat} (hT : tokOK a e s t) {c w : Nat} {pile : List (Nat × Nat)} {x : Nat × Nat} {lw1 : rK} {D1 : rD} {aw1 : List rC} {v0 : rV} {σ : List Int} (a11 : rep D1 aw1) (ha : agU 0 aw0 aw1) (hS : RS 0 aw1 a e s t c pile.length w u) (hJ : JJ 0 false aw1 c u w (pile ++ [x])) (hx : 7 ≤ x.1) (hw : w ≤ 7) (h0 : ∃ v, lget lw1 0 = some v ∧ vOK qH [] (.inr (.inr (some 53))) v) (hv0 : vOK qH σ (.inr (.inr (some 75))) v0) : Ev L (d + 1) M (165, lw1, [.inl pile.length, v0], D1, 0, 0) (PostB 0 aw0 a s t) := by
  obtain ⟨j1, j2, j3, j4, j5, j6⟩ := JJ_bound hJ hw
  have hcz : (0 : Nat) ≤ mC M ∧ (0 : Nat) ≤ mS M := ⟨Nat.zero_le _, Nat.zero_le _⟩
  have htop := PL_top hJ.1
  have hll : (pile ++ [x]).length = pile.length + 1 := by rw [List.length_append]; rfl
  rw [hll] at j1
  refine ev_ald (mt_X12_behindUnit_165 hM) (by decide +kernel : qH.2[233]? = some 75) (rfl : qH.1[75]? = some (14, 90, some 233, [.inl (0, 8)])) a11 hS.1 htop.1 (by omega) hv0 ?_
  obtain ⟨hT1, hT2, hT3⟩ := hT
  by_cases h7 : x.1 = 7
  · obtain ⟨hJ2, hw1⟩ := JJ_close hJ h7
    rw [h7]
    generalize hpl : pile.length = p at *
    rcases hT1 with ⟨t0, t1, t2⟩ | ⟨t0, t1, t2⟩
    · subst t0
      refine runH (P := P_x700) (Q := QB) qH_w hM ch_x700 all_nil (aw0 := aw1) (aw := aw1) (fun g => by cases g) rfl (τ0 := [0, (a : Int), (e : Int), (s : Int), (c : Int), (p : Int), (w : Int), (u : Int)]) (σ := [0, (a : Int), (e : Int), (s : Int), (c : Int), (p : Int), (w : Int), (u : Int)]) rfl rfl (Nat.le_trans (by decide) hd) hcz (xt_refl _) ⟨eOK2_L ⟨⟨by decide, by decide⟩, ⟨by dsimp only; omega, by dsimp only; omega⟩, ⟨by dsimp only; omega, by dsimp only; omega⟩, ⟨by dsimp only; omega, by dsimp only; omega⟩, ⟨by dsimp only; omega, by dsimp only; omega⟩, ⟨by dsimp only; omega, by dsimp only; omega⟩, ⟨by dsimp only; omega, by dsimp only; omega⟩, ⟨by dsimp only; omega, by dsimp only; omega⟩, trivial⟩ rfl (all_cons ⟨(a : Int), (e : Int), rfl, rfl, by dsimp only; omega⟩ (all_cons ⟨(e : Int), (s : Int), rfl, rfl, by dsimp only; omega⟩ all_nil)), RS_C hS ⟨by omega, by omega, by omega, by omega, by omega, by omega, by omega, by omega, by omega⟩ ⟨(s : Int), rfl, Int.add_zero _⟩ ⟨0, rfl, rfl⟩ ⟨(a : Int), rfl, Int.add_zero _⟩ ⟨(e : Int), rfl, Int.add_zero _⟩ ⟨0, rfl, rfl⟩ ⟨0, rfl, rfl⟩ ⟨(c : Int), rfl, Int.add_zero _⟩ ⟨(w : Int), rfl, Int.add_zero _⟩ ⟨(p : Int), rfl, Int.add_zero _⟩ ⟨(u : Int), rfl, Int.add_zero _⟩, lvOK_cons h0 lvOK_nil, ⟨vI (y := 0) (z := 7) rfl (by decide) ⟨by decide, by decide⟩ (by decide), trivial⟩, a11⟩ (ag_refl _ _ _) ?_ all_nil
      intro o ho τ1 aw' w' D' x1 a1 a2 a3 a4 a5
      have ho := List.mem_singleton.mp ho
      subst ho
      obtain ⟨v, v1, v2⟩ := a5
      have v3 := (vI_of (x1 0 0 rfl) v2).2
      obtain ⟨f, f1, f2, f3⟩ := a3.2.2.1 8 _ rfl
      have f2 : (1 : Int) ≤ f := f2
      have f3 : f ≤ 4 := f3
      have ef := eI_cast f
      have g4 := (sl_of (j := 4) (i := 8) (o := 0) a4 (by decide +kernel : qH.2[211]? = some 53) (rfl : qH.1[53]? = some _) (by decide) rfl f1).2
      have g35 := (sl_of (j := 35) (i := 4) (o := 0) a4 (by decide +kernel : qH.2[211]? = some 53) (rfl : qH.1[53]? = some _) (by decide) rfl (x1 4 (c : Int) rfl)).2
      rw [Int.add_zero] at g4 g35
      rw [eI_nat (by omega)] at g35
      exact ⟨aw', a1, agU_trans ha (agU_s (by rfl) (by rfl) a2), Or.inr (Or.inl ⟨by rw [v1, v3]; rfl, hOK_0 a3 a4 rfl, eI f, c, by omega, by omega, g4, g35, j3, by omega, by rw [cd_ag a2 (Or.inr trivial) (by decide)]; exact j6⟩)⟩
    · refine runH (P := P_x701) (Q := QB) qH_w hM ch_x701 (all_cons ho_2 all_nil) (aw0 := aw1) (aw := aw1) (fun g => by cases g) rfl (τ0 := [0, (a : Int), (e : Int), (s : Int), (c : Int), (p : Int), (w : Int), (u : Int), (t : Int)]) (σ := [0, (a : Int), (e : Int), (s : Int), (c : Int), (p : Int), (w : Int), (u : Int), (t : Int)]) rfl rfl (Nat.le_trans (by decide) hd) hcz (xt_refl _) ⟨eOK2_L ⟨⟨by decide, by decide⟩, ⟨by dsimp only; omega, by dsimp only; omega⟩, ⟨by dsimp only; omega, by dsimp only; omega⟩, ⟨by dsimp only; omega, by dsimp only; omega⟩, ⟨by dsimp only; omega, by dsimp only; omega⟩, ⟨by dsimp only; omega, by dsimp only; omega⟩, ⟨by dsimp only; omega, by dsimp only; omega⟩, ⟨by dsimp only; omega, by dsimp only; omega⟩, ⟨by dsimp only; omega, by dsimp only; omega⟩, trivial⟩ rfl (all_cons ⟨(a : Int), (e : Int), rfl, rfl, by dsimp only; omega⟩ (all_cons ⟨(e : Int), (s : Int), rfl, rfl, by dsimp only; omega⟩ all_nil)), RS_C hS ⟨by omega, by omega, by omega, by omega, by omega, by omega, by omega, by omega, by omega⟩ ⟨(s : Int), rfl, Int.add_zero _⟩ ⟨0, rfl, rfl⟩ ⟨(a : Int), rfl, Int.add_zero _⟩ ⟨(e : Int), rfl, Int.add_zero _⟩ ⟨(t : Int), rfl, Int.add_zero _⟩ ⟨0, rfl, rfl⟩ ⟨(c : Int), rfl, Int.add_zero _⟩ ⟨(w : Int), rfl, Int.add_zero _⟩ ⟨(p : Int), rfl, Int.add_zero _⟩ ⟨(u : Int), rfl, Int.add_zero _⟩, lvOK_cons h0 lvOK_nil, ⟨vI (y := 0) (z := 7) rfl (by decide) ⟨by decide, by decide⟩ (by decide), trivial⟩, a11⟩ (ag_refl _ _ _) ?_ all_nil
      intro o ho τ1 aw' w' D' x1 a1 a2 a3 a4 a5
      rcases List.mem_cons.mp ho with ho | ho
      · subst ho
        obtain ⟨v, v1, v2⟩ := a5
        have v3 := (vI_of (x1 0 0 rfl) v2).2
        obtain ⟨f, f1, f2, f3⟩ := a3.2.2.1 9 _ rfl
        have f2 : (1 : Int) ≤ f := f2
        have f3 : f ≤ 4 := f3
        have ef := eI_cast f
        have g4 := (sl_of (j := 4) (i := 9) (o := 0) a4 (by decide +kernel : qH.2[211]? = some 53) (rfl : qH.1[53]? = some _) (by decide) rfl f1).2
        have g35 := (sl_of (j := 35) (i := 4) (o := 0) a4 (by decide +kernel : qH.2[211]? = some 53) (rfl : qH.1[53]? = some _) (by decide) rfl (x1 4 (c : Int) rfl)).2
        rw [Int.add_zero] at g4 g35
        rw [eI_nat (by omega)] at g35
        exact ⟨aw', a1, agU_trans ha (agU_s (by rfl) (by rfl) a2), Or.inr (Or.inl ⟨by rw [v1, v3]; rfl, hOK_0 a3 a4 rfl, eI f, c, by omega, by omega, g4, g35, j3, by omega, by rw [cd_ag a2 (Or.inr trivial) (by decide)]; exact j6⟩)⟩
      have ht := t0
      rcases List.mem_cons.mp ho with ho | ho
      · subst ho
        obtain ⟨v, v1, v2⟩ := a5
        have v3 := (vI_of (x1 0 0 rfl) v2).2
        have hJ3 := JJ_0 hJ2 a2 (by rfl)
        have hS3 : RS 0 aw' s s s 0 c p (w - 1) u := RS_of (hOK_0 a3 a4 rfl) a4 ⟨_, x1 3 (s : Int) rfl, Int.add_zero _⟩ ⟨0, x1 0 0 rfl, rfl⟩ ⟨_, x1 3 (s : Int) rfl, Int.add_zero _⟩ ⟨_, x1 3 (s : Int) rfl, Int.add_zero _⟩ ⟨0, x1 0 0 rfl, rfl⟩ ⟨0, x1 0 0 rfl, rfl⟩ ⟨_, x1 4 (c : Int) rfl, Int.add_zero _⟩ ⟨_, x1 6 (w : Int) rfl, by omega⟩ ⟨_, x1 5 (p : Int) rfl, Int.add_zero _⟩ ⟨_, x1 7 (u : Int) rfl, Int.add_zero _⟩
        exact ⟨aw', a1, agU_trans ha (agU_s (by rfl) (by rfl) a2), Or.inr (Or.inr (Or.inr (Or.inl ⟨by rw [v1, v3]; rfl, s, s, 0, c, w - 1, u, pile, by rw [hpl]; exact hS3, ⟨Or.inl ⟨rfl, rfl, rfl⟩, by omega, by omega⟩, hJ3, by omega, ht, by omega⟩)))⟩
      have ho := List.mem_singleton.mp ho
      subst ho
      obtain ⟨v, v1, v2⟩ := a5
      have v3 := (vI_of (x1 0 0 rfl) v2).2
      have hJ3 := JJ_0 hJ2 a2 (by rfl)
      obtain ⟨t', q1, q2, q3⟩ := a3.2.2.1 9 _ rfl
      obtain ⟨a', q4, q5, q6⟩ := a3.2.2.1 10 _ rfl
      obtain ⟨e', q7, q8, q9⟩ := a3.2.2.1 11 _ rfl
      have q2 : (1 : Int) ≤ t' := q2
      have q3 : t' ≤ 5 := q3
      have q5 : (0 : Int) ≤ a' := q5
      have q6 : a' ≤ 1600 := q6
      have q8 : (0 : Int) ≤ e' := q8
      have q9 : e' ≤ 1600 := q9
      obtain ⟨u1, u2, u3, u4, u5⟩ := a3.2.2.2.1 (2, 10, 0) (List.mem_of_getElem? (i := 2) rfl)
      rw [x1 2 (e : Int) rfl] at u3
      cases u3
      rw [q4] at u4
      cases u4
      have u5 : (e : Int) + 0 ≤ a' := u5
      obtain ⟨m1, m2, m3, m4, m5⟩ := a3.2.2.2.1 (10, 11, 1) (List.mem_of_getElem? (i := 3) rfl)
      rw [q4] at m3
      cases m3
      rw [q7] at m4
      cases m4
      have m5 : a' + 1 ≤ e' := m5
      obtain ⟨n1, n2, n3, n4, n5⟩ := a3.2.2.2.1 (11, 3, 0) (List.mem_of_getElem? (i := 4) rfl)
      rw [q7] at n3
      cases n3
      rw [x1 3 (s : Int) rfl] at n4
      cases n4
      have n5 : e' + 0 ≤ (s : Int) := n5
      obtain ⟨tn, rfl⟩ : ∃ k : Nat, t' = (k : Int) := ⟨t'.toNat, by omega⟩
      obtain ⟨an, rfl⟩ : ∃ k : Nat, a' = (k : Int) := ⟨a'.toNat, by omega⟩
      obtain ⟨en, rfl⟩ : ∃ k : Nat, e' = (k : Int) := ⟨e'.toNat, by omega⟩
      have hS3 : RS 0 aw' an en s tn c p (w - 1) u := RS_of (hOK_0 a3 a4 rfl) a4 ⟨_, x1 3 (s : Int) rfl, Int.add_zero _⟩ ⟨0, x1 0 0 rfl, rfl⟩ ⟨_, q4, Int.add_zero _⟩ ⟨_, q7, Int.add_zero _⟩ ⟨_, q1, Int.add_zero _⟩ ⟨0, x1 0 0 rfl, rfl⟩ ⟨_, x1 4 (c : Int) rfl, Int.add_zero _⟩ ⟨_, x1 6 (w : Int) rfl, by omega⟩ ⟨_, x1 5 (p : Int) rfl, Int.add_zero _⟩ ⟨_, x1 7 (u : Int) rfl, Int.add_zero _⟩
      exact ⟨aw', a1, agU_trans ha (agU_s (by rfl) (by rfl) a2), Or.inr (Or.inr (Or.inr (Or.inl ⟨by rw [v1, v3]; rfl, an, en, tn, c, w - 1, u, pile, by rw [hpl]; exact hS3, ⟨Or.inr ⟨by omega, by omega, by omega⟩, by omega, by omega⟩, hJ3, by omega, ht, by omega⟩)))⟩
  · have h8 : x.1 = 8 ∧ pile = [] := by
      obtain ⟨s0, rest, h1, h2⟩ := hJ.2.1
      cases pile with
      | nil =>
        simp at h1
        exact ⟨by rw [h1.1], rfl⟩
      | cons y z =>
        have h1 : y :: (z ++ [x]) = (8, s0) :: rest := h1
        injection h1 with e1 e2
        have := (pe_pos (h2 x (by rw [← e2]; exact List.mem_append_right _ List.mem_cons_self))).1
        omega
    obtain ⟨h81, h82⟩ := h8
    rw [h81]
    have hpl : pile.length = 0 := by rw [h82]; rfl
    generalize pile.length = p at *
    rcases hT1 with ⟨t0, t1, t2⟩ | ⟨t0, t1, t2⟩
    · subst t0
      refine runH (P := P_x800) (Q := QB) qH_w hM ch_x800 all_nil (aw0 := aw1) (aw := aw1) (fun g => by cases g) rfl (τ0 := [0, (a : Int), (e : Int), (s : Int), (c : Int), (p : Int), (w : Int), (u : Int)]) (σ := [0, (a : Int), (e : Int), (s : Int), (c : Int), (p : Int), (w : Int), (u : Int)]) rfl rfl (Nat.zero_le _) hcz (xt_refl _) ⟨eOK2_L ⟨⟨by decide, by decide⟩, ⟨by dsimp only; omega, by dsimp only; omega⟩, ⟨by dsimp only; omega, by dsimp only; omega⟩, ⟨by dsimp only; omega, by dsimp only; omega⟩, ⟨by dsimp only; omega, by dsimp only; omega⟩, ⟨by dsimp only; omega, by dsimp only; omega⟩, ⟨by dsimp only; omega, by dsimp only; omega⟩, ⟨by dsimp only; omega, by dsimp only; omega⟩, trivial⟩ rfl (all_cons ⟨(a : Int), (e : Int), rfl, rfl, by dsimp only; omega⟩ (all_cons ⟨(e : Int), (s : Int), rfl, rfl, by dsimp only; omega⟩ all_nil)), RS_C hS ⟨by omega, by omega, by omega, by omega, by omega, by omega, by omega, by omega, by omega⟩ ⟨(s : Int), rfl, Int.add_zero _⟩ ⟨0, rfl, rfl⟩ ⟨(a : Int), rfl, Int.add_zero _⟩ ⟨(e : Int), rfl, Int.add_zero _⟩ ⟨0, rfl, rfl⟩ ⟨0, rfl, rfl⟩ ⟨(c : Int), rfl, Int.add_zero _⟩ ⟨(w : Int), rfl, Int.add_zero _⟩ ⟨(p : Int), rfl, Int.add_zero _⟩ ⟨(u : Int), rfl, Int.add_zero _⟩, lvOK_cons h0 lvOK_nil, ⟨vI (y := 0) (z := 8) rfl (by decide) ⟨by decide, by decide⟩ (by decide), trivial⟩, a11⟩ (ag_refl _ _ _) ?_ all_nil
      intro o ho τ1 aw' w' D' x1 a1 a2 a3 a4 a5
      have ho := List.mem_singleton.mp ho
      subst ho
      obtain ⟨v, v1, v2⟩ := a5
      have v3 := (vI_of (x1 0 0 rfl) v2).2
      have hS3 : RS 0 aw' a e s 0 c p w u := RS_of (hOK_0 a3 a4 rfl) a4 ⟨_, x1 3 (s : Int) rfl, Int.add_zero _⟩ ⟨0, x1 0 0 rfl, rfl⟩ ⟨_, x1 1 (a : Int) rfl, Int.add_zero _⟩ ⟨_, x1 2 (e : Int) rfl, Int.add_zero _⟩ ⟨0, x1 0 0 rfl, rfl⟩ ⟨0, x1 0 0 rfl, rfl⟩ ⟨_, x1 4 (c : Int) rfl, Int.add_zero _⟩ ⟨_, x1 6 (w : Int) rfl, Int.add_zero _⟩ ⟨_, x1 5 (p : Int) rfl, Int.add_zero _⟩ ⟨_, x1 7 (u : Int) rfl, Int.add_zero _⟩
      rw [hpl] at hS3
      exact ⟨aw', a1, agU_trans ha (agU_s (by rfl) (by rfl) a2), Or.inr (Or.inr (Or.inr (Or.inr ⟨by rw [v1, v3]; rfl, a, e, 0, c, w, u, hS3, ⟨Or.inl ⟨rfl, t1, t2⟩, hT2, hT3⟩, Nat.le_refl a, j3, by omega, by rw [cd_ag a2 (Or.inr trivial) (by decide)]; exact j6⟩)))⟩
    · refine runH (P := P_x801) (Q := QB) qH_w hM ch_x801 all_nil (aw0 := aw1) (aw := aw1) (fun g => by cases g) rfl (τ0 := [0, (a : Int), (e : Int), (s : Int), (c : Int), (p : Int), (w : Int), (u : Int), (t : Int)]) (σ := [0, (a : Int), (e : Int), (s : Int), (c : Int), (p : Int), (w : Int), (u : Int), (t : Int)]) rfl rfl (Nat.zero_le _) hcz (xt_refl _) ⟨eOK2_L ⟨⟨by decide, by decide⟩, ⟨by dsimp only; omega, by dsimp only; omega⟩, ⟨by dsimp only; omega, by dsimp only; omega⟩, ⟨by dsimp only; omega, by dsimp only; omega⟩, ⟨by dsimp only; omega, by dsimp only; omega⟩, ⟨by dsimp only; omega, by dsimp only; omega⟩, ⟨by dsimp only; omega, by dsimp only; omega⟩, ⟨by dsimp only; omega, by dsimp only; omega⟩, ⟨by dsimp only; omega, by dsimp only; omega⟩, trivial⟩ rfl (all_cons ⟨(a : Int), (e : Int), rfl, rfl, by dsimp only; omega⟩ (all_cons ⟨(e : Int), (s : Int), rfl, rfl, by dsimp only; omega⟩ all_nil)), RS_C hS ⟨by omega, by omega, by omega, by omega, by omega, by omega, by omega, by omega, by omega⟩ ⟨(s : Int), rfl, Int.add_zero _⟩ ⟨0, rfl, rfl⟩ ⟨(a : Int), rfl, Int.add_zero _⟩ ⟨(e : Int), rfl, Int.add_zero _⟩ ⟨(t : Int), rfl, Int.add_zero _⟩ ⟨0, rfl, rfl⟩ ⟨(c : Int), rfl, Int.add_zero _⟩ ⟨(w : Int), rfl, Int.add_zero _⟩ ⟨(p : Int), rfl, Int.add_zero _⟩ ⟨(u : Int), rfl, Int.add_zero _⟩, lvOK_cons h0 lvOK_nil, ⟨vI (y := 0) (z := 8) rfl (by decide) ⟨by decide, by decide⟩ (by decide), trivial⟩, a11⟩ (ag_refl _ _ _) ?_ all_nil
      intro o ho τ1 aw' w' D' x1 a1 a2 a3 a4 a5
      have ho := List.mem_singleton.mp ho
      subst ho
      obtain ⟨v, v1, v2⟩ := a5
      have v3 := (vI_of (x1 0 0 rfl) v2).2
      have hS3 : RS 0 aw' a e s t c p w u := RS_of (hOK_0 a3 a4 rfl) a4 ⟨_, x1 3 (s : Int) rfl, Int.add_zero _⟩ ⟨0, x1 0 0 rfl, rfl⟩ ⟨_, x1 1 (a : Int) rfl, Int.add_zero _⟩ ⟨_, x1 2 (e : Int) rfl, Int.add_zero _⟩ ⟨_, x1 8 (t : Int) rfl, Int.add_zero _⟩ ⟨0, x1 0 0 rfl, rfl⟩ ⟨_, x1 4 (c : Int) rfl, Int.add_zero _⟩ ⟨_, x1 6 (w : Int) rfl, Int.add_zero _⟩ ⟨_, x1 5 (p : Int) rfl, Int.add_zero _⟩ ⟨_, x1 7 (u : Int) rfl, Int.add_zero _⟩
      rw [hpl] at hS3
      exact ⟨aw', a1, agU_trans ha (agU_s (by rfl) (by rfl) a2), Or.inr (Or.inr (Or.inr (Or.inr ⟨by rw [v1, v3]; rfl, a, e, t, c, w, u, hS3, ⟨Or.inr ⟨t0, t1, t2⟩, hT2, hT3⟩, Nat.le_refl a, j3, by omega, by rw [cd_ag a2 (Or.inr trivial) (by decide)]; exact j6⟩)))⟩
set_option maxHeartbeats 4000000 in
theorem op_tail1 {L : List Nat} {M : rM} (hM : mT 254 = some M) {d : Nat} (hd : 5 ≤ d + 1) {aw0 : List rC} {a e s t u k : Nat} (hT : tokOK a e s t) {c w g : Nat} {pile : List (Nat × Nat)} {lw1 : rK} {D1 : rD} {aw1 : List rC} {v0 : rV} (a11 : rep D1 aw1) (ha : agU 1 aw0 aw1) (hS : RS 1 aw1 a e s t c pile.length w u) (hJ : JJ 1 false aw1 c u w pile) (hw : w ≤ 7) (h0 : ∃ v, lget lw1 0 = some v ∧ vOK qH [] (.inr (.inr (some 53))) v) (ht : 1 ≤ t) (hk : k = 1 ∨ k = 2 ∨ k = 4 ∨ k = 5 ∨ k = 6) (hg : opc g) (hg2 : g ≤ 255) (hv0 : vOK qH [] (.inr (.inr (some 53))) v0) : Ev L (d + 1) M (138, lw1, [.inl g, .inl k, v0], D1, 0, 0) (PostB 1 aw0 a s t) := by
  obtain ⟨j1, j2, j3, j4, j5, j6⟩ := JJ_bound hJ hw
  have hcz : (0 : Nat) ≤ mC M ∧ (0 : Nat) ≤ mS M := ⟨Nat.zero_le _, Nat.zero_le _⟩
  refine ev_push (mk_X12_behindUnit_138 hM) hcz a11 hS.1 (by omega) (by omega) (by omega) hS.2.2.2.2.2.2.2.2.2.1 (Nat.zero_le _) hv0 (fun D2 aw2 b1 b2 b3 b4 b5 b6 => ?_)
  have hS2 := RS_37 hS b2 b3 b4
  have hJ2 := JJ_op (k := k) (g := g) hJ hk hg hg2 b5 b6 (fun j => b3.2 pCode 73 j (by decide +kernel) rfl)
  obtain ⟨hT1, hT2, hT3⟩ := hT
  have hT4 : t ≤ 5 ∧ a + 1 ≤ e := by rcases hT1 with q | q <;> omega
  have hlen : (pile ++ [(k, g)]).length = pile.length + 1 := by rw [List.length_append]; rfl
  generalize hpl : pile.length + 1 = p at *
  refine runH (P := P_g11) (Q := QB) qH_w hM ch_g11 (all_cons ho_2 all_nil) (aw0 := aw2) (aw := aw2) (fun g => by cases g) rfl (τ0 := [0, (a : Int), (e : Int), (s : Int), (c : Int), (p : Int), (w : Int), (u : Int), (t : Int)]) (σ := [0, (a : Int), (e : Int), (s : Int), (c : Int), (p : Int), (w : Int), (u : Int), (t : Int)]) rfl rfl (Nat.le_trans (by decide) hd) hcz (xt_refl _) ⟨eOK2_L ⟨⟨by decide, by decide⟩, ⟨by dsimp only; omega, by dsimp only; omega⟩, ⟨by dsimp only; omega, by dsimp only; omega⟩, ⟨by dsimp only; omega, by dsimp only; omega⟩, ⟨by dsimp only; omega, by dsimp only; omega⟩, ⟨by dsimp only; omega, by dsimp only; omega⟩, ⟨by dsimp only; omega, by dsimp only; omega⟩, ⟨by dsimp only; omega, by dsimp only; omega⟩, ⟨by dsimp only; omega, by dsimp only; omega⟩, trivial⟩ rfl (all_cons ⟨(a : Int), (e : Int), rfl, rfl, by dsimp only; omega⟩ (all_cons ⟨(e : Int), (s : Int), rfl, rfl, by dsimp only; omega⟩ all_nil)), RS_C hS2 ⟨by omega, by omega, by omega, by omega, by omega, by omega, by omega, by omega, by omega⟩ ⟨(s : Int), rfl, Int.add_zero _⟩ ⟨0, rfl, rfl⟩ ⟨(a : Int), rfl, Int.add_zero _⟩ ⟨(e : Int), rfl, Int.add_zero _⟩ ⟨(t : Int), rfl, Int.add_zero _⟩ ⟨0, rfl, rfl⟩ ⟨(c : Int), rfl, Int.add_zero _⟩ ⟨(w : Int), rfl, Int.add_zero _⟩ ⟨(p : Int), rfl, Int.add_zero _⟩ ⟨(u : Int), rfl, Int.add_zero _⟩, lvOK_cons h0 lvOK_nil, trivial, b1⟩ (ag_refl _ _ _) ?_ all_nil
  intro o ho τ1 aw' w' D' x1 a1 a2 a3 a4 a5
  rcases List.mem_cons.mp ho with ho | ho
  · subst ho
    obtain ⟨v, v1, v2⟩ := a5
    have v3 := (vI_of (x1 0 0 rfl) v2).2
    have hJ3 := JJ_0 hJ2 a2 (by rfl)
    have hS3 : RS 1 aw' s s s 0 c p (w) u := RS_of (hOK_0 a3 a4 rfl) a4 ⟨_, x1 3 (s : Int) rfl, Int.add_zero _⟩ ⟨0, x1 0 0 rfl, rfl⟩ ⟨_, x1 3 (s : Int) rfl, Int.add_zero _⟩ ⟨_, x1 3 (s : Int) rfl, Int.add_zero _⟩ ⟨0, x1 0 0 rfl, rfl⟩ ⟨0, x1 0 0 rfl, rfl⟩ ⟨_, x1 4 (c : Int) rfl, Int.add_zero _⟩ ⟨_, x1 6 (w : Int) rfl, Int.add_zero _⟩ ⟨_, x1 5 (p : Int) rfl, Int.add_zero _⟩ ⟨_, x1 7 (u : Int) rfl, Int.add_zero _⟩
    exact ⟨aw', a1, agU_trans ha (agU_trans (agU_s (by rfl) (by rfl) b3) (agU_s (by rfl) (by rfl) a2)), Or.inr (Or.inr (Or.inl ⟨by rw [v1, v3]; rfl, s, s, 0, c, w, u, _, by rw [hlen]; exact hS3, ⟨Or.inl ⟨rfl, rfl, rfl⟩, by omega, by omega⟩, hJ3, by omega, ht, by omega⟩))⟩
  have ho := List.mem_singleton.mp ho
  subst ho
  obtain ⟨v, v1, v2⟩ := a5
  have v3 := (vI_of (x1 0 0 rfl) v2).2
  have hJ3 := JJ_0 hJ2 a2 (by rfl)
  obtain ⟨t', q1, q2, q3⟩ := a3.2.2.1 9 _ rfl
  obtain ⟨a', q4, q5, q6⟩ := a3.2.2.1 10 _ rfl
  obtain ⟨e', q7, q8, q9⟩ := a3.2.2.1 11 _ rfl
  have q2 : (1 : Int) ≤ t' := q2
  have q3 : t' ≤ 5 := q3
  have q5 : (0 : Int) ≤ a' := q5
  have q6 : a' ≤ 1600 := q6
  have q8 : (0 : Int) ≤ e' := q8
  have q9 : e' ≤ 1600 := q9
  obtain ⟨u1, u2, u3, u4, u5⟩ := a3.2.2.2.1 (2, 10, 0) (List.mem_of_getElem? (i := 2) rfl)
  rw [x1 2 (e : Int) rfl] at u3
  cases u3
  rw [q4] at u4
  cases u4
  have u5 : (e : Int) + 0 ≤ a' := u5
  obtain ⟨m1, m2, m3, m4, m5⟩ := a3.2.2.2.1 (10, 11, 1) (List.mem_of_getElem? (i := 3) rfl)
  rw [q4] at m3
  cases m3
  rw [q7] at m4
  cases m4
  have m5 : a' + 1 ≤ e' := m5
  obtain ⟨n1, n2, n3, n4, n5⟩ := a3.2.2.2.1 (11, 3, 0) (List.mem_of_getElem? (i := 4) rfl)
  rw [q7] at n3
  cases n3
  rw [x1 3 (s : Int) rfl] at n4
  cases n4
  have n5 : e' + 0 ≤ (s : Int) := n5
  obtain ⟨tn, rfl⟩ : ∃ k : Nat, t' = (k : Int) := ⟨t'.toNat, by omega⟩
  obtain ⟨an, rfl⟩ : ∃ k : Nat, a' = (k : Int) := ⟨a'.toNat, by omega⟩
  obtain ⟨en, rfl⟩ : ∃ k : Nat, e' = (k : Int) := ⟨e'.toNat, by omega⟩
  have hS3 : RS 1 aw' an en s tn c p (w) u := RS_of (hOK_0 a3 a4 rfl) a4 ⟨_, x1 3 (s : Int) rfl, Int.add_zero _⟩ ⟨0, x1 0 0 rfl, rfl⟩ ⟨_, q4, Int.add_zero _⟩ ⟨_, q7, Int.add_zero _⟩ ⟨_, q1, Int.add_zero _⟩ ⟨0, x1 0 0 rfl, rfl⟩ ⟨_, x1 4 (c : Int) rfl, Int.add_zero _⟩ ⟨_, x1 6 (w : Int) rfl, Int.add_zero _⟩ ⟨_, x1 5 (p : Int) rfl, Int.add_zero _⟩ ⟨_, x1 7 (u : Int) rfl, Int.add_zero _⟩
  exact ⟨aw', a1, agU_trans ha (agU_trans (agU_s (by rfl) (by rfl) b3) (agU_s (by rfl) (by rfl) a2)), Or.inr (Or.inr (Or.inl ⟨by rw [v1, v3]; rfl, an, en, tn, c, w, u, _, by rw [hlen]; exact hS3, ⟨Or.inr ⟨by omega, by omega, by omega⟩, by omega, by omega⟩, hJ3, by omega, ht, by omega⟩))⟩
set_option maxHeartbeats 4000000 in
theorem close_tail1 {L : List Nat} {M : rM} (hM : mT 254 = some M) {d : Nat} (hd : 5 ≤ d + 1) {aw0 : List rC} {a e s t u k : Nat} (hT : tokOK a e s t) {c w : Nat} {pile : List (Nat × Nat)} {x : Nat × Nat} {lw1 : rK} {D1 : rD} {aw1 : List rC} {v0 : rV} {σ : List Int} (a11 : rep D1 aw1) (ha : agU 1 aw0 aw1) (hS : RS 1 aw1 a e s t c pile.length w u) (hJ : JJ 1 false aw1 c u w (pile ++ [x])) (hx : 7 ≤ x.1) (hw : w ≤ 7) (h0 : ∃ v, lget lw1 0 = some v ∧ vOK qH [] (.inr (.inr (some 53))) v) (hv0 : vOK qH σ (.inr (.inr (some 75))) v0) : Ev L (d + 1) M (165, lw1, [.inl pile.length, v0], D1, 0, 0) (PostB 1 aw0 a s t) := by
  obtain ⟨j1, j2, j3, j4, j5, j6⟩ := JJ_bound hJ hw
  have hcz : (0 : Nat) ≤ mC M ∧ (0 : Nat) ≤ mS M := ⟨Nat.zero_le _, Nat.zero_le _⟩
  have htop := PL_top hJ.1
  have hll : (pile ++ [x]).length = pile.length + 1 := by rw [List.length_append]; rfl
  rw [hll] at j1
  refine ev_ald (mt_X12_behindUnit_165 hM) (by decide +kernel : qH.2[233]? = some 75) (rfl : qH.1[75]? = some (14, 90, some 233, [.inl (0, 8)])) a11 hS.1 htop.1 (by omega) hv0 ?_
  obtain ⟨hT1, hT2, hT3⟩ := hT
  by_cases h7 : x.1 = 7
  · obtain ⟨hJ2, hw1⟩ := JJ_close hJ h7
    rw [h7]
    generalize hpl : pile.length = p at *
    rcases hT1 with ⟨t0, t1, t2⟩ | ⟨t0, t1, t2⟩
    · subst t0
      refine runH (P := P_x710) (Q := QB) qH_w hM ch_x710 all_nil (aw0 := aw1) (aw := aw1) (fun g => by cases g) rfl (τ0 := [0, (a : Int), (e : Int), (s : Int), (c : Int), (p : Int), (w : Int), (u : Int)]) (σ := [0, (a : Int), (e : Int), (s : Int), (c : Int), (p : Int), (w : Int), (u : Int)]) rfl rfl (Nat.le_trans (by decide) hd) hcz (xt_refl _) ⟨eOK2_L ⟨⟨by decide, by decide⟩, ⟨by dsimp only; omega, by dsimp only; omega⟩, ⟨by dsimp only; omega, by dsimp only; omega⟩, ⟨by dsimp only; omega, by dsimp only; omega⟩, ⟨by dsimp only; omega, by dsimp only; omega⟩, ⟨by dsimp only; omega, by dsimp only; omega⟩, ⟨by dsimp only; omega, by dsimp only; omega⟩, ⟨by dsimp only; omega, by dsimp only; omega⟩, trivial⟩ rfl (all_cons ⟨(a : Int), (e : Int), rfl, rfl, by dsimp only; omega⟩ (all_cons ⟨(e : Int), (s : Int), rfl, rfl, by dsimp only; omega⟩ all_nil)), RS_C hS ⟨by omega, by omega, by omega, by omega, by omega, by omega, by omega, by omega, by omega⟩ ⟨(s : Int), rfl, Int.add_zero _⟩ ⟨0, rfl, rfl⟩ ⟨(a : Int), rfl, Int.add_zero _⟩ ⟨(e : Int), rfl, Int.add_zero _⟩ ⟨0, rfl, rfl⟩ ⟨0, rfl, rfl⟩ ⟨(c : Int), rfl, Int.add_zero _⟩ ⟨(w : Int), rfl, Int.add_zero _⟩ ⟨(p : Int), rfl, Int.add_zero _⟩ ⟨(u : Int), rfl, Int.add_zero _⟩, lvOK_cons h0 lvOK_nil, ⟨vI (y := 0) (z := 7) rfl (by decide) ⟨by decide, by decide⟩ (by decide), trivial⟩, a11⟩ (ag_refl _ _ _) ?_ all_nil
      intro o ho τ1 aw' w' D' x1 a1 a2 a3 a4 a5
      have ho := List.mem_singleton.mp ho
      subst ho
      obtain ⟨v, v1, v2⟩ := a5
      have v3 := (vI_of (x1 0 0 rfl) v2).2
      obtain ⟨f, f1, f2, f3⟩ := a3.2.2.1 8 _ rfl
      have f2 : (1 : Int) ≤ f := f2
      have f3 : f ≤ 4 := f3
      have ef := eI_cast f
      have g4 := (sl_of (j := 4) (i := 8) (o := 0) a4 (by decide +kernel : qH.2[211]? = some 53) (rfl : qH.1[53]? = some _) (by decide) rfl f1).2
      have g35 := (sl_of (j := 35) (i := 4) (o := 0) a4 (by decide +kernel : qH.2[211]? = some 53) (rfl : qH.1[53]? = some _) (by decide) rfl (x1 4 (c : Int) rfl)).2
      rw [Int.add_zero] at g4 g35
      rw [eI_nat (by omega)] at g35
      exact ⟨aw', a1, agU_trans ha (agU_s (by rfl) (by rfl) a2), Or.inr (Or.inl ⟨by rw [v1, v3]; rfl, hOK_0 a3 a4 rfl, eI f, c, by omega, by omega, g4, g35, j3, by omega, by rw [cd_ag a2 (Or.inr trivial) (by decide)]; exact j6⟩)⟩
    · refine runH (P := P_x711) (Q := QB) qH_w hM ch_x711 (all_cons ho_2 all_nil) (aw0 := aw1) (aw := aw1) (fun g => by cases g) rfl (τ0 := [0, (a : Int), (e : Int), (s : Int), (c : Int), (p : Int), (w : Int), (u : Int), (t : Int)]) (σ := [0, (a : Int), (e : Int), (s : Int), (c : Int), (p : Int), (w : Int), (u : Int), (t : Int)]) rfl rfl (Nat.le_trans (by decide) hd) hcz (xt_refl _) ⟨eOK2_L ⟨⟨by decide, by decide⟩, ⟨by dsimp only; omega, by dsimp only; omega⟩, ⟨by dsimp only; omega, by dsimp only; omega⟩, ⟨by dsimp only; omega, by dsimp only; omega⟩, ⟨by dsimp only; omega, by dsimp only; omega⟩, ⟨by dsimp only; omega, by dsimp only; omega⟩, ⟨by dsimp only; omega, by dsimp only; omega⟩, ⟨by dsimp only; omega, by dsimp only; omega⟩, ⟨by dsimp only; omega, by dsimp only; omega⟩, trivial⟩ rfl (all_cons ⟨(a : Int), (e : Int), rfl, rfl, by dsimp only; omega⟩ (all_cons ⟨(e : Int), (s : Int), rfl, rfl, by dsimp only; omega⟩ all_nil)), RS_C hS ⟨by omega, by omega, by omega, by omega, by omega, by omega, by omega, by omega, by omega⟩ ⟨(s : Int), rfl, Int.add_zero _⟩ ⟨0, rfl, rfl⟩ ⟨(a : Int), rfl, Int.add_zero _⟩ ⟨(e : Int), rfl, Int.add_zero _⟩ ⟨(t : Int), rfl, Int.add_zero _⟩ ⟨0, rfl, rfl⟩ ⟨(c : Int), rfl, Int.add_zero _⟩ ⟨(w : Int), rfl, Int.add_zero _⟩ ⟨(p : Int), rfl, Int.add_zero _⟩ ⟨(u : Int), rfl, Int.add_zero _⟩, lvOK_cons h0 lvOK_nil, ⟨vI (y := 0) (z := 7) rfl (by decide) ⟨by decide, by decide⟩ (by decide), trivial⟩, a11⟩ (ag_refl _ _ _) ?_ all_nil
      intro o ho τ1 aw' w' D' x1 a1 a2 a3 a4 a5
      rcases List.mem_cons.mp ho with ho | ho
      · subst ho
        obtain ⟨v, v1, v2⟩ := a5
        have v3 := (vI_of (x1 0 0 rfl) v2).2
        obtain ⟨f, f1, f2, f3⟩ := a3.2.2.1 9 _ rfl
        have f2 : (1 : Int) ≤ f := f2
        have f3 : f ≤ 4 := f3
        have ef := eI_cast f
        have g4 := (sl_of (j := 4) (i := 9) (o := 0) a4 (by decide +kernel : qH.2[211]? = some 53) (rfl : qH.1[53]? = some _) (by decide) rfl f1).2
        have g35 := (sl_of (j := 35) (i := 4) (o := 0) a4 (by decide +kernel : qH.2[211]? = some 53) (rfl : qH.1[53]? = some _) (by decide) rfl (x1 4 (c : Int) rfl)).2
        rw [Int.add_zero] at g4 g35
        rw [eI_nat (by omega)] at g35
        exact ⟨aw', a1, agU_trans ha (agU_s (by rfl) (by rfl) a2), Or.inr (Or.inl ⟨by rw [v1, v3]; rfl, hOK_0 a3 a4 rfl, eI f, c, by omega, by omega, g4, g35, j3, by omega, by rw [cd_ag a2 (Or.inr trivial) (by decide)]; exact j6⟩)⟩
      have ht := t0
      rcases List.mem_cons.mp ho with ho | ho
      · subst ho
        obtain ⟨v, v1, v2⟩ := a5
        have v3 := (vI_of (x1 0 0 rfl) v2).2
        have hJ3 := JJ_0 hJ2 a2 (by rfl)
        have hS3 : RS 1 aw' s s s 0 c p (w - 1) u := RS_of (hOK_0 a3 a4 rfl) a4 ⟨_, x1 3 (s : Int) rfl, Int.add_zero _⟩ ⟨0, x1 0 0 rfl, rfl⟩ ⟨_, x1 3 (s : Int) rfl, Int.add_zero _⟩ ⟨_, x1 3 (s : Int) rfl, Int.add_zero _⟩ ⟨0, x1 0 0 rfl, rfl⟩ ⟨0, x1 0 0 rfl, rfl⟩ ⟨_, x1 4 (c : Int) rfl, Int.add_zero _⟩ ⟨_, x1 6 (w : Int) rfl, by omega⟩ ⟨_, x1 5 (p : Int) rfl, Int.add_zero _⟩ ⟨_, x1 7 (u : Int) rfl, Int.add_zero _⟩
        exact ⟨aw', a1, agU_trans ha (agU_s (by rfl) (by rfl) a2), Or.inr (Or.inr (Or.inr (Or.inl ⟨by rw [v1, v3]; rfl, s, s, 0, c, w - 1, u, pile, by rw [hpl]; exact hS3, ⟨Or.inl ⟨rfl, rfl, rfl⟩, by omega, by omega⟩, hJ3, by omega, ht, by omega⟩)))⟩
      have ho := List.mem_singleton.mp ho
      subst ho
      obtain ⟨v, v1, v2⟩ := a5
      have v3 := (vI_of (x1 0 0 rfl) v2).2
      have hJ3 := JJ_0 hJ2 a2 (by rfl)
      obtain ⟨t', q1, q2, q3⟩ := a3.2.2.1 9 _ rfl
      obtain ⟨a', q4, q5, q6⟩ := a3.2.2.1 10 _ rfl
      obtain ⟨e', q7, q8, q9⟩ := a3.2.2.1 11 _ rfl
      have q2 : (1 : Int) ≤ t' := q2
      have q3 : t' ≤ 5 := q3
      have q5 : (0 : Int) ≤ a' := q5
      have q6 : a' ≤ 1600 := q6
      have q8 : (0 : Int) ≤ e' := q8
      have q9 : e' ≤ 1600 := q9
      obtain ⟨u1, u2, u3, u4, u5⟩ := a3.2.2.2.1 (2, 10, 0) (List.mem_of_getElem? (i := 2) rfl)
      rw [x1 2 (e : Int) rfl] at u3
      cases u3
      rw [q4] at u4
      cases u4
      have u5 : (e : Int) + 0 ≤ a' := u5
      obtain ⟨m1, m2, m3, m4, m5⟩ := a3.2.2.2.1 (10, 11, 1) (List.mem_of_getElem? (i := 3) rfl)
      rw [q4] at m3
      cases m3
      rw [q7] at m4
      cases m4
      have m5 : a' + 1 ≤ e' := m5
      obtain ⟨n1, n2, n3, n4, n5⟩ := a3.2.2.2.1 (11, 3, 0) (List.mem_of_getElem? (i := 4) rfl)
      rw [q7] at n3
      cases n3
      rw [x1 3 (s : Int) rfl] at n4
      cases n4
      have n5 : e' + 0 ≤ (s : Int) := n5
      obtain ⟨tn, rfl⟩ : ∃ k : Nat, t' = (k : Int) := ⟨t'.toNat, by omega⟩
      obtain ⟨an, rfl⟩ : ∃ k : Nat, a' = (k : Int) := ⟨a'.toNat, by omega⟩
      obtain ⟨en, rfl⟩ : ∃ k : Nat, e' = (k : Int) := ⟨e'.toNat, by omega⟩
      have hS3 : RS 1 aw' an en s tn c p (w - 1) u := RS_of (hOK_0 a3 a4 rfl) a4 ⟨_, x1 3 (s : Int) rfl, Int.add_zero _⟩ ⟨0, x1 0 0 rfl, rfl⟩ ⟨_, q4, Int.add_zero _⟩ ⟨_, q7, Int.add_zero _⟩ ⟨_, q1, Int.add_zero _⟩ ⟨0, x1 0 0 rfl, rfl⟩ ⟨_, x1 4 (c : Int) rfl, Int.add_zero _⟩ ⟨_, x1 6 (w : Int) rfl, by omega⟩ ⟨_, x1 5 (p : Int) rfl, Int.add_zero _⟩ ⟨_, x1 7 (u : Int) rfl, Int.add_zero _⟩
      exact ⟨aw', a1, agU_trans ha (agU_s (by rfl) (by rfl) a2), Or.inr (Or.inr (Or.inr (Or.inl ⟨by rw [v1, v3]; rfl, an, en, tn, c, w - 1, u, pile, by rw [hpl]; exact hS3, ⟨Or.inr ⟨by omega, by omega, by omega⟩, by omega, by omega⟩, hJ3, by omega, ht, by omega⟩)))⟩
  · have h8 : x.1 = 8 ∧ pile = [] := by
      obtain ⟨s0, rest, h1, h2⟩ := hJ.2.1
      cases pile with
      | nil =>
        simp at h1
        exact ⟨by rw [h1.1], rfl⟩
      | cons y z =>
        have h1 : y :: (z ++ [x]) = (8, s0) :: rest := h1
        injection h1 with e1 e2
        have := (pe_pos (h2 x (by rw [← e2]; exact List.mem_append_right _ List.mem_cons_self))).1
        omega
    obtain ⟨h81, h82⟩ := h8
    rw [h81]
    have hpl : pile.length = 0 := by rw [h82]; rfl
    generalize pile.length = p at *
    rcases hT1 with ⟨t0, t1, t2⟩ | ⟨t0, t1, t2⟩
    · subst t0
      refine runH (P := P_x810) (Q := QB) qH_w hM ch_x810 all_nil (aw0 := aw1) (aw := aw1) (fun g => by cases g) rfl (τ0 := [0, (a : Int), (e : Int), (s : Int), (c : Int), (p : Int), (w : Int), (u : Int)]) (σ := [0, (a : Int), (e : Int), (s : Int), (c : Int), (p : Int), (w : Int), (u : Int)]) rfl rfl (Nat.zero_le _) hcz (xt_refl _) ⟨eOK2_L ⟨⟨by decide, by decide⟩, ⟨by dsimp only; omega, by dsimp only; omega⟩, ⟨by dsimp only; omega, by dsimp only; omega⟩, ⟨by dsimp only; omega, by dsimp only; omega⟩, ⟨by dsimp only; omega, by dsimp only; omega⟩, ⟨by dsimp only; omega, by dsimp only; omega⟩, ⟨by dsimp only; omega, by dsimp only; omega⟩, ⟨by dsimp only; omega, by dsimp only; omega⟩, trivial⟩ rfl (all_cons ⟨(a : Int), (e : Int), rfl, rfl, by dsimp only; omega⟩ (all_cons ⟨(e : Int), (s : Int), rfl, rfl, by dsimp only; omega⟩ all_nil)), RS_C hS ⟨by omega, by omega, by omega, by omega, by omega, by omega, by omega, by omega, by omega⟩ ⟨(s : Int), rfl, Int.add_zero _⟩ ⟨0, rfl, rfl⟩ ⟨(a : Int), rfl, Int.add_zero _⟩ ⟨(e : Int), rfl, Int.add_zero _⟩ ⟨0, rfl, rfl⟩ ⟨0, rfl, rfl⟩ ⟨(c : Int), rfl, Int.add_zero _⟩ ⟨(w : Int), rfl, Int.add_zero _⟩ ⟨(p : Int), rfl, Int.add_zero _⟩ ⟨(u : Int), rfl, Int.add_zero _⟩, lvOK_cons h0 lvOK_nil, ⟨vI (y := 0) (z := 8) rfl (by decide) ⟨by decide, by decide⟩ (by decide), trivial⟩, a11⟩ (ag_refl _ _ _) ?_ all_nil
      intro o ho τ1 aw' w' D' x1 a1 a2 a3 a4 a5
      have ho := List.mem_singleton.mp ho
      subst ho
      obtain ⟨v, v1, v2⟩ := a5
      have v3 := (vI_of (x1 0 0 rfl) v2).2
      have hS3 : RS 1 aw' a e s 0 c p w u := RS_of (hOK_0 a3 a4 rfl) a4 ⟨_, x1 3 (s : Int) rfl, Int.add_zero _⟩ ⟨0, x1 0 0 rfl, rfl⟩ ⟨_, x1 1 (a : Int) rfl, Int.add_zero _⟩ ⟨_, x1 2 (e : Int) rfl, Int.add_zero _⟩ ⟨0, x1 0 0 rfl, rfl⟩ ⟨0, x1 0 0 rfl, rfl⟩ ⟨_, x1 4 (c : Int) rfl, Int.add_zero _⟩ ⟨_, x1 6 (w : Int) rfl, Int.add_zero _⟩ ⟨_, x1 5 (p : Int) rfl, Int.add_zero _⟩ ⟨_, x1 7 (u : Int) rfl, Int.add_zero _⟩
      rw [hpl] at hS3
      exact ⟨aw', a1, agU_trans ha (agU_s (by rfl) (by rfl) a2), Or.inr (Or.inr (Or.inr (Or.inr ⟨by rw [v1, v3]; rfl, a, e, 0, c, w, u, hS3, ⟨Or.inl ⟨rfl, t1, t2⟩, hT2, hT3⟩, Nat.le_refl a, j3, by omega, by rw [cd_ag a2 (Or.inr trivial) (by decide)]; exact j6⟩)))⟩
    · refine runH (P := P_x811) (Q := QB) qH_w hM ch_x811 all_nil (aw0 := aw1) (aw := aw1) (fun g => by cases g) rfl (τ0 := [0, (a : Int), (e : Int), (s : Int), (c : Int), (p : Int), (w : Int), (u : Int), (t : Int)]) (σ := [0, (a : Int), (e : Int), (s : Int), (c : Int), (p : Int), (w : Int), (u : Int), (t : Int)]) rfl rfl (Nat.zero_le _) hcz (xt_refl _) ⟨eOK2_L ⟨⟨by decide, by decide⟩, ⟨by dsimp only; omega, by dsimp only; omega⟩, ⟨by dsimp only; omega, by dsimp only; omega⟩, ⟨by dsimp only; omega, by dsimp only; omega⟩, ⟨by dsimp only; omega, by dsimp only; omega⟩, ⟨by dsimp only; omega, by dsimp only; omega⟩, ⟨by dsimp only; omega, by dsimp only; omega⟩, ⟨by dsimp only; omega, by dsimp only; omega⟩, ⟨by dsimp only; omega, by dsimp only; omega⟩, trivial⟩ rfl (all_cons ⟨(a : Int), (e : Int), rfl, rfl, by dsimp only; omega⟩ (all_cons ⟨(e : Int), (s : Int), rfl, rfl, by dsimp only; omega⟩ all_nil)), RS_C hS ⟨by omega, by omega, by omega, by omega, by omega, by omega, by omega, by omega, by omega⟩ ⟨(s : Int), rfl, Int.add_zero _⟩ ⟨0, rfl, rfl⟩ ⟨(a : Int), rfl, Int.add_zero _⟩ ⟨(e : Int), rfl, Int.add_zero _⟩ ⟨(t : Int), rfl, Int.add_zero _⟩ ⟨0, rfl, rfl⟩ ⟨(c : Int), rfl, Int.add_zero _⟩ ⟨(w : Int), rfl, Int.add_zero _⟩ ⟨(p : Int), rfl, Int.add_zero _⟩ ⟨(u : Int), rfl, Int.add_zero _⟩, lvOK_cons h0 lvOK_nil, ⟨vI (y := 0) (z := 8) rfl (by decide) ⟨by decide, by decide⟩ (by decide), trivial⟩, a11⟩ (ag_refl _ _ _) ?_ all_nil
      intro o ho τ1 aw' w' D' x1 a1 a2 a3 a4 a5
      have ho := List.mem_singleton.mp ho
      subst ho
      obtain ⟨v, v1, v2⟩ := a5
      have v3 := (vI_of (x1 0 0 rfl) v2).2
      have hS3 : RS 1 aw' a e s t c p w u := RS_of (hOK_0 a3 a4 rfl) a4 ⟨_, x1 3 (s : Int) rfl, Int.add_zero _⟩ ⟨0, x1 0 0 rfl, rfl⟩ ⟨_, x1 1 (a : Int) rfl, Int.add_zero _⟩ ⟨_, x1 2 (e : Int) rfl, Int.add_zero _⟩ ⟨_, x1 8 (t : Int) rfl, Int.add_zero _⟩ ⟨0, x1 0 0 rfl, rfl⟩ ⟨_, x1 4 (c : Int) rfl, Int.add_zero _⟩ ⟨_, x1 6 (w : Int) rfl, Int.add_zero _⟩ ⟨_, x1 5 (p : Int) rfl, Int.add_zero _⟩ ⟨_, x1 7 (u : Int) rfl, Int.add_zero _⟩
      rw [hpl] at hS3
      exact ⟨aw', a1, agU_trans ha (agU_s (by rfl) (by rfl) a2), Or.inr (Or.inr (Or.inr (Or.inr ⟨by rw [v1, v3]; rfl, a, e, t, c, w, u, hS3, ⟨Or.inr ⟨t0, t1, t2⟩, hT2, hT3⟩, Nat.le_refl a, j3, by omega, by rw [cd_ag a2 (Or.inr trivial) (by decide)]; exact j6⟩)))⟩
