/-! by hand: a rule is read, and what stands in the banks -/
theorem slI {aw : List rC} (hh : hOK qH [0] [] aw) {j : Nat} {K : qKd} {s : qR} (hK : qH.1[53]? = some K) (hj : j < K.2.1) (hs : sdAt K j = some (.inl s)) : ∃ n, sl aw 211 j = some (.inl n) := by
  obtain ⟨q, v, q1, q2, q3, q4, q5, q6⟩ := hOK_get hh (by decide +kernel : qH.2[211]? = some 53) hK hj
  unfold slOK at q6
  rw [show kf ([] : qC) 211 j = none from rfl] at q6
  obtain ⟨sd, e1, e2⟩ := q6
  rw [hs] at e1
  cases e1
  obtain ⟨z, z1, _⟩ := e2
  exact ⟨_, by rw [q5, z1]⟩
theorem ev_ast {L : List Nat} {M : rM} {pc p κ len k x : Nat} {s : qR} (hm : mTab M pc = some (.iastore, 1)) (hp : qH.2[p]? = some κ) (hK : qH.1[κ]? = some (14, len, some p, [.inl s])) (h9 : mdin [(κ, 9999)] κ 9999 = true) {lw : rK} {r : List rV} {D : rD} {aw : List rC} {c z d : Nat} (hr : rep D aw) (hh : hOK qH [0] [] aw) (hk : k < len) (hk2 : k ≤ 2147483647) (hx : x ≤ 2147483647) (hx1 : s.1 ≤ (x : Int)) (hx2 : (x : Int) ≤ s.2) {v0 : rV} {σ : List Int} (hv0 : vOK qH σ (.inr (.inr (some κ))) v0) {Post : Option rV → rD → Prop} (kk : ∀ D' aw', rep D' aw' → hOK qH [0] [] aw' → ag qH [(κ, 9999)] aw aw' → (∀ j, sl aw' p j = if j = k then some (.inl x) else sl aw p j) → Ev L d M (Nat.add pc 1, lw, r, D', c, z) Post) : Ev L d M (pc, lw, .inl x :: .inl k :: v0 :: r, D, c, z) Post := by
  obtain ⟨pp, h1, h2⟩ := hv0
  have hpp : pp = p := qH_w κ _ p hK rfl pp h2
  subst hpp
  subst h1
  obtain ⟨q, q1, q2, q3, q4⟩ := hOK_at hh hp hK
  have hqc : aw[pp]? = some (14, q.2) := by rw [q1]; congr 1; exact Prod.ext q2 rfl
  have hlen : k < q.2.length := by rw [q3]; exact hk
  obtain ⟨D2, r2, hst⟩ := st_iast (L := L) (v := x) (r := r) (lw := lw) (c := c) (z := z) hm hr hqc hlen hk2
  refine Ev_step hst (kk D2 _ r2 ?_ ?_ ?_)
  · have := hOK_el (n := k) hh hqc hp hK rfl (z := (x : Int)) ⟨by omega, by omega⟩ hx1 hx2
    rw [eI_nat (by omega)] at this
    exact this
  · exact ag_set hqc hp (fun j hj => by rw [show mdin [(κ, 9999)] κ j = true from mdin_all h9] at hj; cases hj)
  · intro j
    rw [sl_set (x := .inl x) hqc hlen]
    by_cases e : j = k
    · rw [if_pos ⟨rfl, e⟩, if_pos e]
    · rw [if_neg (fun h => e h.2), if_neg e]
theorem RS_u {r : Nat} {md : List (Nat × Nat)} {aw aw' : List rC} {a e s t c p w u u' : Nat} (h : RS r aw a e s t c p w u) (hh : hOK qH [0] [] aw') (ha : ag qH md aw aw') (hm : mdsub md [(53, 38)] = true) (h38 : sl aw' 211 38 = some (.inl u')) : RS r aw' a e s t c p w u' := by
  obtain ⟨g0, k3, k4, k6, k7, k8, k34, k35, k36, k37, k38⟩ := h
  have ha := ag_sub hm ha
  have key : ∀ j, mdin [(53, 38)] 53 j = false → sl aw' 211 j = sl aw 211 j := fun j hj => ha.2 211 53 j (by decide +kernel) hj
  exact ⟨hh, by rw [key 3 rfl]; exact k3, by rw [key 4 rfl]; exact k4, by rw [key 6 rfl]; exact k6, by rw [key 7 rfl]; exact k7, by rw [key 8 rfl]; exact k8, by rw [key 34 rfl]; exact k34, by rw [key 35 rfl]; exact k35, by rw [key 36 rfl]; exact k36, by rw [key 37 rfl]; exact k37, h38⟩
theorem cd_eq {aw aw' : List rC} (h : ∀ j, sl aw' pCode j = sl aw pCode j) : cd aw' = cd aw := by
  funext j
  unfold cd
  rw [h]
def MDR : List (Nat × Nat) := ct_3.2.2.2.1
/-- how a reading ends -/
def ENDS (aw' : List rC) (a s : Nat) : Prop := (∃ f, 1 ≤ f ∧ f ≤ 4 ∧ sl aw' 211 4 = some (.inl f)) ∨ ∃ a' e' t', tokOK a' e' s t' ∧ a ≤ a' ∧ sl aw' 211 4 = some (.inl 0) ∧ sl aw' 211 6 = some (.inl a') ∧ sl aw' 211 7 = some (.inl e') ∧ sl aw' 211 8 = some (.inl t')
set_option maxHeartbeats 4000000 in
theorem rr_ok0 {L : List Nat} {M : rM} (hM : mT 252 = some M) {d : Nat} (hd : 7 ≤ d + 1) {Aw : List rV} {D0 : rD} {aw0 : List rC} {a e s t : Nat} (a10 : rep D0 aw0) (hh0 : hOK qH [0] [] aw0) (k3 : sl aw0 211 3 = some (.inl s)) (k4 : sl aw0 211 4 = some (.inl 0)) (k6 : sl aw0 211 6 = some (.inl a)) (k7 : sl aw0 211 7 = some (.inl e)) (k8 : sl aw0 211 8 = some (.inl t)) (k34 : sl aw0 211 34 = some (.inl 0)) (k35 : sl aw0 211 35 = some (.inl 0)) (hT : tokW a e s t) (h0 : ∃ v, lget (argsL Aw 0) 0 = some v ∧ vOK qH [] (.inr (.inr (some 53))) v) (h1 : lget (argsL Aw 0) 1 = some (.inl 0)) (hq : QB aw0) : Ev L (d + 1) M (0, argsL Aw 0, [], D0, 0, 0) (fun v D' => v = none ∧ ∃ aw', rep D' aw' ∧ ag qH MDR aw0 aw' ∧ QB aw' ∧ hOK qH [0] [] aw' ∧ ENDS aw' a s) := by
  have hcz : (0 : Nat) ≤ mC M ∧ (0 : Nat) ≤ mS M := ⟨Nat.zero_le _, Nat.zero_le _⟩
  obtain ⟨v00, w00, y00⟩ := h0
  obtain ⟨w, k36⟩ := slI hh0 (j := 36) (rfl : qH.1[53]? = some _) (by decide) (by rfl)
  obtain ⟨p, k37⟩ := slI hh0 (j := 37) (rfl : qH.1[53]? = some _) (by decide) (by rfl)
  obtain ⟨u, k38⟩ := slI hh0 (j := 38) (rfl : qH.1[53]? = some _) (by decide) (by rfl)
  have hS0 : RS 0 aw0 a e s t 0 p w u := ⟨hh0, k3, k4, k6, k7, k8, k34, k35, k36, k37, k38⟩
  refine runH (P := P_rr00) (Q := QB) qH_w hM ch_rr00 all_nil (aw0 := aw0) (aw := aw0) (fun g => by cases g) rfl (τ0 := [0, 0]) (σ := [0, 0]) rfl rfl (Nat.zero_le _) hcz (xt_refl _) ⟨eOK2_L ⟨⟨by decide, by decide⟩, ⟨by decide, by decide⟩, trivial⟩ rfl all_nil, hOK_mk hh0 (all_cons ⟨_, k34, vI (y := 0) (z := 0) rfl (by decide) ⟨by decide, by decide⟩ (by decide)⟩ (all_cons ⟨_, k35, vN ⟨0, rfl, by decide⟩ (by decide)⟩ all_nil)), lvOK_cons ⟨_, w00, y00⟩ (lvOK_cons ⟨_, h1, vI (y := 0) (z := 0) rfl (by decide) ⟨by decide, by decide⟩ (by decide)⟩ lvOK_nil), trivial, a10⟩ (ag_refl _ _ _) all_nil ?_
  intro c1 hcc1 τ1 aw1 lw1 sw1 D1 x1 a11 a21 a31 a41 a51 a61
  have hcc1 := List.mem_singleton.mp hcc1
  subst hcc1
  match sw1, a61 with
  | [p01, p11, p21], _ =>
    obtain ⟨v01, w01, y01⟩ := a51 0 _ rfl
    have w01 : lget lw1 0 = some v01 := w01
    have hh1 := hOK_0 a31 a41 rfl
    obtain ⟨v21, w21, y21⟩ := a51 200 _ rfl
    have w21 : some p01 = some v21 := w21
    cases w21
    obtain ⟨v31, w31, y31⟩ := a51 201 _ rfl
    have w31 : some p11 = some v31 := w31
    cases w31
    obtain ⟨v41, w41, y41⟩ := a51 202 _ rfl
    have w41 : some p21 = some v41 := w41
    cases w41
    obtain ⟨v11, w11, y11⟩ := a51 1 _ rfl
    have w11 : lget lw1 1 = some v11 := w11
    have i11 : v11 = .inl 0 := (vI_of (x1 0 0 rfl) y11).2
    rw [i11] at w11
    have g38 : sl aw1 211 38 = some (.inl 0) := (sl_of (j := 38) (i := 0) (o := 0) a41 (by decide +kernel : qH.2[211]? = some 53) (rfl : qH.1[53]? = some _) (by decide) rfl (x1 0 0 rfl)).2
    have hS1 := RS_u hS0 hh1 a21 (by rfl) g38
    have i21 : p01 = .inl 0 := (vI_of (x1 1 0 rfl) y21).2
    have i31 : p11 = .inl 0 := (vI_of (x1 0 0 rfl) y31).2
    rw [i21, i31]
    refine ev_ast (mt_X12_readRule_19 hM) (by decide +kernel : qH.2[224]? = some 66) (rfl : qH.1[66]? = some (14, 2, some 224, [.inl (0, 1120)])) rfl a11 hh1 (by decide) (by decide) (by decide) (by decide) (by decide) y41 (fun D2 aw2 a12 hh2 b3 b4 => ?_)
    have hS2 := RS_ag hS1 hh2 b3 (by rfl)
    have h1 := w11
    refine runH (P := P_rr1) (Q := QB) qH_w hM ch_rr1 all_nil (aw0 := aw2) (aw := aw2) (fun g => by cases g) rfl (τ0 := [0]) (σ := [0]) rfl rfl (Nat.zero_le _) hcz (xt_refl _) ⟨eOK2_L ⟨⟨by decide, by decide⟩, trivial⟩ rfl all_nil, hOK_nil hh2, lvOK_cons ⟨_, w01, y01⟩ (lvOK_cons ⟨_, h1, vI (y := 0) (z := 0) rfl (by decide) ⟨by decide, by decide⟩ (by decide)⟩ lvOK_nil), trivial, a12⟩ (ag_refl _ _ _) all_nil ?_
    intro c3 hcc3 τ3 aw3 lw3 sw3 D3 x3 a13 a23 a33 a43 a53 a63
    have hcc3 := List.mem_singleton.mp hcc3
    subst hcc3
    match sw3, a63 with
    | [p03], _ =>
      obtain ⟨v03, w03, y03⟩ := a53 0 _ rfl
      have w03 : lget lw3 0 = some v03 := w03
      have hh3 := hOK_0 a33 a43 rfl
      obtain ⟨v23, w23, y23⟩ := a53 200 _ rfl
      have w23 : some p03 = some v23 := w23
      cases w23
      obtain ⟨v13, w13, y13⟩ := a53 1 _ rfl
      have w13 : lget lw3 1 = some v13 := w13
      have i13 : v13 = .inl 0 := (vI_of (x3 0 0 rfl) y13).2
      rw [i13] at w13
      rw [refM y23]
      obtain ⟨q, q1, q2⟩ := atM hh3
      obtain ⟨M', m1, m2, m3, m4, m5⟩ : ∃ M', mT 253 = some M' ∧ mLoc M' ≤ 80 ∧ mC M' = 0 ∧ mS M' = 0 ∧ 1 ≤ mLoc M' := ⟨_, rfl, by decide +kernel, rfl, rfl, by decide +kernel⟩
      have hS3 := RS_0 hS2 hh3 a23 (by rfl)
      obtain ⟨d, rfl⟩ : ∃ d', d = d' + 1 := ⟨d - 1, by omega⟩
      refine Ev_call (st_callv (mk_X12_readRule_21 hM) (As := []) rfl a13 q1 q2 (Nat.zero_le _)) m1 m5 m2 (by rw [m3]; exact hcz.1) (by rw [m4]; exact hcz.2) (e_ok0 m1 (d := d) (by omega) a13 hS3 hT ⟨_, rfl, vM⟩) ?_
      rintro v D4 ⟨hv, aw4, a14, a24, ho⟩
      subst hv
      rw [m3, m4]
      change Ev L (d + 1 + 1) M (24, lw3, [], D4, 0, 0) _
      have hc : ∃ c, hOK qH [0] [] aw4 ∧ sl aw4 211 35 = some (.inl c) ∧ 0 ≤ c ∧ c ≤ 0 + 290 ∧ (drun (cd aw4) 0 (c - 0) 0).isSome = true := by
        rcases ho with ⟨f0, f, c, f1, f2, f3, f4, f5, f6, f7⟩ | ⟨a', e', t', c, w, u, f1, f2, f3, f4, f5, f6⟩
        · exact ⟨c, f0, f4, f5, f6, f7⟩
        · exact ⟨c, f1.1, f1.2.2.2.2.2.2.2.1, f4, f5, f6⟩
      have he4 : ENDS aw4 a s := by
        rcases ho with ⟨f0, f, c, f1, f2, f3, f4, f5, f6, f7⟩ | ⟨a', e', t', c, w, u, f1, f2, f3, f4, f5, f6⟩
        · exact Or.inl ⟨f, f1, f2, f3⟩
        · exact Or.inr ⟨a', e', t', f2, f3, f1.2.2.1, f1.2.2.2.1, f1.2.2.2.2.1, f1.2.2.2.2.2.1⟩
      obtain ⟨c, hh4, c35, c1, c2, c3⟩ := hc
      have k344 : sl aw4 211 34 = some (.inl 0) := by rw [a24.1.2 211 53 34 (by decide +kernel) rfl]; exact hS3.2.2.2.2.2.2.1
      have h1 := w13
      refine runH (P := P_rr20) (Q := QB) qH_w hM ch_rr20 all_nil (aw0 := aw4) (aw := aw4) (fun g => by cases g) rfl (τ0 := [0, (c : Int)]) (σ := [0, (c : Int)]) rfl rfl (Nat.zero_le _) hcz (xt_refl _) ⟨eOK2_L ⟨⟨by decide, by decide⟩, ⟨by dsimp only; omega, by dsimp only; omega⟩, trivial⟩ rfl all_nil, hOK_mk hh4 (all_cons ⟨_, k344, vI (y := 0) (z := 0) rfl (by decide) ⟨by decide, by decide⟩ (by decide)⟩ (all_cons ⟨_, c35, vN ⟨(c : Int), rfl, Int.add_zero _⟩ (by omega)⟩ all_nil)), lvOK_cons ⟨_, w03, y03⟩ (lvOK_cons ⟨_, h1, vI (y := 0) (z := 0) rfl (by decide) ⟨by decide, by decide⟩ (by decide)⟩ lvOK_nil), trivial, a14⟩ (ag_refl _ _ _) all_nil ?_
      intro c5 hcc5 τ5 aw5 lw5 sw5 D5 x5 a15 a25 a35 a45 a55 a65
      have hcc5 := List.mem_singleton.mp hcc5
      subst hcc5
      match sw5, a65 with
      | [p05, p15, p25], _ =>
        obtain ⟨v05, w05, y05⟩ := a55 0 _ rfl
        have w05 : lget lw5 0 = some v05 := w05
        have hh5 := hOK_0 a35 a45 rfl
        obtain ⟨v25, w25, y25⟩ := a55 200 _ rfl
        have w25 : some p05 = some v25 := w25
        cases w25
        obtain ⟨v35, w35, y35⟩ := a55 201 _ rfl
        have w35 : some p15 = some v35 := w35
        cases w35
        obtain ⟨v45, w45, y45⟩ := a55 202 _ rfl
        have w45 : some p25 = some v45 := w45
        cases w45
        have i25 := (vI_of (x5 1 (c : Int) rfl) y25).2
        rw [Int.add_zero, eI_nat (by omega)] at i25
        have i35 : p15 = .inl 0 := (vI_of (x5 0 0 rfl) y35).2
        rw [i25, i35]
        refine ev_ast (mt_X12_readRule_38 hM) (by decide +kernel : qH.2[225]? = some 67) (rfl : qH.1[67]? = some (14, 2, some 225, [.inl (0, 1120)])) rfl a15 hh5 (by decide) (by decide) (by omega) (by dsimp only; omega) (by dsimp only; omega) y45 (fun D6 aw6 a16 hh6 d3 d4 => ?_)
        refine runH (P := P_rr3) (Q := QB) qH_w hM ch_rr3 all_nil (aw0 := aw6) (aw := aw6) (fun g => by cases g) rfl (τ0 := [0]) (σ := [0]) rfl rfl (Nat.zero_le _) hcz (xt_refl _) ⟨eOK2_L ⟨⟨by decide, by decide⟩, trivial⟩ rfl all_nil, hOK_nil hh6, lvOK_cons ⟨_, w05, y05⟩ lvOK_nil, trivial, a16⟩ (ag_refl _ _ _) ?_ all_nil
        intro o ho' τ7 aw7 w7 D7 x7 a17 a27 a37 a47 a57
        have ho' := List.mem_singleton.mp ho'
        subst ho'
        have hh7 := hOK_0 a37 a47 rfl
        have code74 : ∀ j, sl aw7 pCode j = sl aw4 pCode j := fun j => by rw [a27.2 pCode 73 j (by decide +kernel) rfl, d3.2 pCode 73 j (by decide +kernel) rfl, a25.2 pCode 73 j (by decide +kernel) rfl]
        have code7 : ∀ j, j < 560 * 0 ∨ 560 * 0 + 560 ≤ j → sl aw7 pCode j = sl aw0 pCode j := fun j hj => by rw [code74, a24.2 j hj, a23.2 pCode 73 j (by decide +kernel) rfl, b3.2 pCode 73 j (by decide +kernel) rfl, a21.2 pCode 73 j (by decide +kernel) rfl]
        have from7 : ∀ j, sl aw7 pFrom j = if j = 0 then some (.inl 0) else sl aw0 pFrom j := fun j => by rw [a27.2 pFrom 66 j (by decide +kernel) rfl, d3.2 pFrom 66 j (by decide +kernel) rfl, a25.2 pFrom 66 j (by decide +kernel) rfl, a24.1.2 pFrom 66 j (by decide +kernel) rfl, a23.2 pFrom 66 j (by decide +kernel) rfl, show sl aw2 pFrom j = _ from b4 j, show sl aw1 224 j = _ from a21.2 pFrom 66 j (by decide +kernel) rfl]
        have to7 : ∀ j, sl aw7 pTo j = if j = 0 then some (.inl c) else sl aw0 pTo j := fun j => by rw [a27.2 pTo 67 j (by decide +kernel) rfl, show sl aw6 pTo j = _ from d4 j, show sl aw5 225 j = _ from a25.2 pTo 67 j (by decide +kernel) rfl, a24.1.2 pTo 67 j (by decide +kernel) rfl, a23.2 pTo 67 j (by decide +kernel) rfl, b3.2 pTo 67 j (by decide +kernel) rfl, a21.2 pTo 67 j (by decide +kernel) rfl]
        have key : ∀ j, j < 9999 → sl aw7 211 j = sl aw4 211 j := fun j _ => by rw [a27.2 211 53 j (by decide +kernel) rfl, d3.2 211 53 j (by decide +kernel) rfl, a25.2 211 53 j (by decide +kernel) rfl]
        refine ⟨a57, aw7, a17, ag_trans (ag_sub (by rfl) a21) (ag_trans (ag_sub (by rfl) b3) (ag_trans (ag_sub (by rfl) a23) (ag_trans (ag_sub (by rfl) a24.1) (ag_trans (ag_sub (by rfl) a25) (ag_trans (ag_sub (by rfl) d3) (ag_sub (by rfl) a27)))))), ?_, hh7, ?_⟩
        · intro r' hr'
          by_cases e : r' = 0
          · subst e
            exact ⟨0, c, by rw [from7, if_pos rfl], by rw [to7, if_pos rfl], c1, Or.inr (by omega), by omega, by rw [cd_eq code74]; exact c3⟩
          · obtain ⟨a1, b1, g1, g2, g3, g4, g5, g6⟩ := hq r' hr'
            refine ⟨a1, b1, by rw [from7, if_neg e]; exact g1, by rw [to7, if_neg e]; exact g2, g3, g4, g5, ?_⟩
            rw [drun_congr (g := cd aw0) (fun j n1 n2 => ?_)]
            · exact g6
            · unfold cd
              rw [code7 j (by omega)]
        · rcases he4 with ⟨f, f1, f2, f3⟩ | ⟨a', e', t', f1, f2, f3, f4, f5, f6⟩
          · exact Or.inl ⟨f, f1, f2, by rw [key 4 (by decide)]; exact f3⟩
          · exact Or.inr ⟨a', e', t', f1, f2, by rw [key 4 (by decide)]; exact f3, by rw [key 6 (by decide)]; exact f4, by rw [key 7 (by decide)]; exact f5, by rw [key 8 (by decide)]; exact f6⟩
set_option maxHeartbeats 4000000 in
theorem rr_ok1 {L : List Nat} {M : rM} (hM : mT 252 = some M) {d : Nat} (hd : 7 ≤ d + 1) {Aw : List rV} {D0 : rD} {aw0 : List rC} {a e s t : Nat} (a10 : rep D0 aw0) (hh0 : hOK qH [0] [] aw0) (k3 : sl aw0 211 3 = some (.inl s)) (k4 : sl aw0 211 4 = some (.inl 0)) (k6 : sl aw0 211 6 = some (.inl a)) (k7 : sl aw0 211 7 = some (.inl e)) (k8 : sl aw0 211 8 = some (.inl t)) (k34 : sl aw0 211 34 = some (.inl 1)) (k35 : sl aw0 211 35 = some (.inl 560)) (hT : tokW a e s t) (h0 : ∃ v, lget (argsL Aw 0) 0 = some v ∧ vOK qH [] (.inr (.inr (some 53))) v) (h1 : lget (argsL Aw 0) 1 = some (.inl 0)) (hq : QB aw0) : Ev L (d + 1) M (0, argsL Aw 0, [], D0, 0, 0) (fun v D' => v = none ∧ ∃ aw', rep D' aw' ∧ ag qH MDR aw0 aw' ∧ QB aw' ∧ hOK qH [0] [] aw' ∧ ENDS aw' a s) := by
  have hcz : (0 : Nat) ≤ mC M ∧ (0 : Nat) ≤ mS M := ⟨Nat.zero_le _, Nat.zero_le _⟩
  obtain ⟨v00, w00, y00⟩ := h0
  obtain ⟨w, k36⟩ := slI hh0 (j := 36) (rfl : qH.1[53]? = some _) (by decide) (by rfl)
  obtain ⟨p, k37⟩ := slI hh0 (j := 37) (rfl : qH.1[53]? = some _) (by decide) (by rfl)
  obtain ⟨u, k38⟩ := slI hh0 (j := 38) (rfl : qH.1[53]? = some _) (by decide) (by rfl)
  have hS0 : RS 1 aw0 a e s t 560 p w u := ⟨hh0, k3, k4, k6, k7, k8, k34, k35, k36, k37, k38⟩
  refine runH (P := P_rr01) (Q := QB) qH_w hM ch_rr01 all_nil (aw0 := aw0) (aw := aw0) (fun g => by cases g) rfl (τ0 := [0, 560]) (σ := [0, 560]) rfl rfl (Nat.zero_le _) hcz (xt_refl _) ⟨eOK2_L ⟨⟨by decide, by decide⟩, ⟨by decide, by decide⟩, trivial⟩ rfl all_nil, hOK_mk hh0 (all_cons ⟨_, k34, vI (y := 0) (z := 1) rfl (by decide) ⟨by decide, by decide⟩ (by decide)⟩ (all_cons ⟨_, k35, vN ⟨560, rfl, by decide⟩ (by decide)⟩ all_nil)), lvOK_cons ⟨_, w00, y00⟩ (lvOK_cons ⟨_, h1, vI (y := 0) (z := 0) rfl (by decide) ⟨by decide, by decide⟩ (by decide)⟩ lvOK_nil), trivial, a10⟩ (ag_refl _ _ _) all_nil ?_
  intro c1 hcc1 τ1 aw1 lw1 sw1 D1 x1 a11 a21 a31 a41 a51 a61
  have hcc1 := List.mem_singleton.mp hcc1
  subst hcc1
  match sw1, a61 with
  | [p01, p11, p21], _ =>
    obtain ⟨v01, w01, y01⟩ := a51 0 _ rfl
    have w01 : lget lw1 0 = some v01 := w01
    have hh1 := hOK_0 a31 a41 rfl
    obtain ⟨v21, w21, y21⟩ := a51 200 _ rfl
    have w21 : some p01 = some v21 := w21
    cases w21
    obtain ⟨v31, w31, y31⟩ := a51 201 _ rfl
    have w31 : some p11 = some v31 := w31
    cases w31
    obtain ⟨v41, w41, y41⟩ := a51 202 _ rfl
    have w41 : some p21 = some v41 := w41
    cases w41
    obtain ⟨v11, w11, y11⟩ := a51 1 _ rfl
    have w11 : lget lw1 1 = some v11 := w11
    have i11 : v11 = .inl 0 := (vI_of (x1 0 0 rfl) y11).2
    rw [i11] at w11
    have g38 : sl aw1 211 38 = some (.inl 0) := (sl_of (j := 38) (i := 0) (o := 0) a41 (by decide +kernel : qH.2[211]? = some 53) (rfl : qH.1[53]? = some _) (by decide) rfl (x1 0 0 rfl)).2
    have hS1 := RS_u hS0 hh1 a21 (by rfl) g38
    have i21 : p01 = .inl 560 := (vI_of (x1 1 560 rfl) y21).2
    have i31 : p11 = .inl 1 := (vI_of (x1 0 0 rfl) y31).2
    rw [i21, i31]
    refine ev_ast (mt_X12_readRule_19 hM) (by decide +kernel : qH.2[224]? = some 66) (rfl : qH.1[66]? = some (14, 2, some 224, [.inl (0, 1120)])) rfl a11 hh1 (by decide) (by decide) (by decide) (by decide) (by decide) y41 (fun D2 aw2 a12 hh2 b3 b4 => ?_)
    have hS2 := RS_ag hS1 hh2 b3 (by rfl)
    have h1 := w11
    refine runH (P := P_rr1) (Q := QB) qH_w hM ch_rr1 all_nil (aw0 := aw2) (aw := aw2) (fun g => by cases g) rfl (τ0 := [0]) (σ := [0]) rfl rfl (Nat.zero_le _) hcz (xt_refl _) ⟨eOK2_L ⟨⟨by decide, by decide⟩, trivial⟩ rfl all_nil, hOK_nil hh2, lvOK_cons ⟨_, w01, y01⟩ (lvOK_cons ⟨_, h1, vI (y := 0) (z := 0) rfl (by decide) ⟨by decide, by decide⟩ (by decide)⟩ lvOK_nil), trivial, a12⟩ (ag_refl _ _ _) all_nil ?_
    intro c3 hcc3 τ3 aw3 lw3 sw3 D3 x3 a13 a23 a33 a43 a53 a63
    have hcc3 := List.mem_singleton.mp hcc3
    subst hcc3
    match sw3, a63 with
    | [p03], _ =>
      obtain ⟨v03, w03, y03⟩ := a53 0 _ rfl
      have w03 : lget lw3 0 = some v03 := w03
      have hh3 := hOK_0 a33 a43 rfl
      obtain ⟨v23, w23, y23⟩ := a53 200 _ rfl
      have w23 : some p03 = some v23 := w23
      cases w23
      obtain ⟨v13, w13, y13⟩ := a53 1 _ rfl
      have w13 : lget lw3 1 = some v13 := w13
      have i13 : v13 = .inl 0 := (vI_of (x3 0 0 rfl) y13).2
      rw [i13] at w13
      rw [refM y23]
      obtain ⟨q, q1, q2⟩ := atM hh3
      obtain ⟨M', m1, m2, m3, m4, m5⟩ : ∃ M', mT 253 = some M' ∧ mLoc M' ≤ 80 ∧ mC M' = 0 ∧ mS M' = 0 ∧ 1 ≤ mLoc M' := ⟨_, rfl, by decide +kernel, rfl, rfl, by decide +kernel⟩
      have hS3 := RS_0 hS2 hh3 a23 (by rfl)
      obtain ⟨d, rfl⟩ : ∃ d', d = d' + 1 := ⟨d - 1, by omega⟩
      refine Ev_call (st_callv (mk_X12_readRule_21 hM) (As := []) rfl a13 q1 q2 (Nat.zero_le _)) m1 m5 m2 (by rw [m3]; exact hcz.1) (by rw [m4]; exact hcz.2) (e_ok1 m1 (d := d) (by omega) a13 hS3 hT ⟨_, rfl, vM⟩) ?_
      rintro v D4 ⟨hv, aw4, a14, a24, ho⟩
      subst hv
      rw [m3, m4]
      change Ev L (d + 1 + 1) M (24, lw3, [], D4, 0, 0) _
      have hc : ∃ c, hOK qH [0] [] aw4 ∧ sl aw4 211 35 = some (.inl c) ∧ 560 ≤ c ∧ c ≤ 560 + 290 ∧ (drun (cd aw4) 560 (c - 560) 0).isSome = true := by
        rcases ho with ⟨f0, f, c, f1, f2, f3, f4, f5, f6, f7⟩ | ⟨a', e', t', c, w, u, f1, f2, f3, f4, f5, f6⟩
        · exact ⟨c, f0, f4, f5, f6, f7⟩
        · exact ⟨c, f1.1, f1.2.2.2.2.2.2.2.1, f4, f5, f6⟩
      have he4 : ENDS aw4 a s := by
        rcases ho with ⟨f0, f, c, f1, f2, f3, f4, f5, f6, f7⟩ | ⟨a', e', t', c, w, u, f1, f2, f3, f4, f5, f6⟩
        · exact Or.inl ⟨f, f1, f2, f3⟩
        · exact Or.inr ⟨a', e', t', f2, f3, f1.2.2.1, f1.2.2.2.1, f1.2.2.2.2.1, f1.2.2.2.2.2.1⟩
      obtain ⟨c, hh4, c35, c1, c2, c3⟩ := hc
      have k344 : sl aw4 211 34 = some (.inl 1) := by rw [a24.1.2 211 53 34 (by decide +kernel) rfl]; exact hS3.2.2.2.2.2.2.1
      have h1 := w13
      refine runH (P := P_rr21) (Q := QB) qH_w hM ch_rr21 all_nil (aw0 := aw4) (aw := aw4) (fun g => by cases g) rfl (τ0 := [0, (c : Int)]) (σ := [0, (c : Int)]) rfl rfl (Nat.zero_le _) hcz (xt_refl _) ⟨eOK2_L ⟨⟨by decide, by decide⟩, ⟨by dsimp only; omega, by dsimp only; omega⟩, trivial⟩ rfl all_nil, hOK_mk hh4 (all_cons ⟨_, k344, vI (y := 0) (z := 1) rfl (by decide) ⟨by decide, by decide⟩ (by decide)⟩ (all_cons ⟨_, c35, vN ⟨(c : Int), rfl, Int.add_zero _⟩ (by omega)⟩ all_nil)), lvOK_cons ⟨_, w03, y03⟩ (lvOK_cons ⟨_, h1, vI (y := 0) (z := 0) rfl (by decide) ⟨by decide, by decide⟩ (by decide)⟩ lvOK_nil), trivial, a14⟩ (ag_refl _ _ _) all_nil ?_
      intro c5 hcc5 τ5 aw5 lw5 sw5 D5 x5 a15 a25 a35 a45 a55 a65
      have hcc5 := List.mem_singleton.mp hcc5
      subst hcc5
      match sw5, a65 with
      | [p05, p15, p25], _ =>
        obtain ⟨v05, w05, y05⟩ := a55 0 _ rfl
        have w05 : lget lw5 0 = some v05 := w05
        have hh5 := hOK_0 a35 a45 rfl
        obtain ⟨v25, w25, y25⟩ := a55 200 _ rfl
        have w25 : some p05 = some v25 := w25
        cases w25
        obtain ⟨v35, w35, y35⟩ := a55 201 _ rfl
        have w35 : some p15 = some v35 := w35
        cases w35
        obtain ⟨v45, w45, y45⟩ := a55 202 _ rfl
        have w45 : some p25 = some v45 := w45
        cases w45
        have i25 := (vI_of (x5 1 (c : Int) rfl) y25).2
        rw [Int.add_zero, eI_nat (by omega)] at i25
        have i35 : p15 = .inl 1 := (vI_of (x5 0 0 rfl) y35).2
        rw [i25, i35]
        refine ev_ast (mt_X12_readRule_38 hM) (by decide +kernel : qH.2[225]? = some 67) (rfl : qH.1[67]? = some (14, 2, some 225, [.inl (0, 1120)])) rfl a15 hh5 (by decide) (by decide) (by omega) (by dsimp only; omega) (by dsimp only; omega) y45 (fun D6 aw6 a16 hh6 d3 d4 => ?_)
        refine runH (P := P_rr3) (Q := QB) qH_w hM ch_rr3 all_nil (aw0 := aw6) (aw := aw6) (fun g => by cases g) rfl (τ0 := [0]) (σ := [0]) rfl rfl (Nat.zero_le _) hcz (xt_refl _) ⟨eOK2_L ⟨⟨by decide, by decide⟩, trivial⟩ rfl all_nil, hOK_nil hh6, lvOK_cons ⟨_, w05, y05⟩ lvOK_nil, trivial, a16⟩ (ag_refl _ _ _) ?_ all_nil
        intro o ho' τ7 aw7 w7 D7 x7 a17 a27 a37 a47 a57
        have ho' := List.mem_singleton.mp ho'
        subst ho'
        have hh7 := hOK_0 a37 a47 rfl
        have code74 : ∀ j, sl aw7 pCode j = sl aw4 pCode j := fun j => by rw [a27.2 pCode 73 j (by decide +kernel) rfl, d3.2 pCode 73 j (by decide +kernel) rfl, a25.2 pCode 73 j (by decide +kernel) rfl]
        have code7 : ∀ j, j < 560 * 1 ∨ 560 * 1 + 560 ≤ j → sl aw7 pCode j = sl aw0 pCode j := fun j hj => by rw [code74, a24.2 j hj, a23.2 pCode 73 j (by decide +kernel) rfl, b3.2 pCode 73 j (by decide +kernel) rfl, a21.2 pCode 73 j (by decide +kernel) rfl]
        have from7 : ∀ j, sl aw7 pFrom j = if j = 1 then some (.inl 560) else sl aw0 pFrom j := fun j => by rw [a27.2 pFrom 66 j (by decide +kernel) rfl, d3.2 pFrom 66 j (by decide +kernel) rfl, a25.2 pFrom 66 j (by decide +kernel) rfl, a24.1.2 pFrom 66 j (by decide +kernel) rfl, a23.2 pFrom 66 j (by decide +kernel) rfl, show sl aw2 pFrom j = _ from b4 j, show sl aw1 224 j = _ from a21.2 pFrom 66 j (by decide +kernel) rfl]
        have to7 : ∀ j, sl aw7 pTo j = if j = 1 then some (.inl c) else sl aw0 pTo j := fun j => by rw [a27.2 pTo 67 j (by decide +kernel) rfl, show sl aw6 pTo j = _ from d4 j, show sl aw5 225 j = _ from a25.2 pTo 67 j (by decide +kernel) rfl, a24.1.2 pTo 67 j (by decide +kernel) rfl, a23.2 pTo 67 j (by decide +kernel) rfl, b3.2 pTo 67 j (by decide +kernel) rfl, a21.2 pTo 67 j (by decide +kernel) rfl]
        have key : ∀ j, j < 9999 → sl aw7 211 j = sl aw4 211 j := fun j _ => by rw [a27.2 211 53 j (by decide +kernel) rfl, d3.2 211 53 j (by decide +kernel) rfl, a25.2 211 53 j (by decide +kernel) rfl]
        refine ⟨a57, aw7, a17, ag_trans (ag_sub (by rfl) a21) (ag_trans (ag_sub (by rfl) b3) (ag_trans (ag_sub (by rfl) a23) (ag_trans (ag_sub (by rfl) a24.1) (ag_trans (ag_sub (by rfl) a25) (ag_trans (ag_sub (by rfl) d3) (ag_sub (by rfl) a27)))))), ?_, hh7, ?_⟩
        · intro r' hr'
          by_cases e : r' = 1
          · subst e
            exact ⟨560, c, by rw [from7, if_pos rfl], by rw [to7, if_pos rfl], c1, Or.inr (by omega), by omega, by rw [cd_eq code74]; exact c3⟩
          · obtain ⟨a1, b1, g1, g2, g3, g4, g5, g6⟩ := hq r' hr'
            refine ⟨a1, b1, by rw [from7, if_neg e]; exact g1, by rw [to7, if_neg e]; exact g2, g3, g4, g5, ?_⟩
            rw [drun_congr (g := cd aw0) (fun j n1 n2 => ?_)]
            · exact g6
            · unfold cd
              rw [code7 j (by omega)]
        · rcases he4 with ⟨f, f1, f2, f3⟩ | ⟨a', e', t', f1, f2, f3, f4, f5, f6⟩
          · exact Or.inl ⟨f, f1, f2, by rw [key 4 (by decide)]; exact f3⟩
          · exact Or.inr ⟨a', e', t', f1, f2, by rw [key 4 (by decide)]; exact f3, by rw [key 6 (by decide)]; exact f4, by rw [key 7 (by decide)]; exact f5, by rw [key 8 (by decide)]; exact f6⟩
set_option maxHeartbeats 4000000 in
theorem rq_3 {L : List Nat} : CtQ qH QB L ct_3 := by
  intro M d τ Aw D aw hM hd hr he hh hlv hq
  have hd : 8 ≤ d := hd
  obtain ⟨d, rfl⟩ : ∃ d', d = d' + 1 := ⟨d - 1, by omega⟩
  obtain ⟨e1, e2, e3, e4, e5⟩ := id he
  match τ, e1 with
  | [z0, az, ez, sz], _ =>
    cases e2
    obtain ⟨_, n1, n2, n3⟩ := e3 1 _ rfl
    cases n1
    have n2a : (0 : Int) ≤ az := n2
    have n3a : az ≤ (1600 : Int) := n3
    obtain ⟨a, rfl⟩ : ∃ k : Nat, az = (k : Int) := ⟨az.toNat, by omega⟩
    obtain ⟨_, n1, n2, n3⟩ := e3 2 _ rfl
    cases n1
    have n2e : (0 : Int) ≤ ez := n2
    have n3e : ez ≤ (1600 : Int) := n3
    obtain ⟨e, rfl⟩ : ∃ k : Nat, ez = (k : Int) := ⟨ez.toNat, by omega⟩
    obtain ⟨_, n1, n2, n3⟩ := e3 3 _ rfl
    cases n1
    have n2s : (0 : Int) ≤ sz := n2
    have n3s : sz ≤ (1600 : Int) := n3
    obtain ⟨s, rfl⟩ : ∃ k : Nat, sz = (k : Int) := ⟨sz.toNat, by omega⟩
    obtain ⟨_, _, u1, u2, u3⟩ := e4 (1, 2, 0) (List.mem_of_getElem? (i := 0) rfl)
    cases u1
    cases u2
    have u3 : (a : Int) + 0 ≤ e := u3
    obtain ⟨_, _, m1, m2, m3⟩ := e4 (2, 3, 0) (List.mem_of_getElem? (i := 1) rfl)
    cases m1
    cases m2
    have m3 : (e : Int) + 0 ≤ s := m3
    have k3 := (sl_of (j := 3) (i := 3) (o := 0) hh (by decide +kernel : qH.2[211]? = some 53) (rfl : qH.1[53]? = some _) (by decide) rfl rfl).2
    rw [Int.add_zero, eI_nat (by omega)] at k3
    have k6 := (sl_of (j := 6) (i := 1) (o := 0) hh (by decide +kernel : qH.2[211]? = some 53) (rfl : qH.1[53]? = some _) (by decide) rfl rfl).2
    rw [Int.add_zero, eI_nat (by omega)] at k6
    have k7 := (sl_of (j := 7) (i := 2) (o := 0) hh (by decide +kernel : qH.2[211]? = some 53) (rfl : qH.1[53]? = some _) (by decide) rfl rfl).2
    rw [Int.add_zero, eI_nat (by omega)] at k7
    have k4 : sl aw 211 4 = some (.inl 0) := (sl_of (j := 4) (i := 0) (o := 0) hh (by decide +kernel : qH.2[211]? = some 53) (rfl : qH.1[53]? = some _) (by decide) rfl rfl).2
    have k34 : sl aw 211 34 = some (.inl 0) := (sl_of (j := 34) (i := 0) (o := 0) hh (by decide +kernel : qH.2[211]? = some 53) (rfl : qH.1[53]? = some _) (by decide) rfl rfl).2
    have k35 : sl aw 211 35 = some (.inl 0) := (sl_of (j := 35) (i := 0) (o := 0) hh (by decide +kernel : qH.2[211]? = some 53) (rfl : qH.1[53]? = some _) (by decide) rfl rfl).2
    have k8 : sl aw 211 8 = some (.inl 0) := (sl_of (j := 8) (i := 0) (o := 0) hh (by decide +kernel : qH.2[211]? = some 53) (rfl : qH.1[53]? = some _) (by decide) rfl rfl).2
    obtain ⟨v1, w1, y1⟩ := hlv 1 _ rfl
    have i1 : v1 = .inl 0 := (vI_of (y := 0) rfl y1).2
    rw [i1] at w1
    refine Ev_mono (rr_ok0 hM (by omega) hr (hOK_0 he hh rfl) k3 k4 k6 k7 k8 k34 k35 (a := a) (e := e) (s := s) (t := 0) ?_ (hlv 0 _ rfl) w1 hq) ?_
    · exact ⟨Or.inl ⟨rfl, by omega, by omega⟩, by omega, by omega⟩
    · rintro v D' ⟨hv, aw', b1, b2, b3, b4, b5⟩
      refine ⟨aw', b1, b2, b3, ?_⟩
      rcases b5 with ⟨f, f1, f2, f3⟩ | ⟨a', e', t', ⟨q1, q2, q3⟩, f2, f3, f4, f5, f6⟩
      · exact ⟨_, List.mem_of_getElem? (i := 0) rfl, [0, (a : Int), (e : Int), (s : Int)] ++ [(f : Int)], xt_app _ _, eOK2_L ⟨⟨by decide, by decide⟩, ⟨by dsimp only; omega, by dsimp only; omega⟩, ⟨by dsimp only; omega, by dsimp only; omega⟩, ⟨by dsimp only; omega, by dsimp only; omega⟩, ⟨by dsimp only; omega, by dsimp only; omega⟩, trivial⟩ rfl (all_cons ⟨_, _, rfl, rfl, by dsimp only; omega⟩ (all_cons ⟨_, _, rfl, rfl, by dsimp only; omega⟩ all_nil)), hOK_mk b4 (all_cons ⟨_, f3, vN ⟨(f : Int), rfl, Int.add_zero _⟩ (by omega)⟩ all_nil), hv⟩
      · rcases q1 with ⟨t0, t1, t2⟩ | ⟨t0, t1, t2⟩
        · subst t0
          subst t1
          subst t2
          exact ⟨_, List.mem_of_getElem? (i := 1) rfl, _, xt_refl _, he, hOK_mk b4 (all_cons ⟨_, f3, vN ⟨0, rfl, by omega⟩ (by omega)⟩ (all_cons ⟨_, f4, vN ⟨(_ : Int), rfl, Int.add_zero _⟩ (by omega)⟩ (all_cons ⟨_, f5, vN ⟨(_ : Int), rfl, Int.add_zero _⟩ (by omega)⟩ (all_cons ⟨_, f6, vN ⟨0, rfl, by omega⟩ (by omega)⟩ all_nil)))), hv⟩
        · exact ⟨_, List.mem_of_getElem? (i := 2) rfl, [0, (a : Int), (e : Int), (s : Int)] ++ [(t' : Int), (a' : Int), (e' : Int)], xt_app _ _, eOK2_L ⟨⟨by decide, by decide⟩, ⟨by dsimp only; omega, by dsimp only; omega⟩, ⟨by dsimp only; omega, by dsimp only; omega⟩, ⟨by dsimp only; omega, by dsimp only; omega⟩, ⟨by dsimp only; omega, by dsimp only; omega⟩, ⟨by dsimp only; omega, by dsimp only; omega⟩, ⟨by dsimp only; omega, by dsimp only; omega⟩, trivial⟩ rfl (all_cons ⟨_, _, rfl, rfl, by dsimp only; omega⟩ (all_cons ⟨_, _, rfl, rfl, by dsimp only; omega⟩ (all_cons ⟨_, _, rfl, rfl, by dsimp only; omega⟩ (all_cons ⟨_, _, rfl, rfl, by dsimp only; omega⟩ (all_cons ⟨_, _, rfl, rfl, by dsimp only; omega⟩ all_nil))))), hOK_mk b4 (all_cons ⟨_, f3, vN ⟨0, rfl, by omega⟩ (by omega)⟩ (all_cons ⟨_, f4, vN ⟨(a' : Int), rfl, Int.add_zero _⟩ (by omega)⟩ (all_cons ⟨_, f5, vN ⟨(e' : Int), rfl, Int.add_zero _⟩ (by omega)⟩ (all_cons ⟨_, f6, vN ⟨(t' : Int), rfl, Int.add_zero _⟩ (by omega)⟩ all_nil)))), hv⟩
set_option maxHeartbeats 4000000 in
theorem rq_4 {L : List Nat} : CtQ qH QB L ct_4 := by
  intro M d τ Aw D aw hM hd hr he hh hlv hq
  have hd : 8 ≤ d := hd
  obtain ⟨d, rfl⟩ : ∃ d', d = d' + 1 := ⟨d - 1, by omega⟩
  obtain ⟨e1, e2, e3, e4, e5⟩ := id he
  match τ, e1 with
  | [z0, az, ez, sz, tz], _ =>
    cases e2
    obtain ⟨_, n1, n2, n3⟩ := e3 1 _ rfl
    cases n1
    have n2a : (0 : Int) ≤ az := n2
    have n3a : az ≤ (1600 : Int) := n3
    obtain ⟨a, rfl⟩ : ∃ k : Nat, az = (k : Int) := ⟨az.toNat, by omega⟩
    obtain ⟨_, n1, n2, n3⟩ := e3 2 _ rfl
    cases n1
    have n2e : (0 : Int) ≤ ez := n2
    have n3e : ez ≤ (1600 : Int) := n3
    obtain ⟨e, rfl⟩ : ∃ k : Nat, ez = (k : Int) := ⟨ez.toNat, by omega⟩
    obtain ⟨_, n1, n2, n3⟩ := e3 3 _ rfl
    cases n1
    have n2s : (0 : Int) ≤ sz := n2
    have n3s : sz ≤ (1600 : Int) := n3
    obtain ⟨s, rfl⟩ : ∃ k : Nat, sz = (k : Int) := ⟨sz.toNat, by omega⟩
    obtain ⟨_, n1, n2, n3⟩ := e3 4 _ rfl
    cases n1
    have n2t : (1 : Int) ≤ tz := n2
    have n3t : tz ≤ (5 : Int) := n3
    obtain ⟨t, rfl⟩ : ∃ k : Nat, tz = (k : Int) := ⟨tz.toNat, by omega⟩
    obtain ⟨_, _, u1, u2, u3⟩ := e4 (1, 2, 1) (List.mem_of_getElem? (i := 0) rfl)
    cases u1
    cases u2
    have u3 : (a : Int) + 1 ≤ e := u3
    obtain ⟨_, _, m1, m2, m3⟩ := e4 (2, 3, 0) (List.mem_of_getElem? (i := 1) rfl)
    cases m1
    cases m2
    have m3 : (e : Int) + 0 ≤ s := m3
    have k3 := (sl_of (j := 3) (i := 3) (o := 0) hh (by decide +kernel : qH.2[211]? = some 53) (rfl : qH.1[53]? = some _) (by decide) rfl rfl).2
    rw [Int.add_zero, eI_nat (by omega)] at k3
    have k6 := (sl_of (j := 6) (i := 1) (o := 0) hh (by decide +kernel : qH.2[211]? = some 53) (rfl : qH.1[53]? = some _) (by decide) rfl rfl).2
    rw [Int.add_zero, eI_nat (by omega)] at k6
    have k7 := (sl_of (j := 7) (i := 2) (o := 0) hh (by decide +kernel : qH.2[211]? = some 53) (rfl : qH.1[53]? = some _) (by decide) rfl rfl).2
    rw [Int.add_zero, eI_nat (by omega)] at k7
    have k8 := (sl_of (j := 8) (i := 4) (o := 0) hh (by decide +kernel : qH.2[211]? = some 53) (rfl : qH.1[53]? = some _) (by decide) rfl rfl).2
    rw [Int.add_zero, eI_nat (by omega)] at k8
    have k4 : sl aw 211 4 = some (.inl 0) := (sl_of (j := 4) (i := 0) (o := 0) hh (by decide +kernel : qH.2[211]? = some 53) (rfl : qH.1[53]? = some _) (by decide) rfl rfl).2
    have k34 : sl aw 211 34 = some (.inl 0) := (sl_of (j := 34) (i := 0) (o := 0) hh (by decide +kernel : qH.2[211]? = some 53) (rfl : qH.1[53]? = some _) (by decide) rfl rfl).2
    have k35 : sl aw 211 35 = some (.inl 0) := (sl_of (j := 35) (i := 0) (o := 0) hh (by decide +kernel : qH.2[211]? = some 53) (rfl : qH.1[53]? = some _) (by decide) rfl rfl).2
    obtain ⟨v1, w1, y1⟩ := hlv 1 _ rfl
    have i1 : v1 = .inl 0 := (vI_of (y := 0) rfl y1).2
    rw [i1] at w1
    refine Ev_mono (rr_ok0 hM (by omega) hr (hOK_0 he hh rfl) k3 k4 k6 k7 k8 k34 k35 (a := a) (e := e) (s := s) (t := t) ?_ (hlv 0 _ rfl) w1 hq) ?_
    · exact ⟨Or.inr ⟨by omega, by omega, by omega⟩, by omega, by omega⟩
    · rintro v D' ⟨hv, aw', b1, b2, b3, b4, b5⟩
      refine ⟨aw', b1, b2, b3, ?_⟩
      rcases b5 with ⟨f, f1, f2, f3⟩ | ⟨a', e', t', ⟨q1, q2, q3⟩, f2, f3, f4, f5, f6⟩
      · exact ⟨_, List.mem_of_getElem? (i := 0) rfl, [0, (a : Int), (e : Int), (s : Int), (t : Int)] ++ [(f : Int)], xt_app _ _, eOK2_L ⟨⟨by decide, by decide⟩, ⟨by dsimp only; omega, by dsimp only; omega⟩, ⟨by dsimp only; omega, by dsimp only; omega⟩, ⟨by dsimp only; omega, by dsimp only; omega⟩, ⟨by dsimp only; omega, by dsimp only; omega⟩, ⟨by dsimp only; omega, by dsimp only; omega⟩, trivial⟩ rfl (all_cons ⟨_, _, rfl, rfl, by dsimp only; omega⟩ (all_cons ⟨_, _, rfl, rfl, by dsimp only; omega⟩ all_nil)), hOK_mk b4 (all_cons ⟨_, f3, vN ⟨(f : Int), rfl, Int.add_zero _⟩ (by omega)⟩ all_nil), hv⟩
      · rcases q1 with ⟨t0, t1, t2⟩ | ⟨t0, t1, t2⟩
        · subst t0
          subst t1
          subst t2
          exact ⟨_, List.mem_of_getElem? (i := 1) rfl, _, xt_refl _, he, hOK_mk b4 (all_cons ⟨_, f3, vN ⟨0, rfl, by omega⟩ (by omega)⟩ (all_cons ⟨_, f4, vN ⟨(_ : Int), rfl, Int.add_zero _⟩ (by omega)⟩ (all_cons ⟨_, f5, vN ⟨(_ : Int), rfl, Int.add_zero _⟩ (by omega)⟩ (all_cons ⟨_, f6, vN ⟨0, rfl, by omega⟩ (by omega)⟩ all_nil)))), hv⟩
        · exact ⟨_, List.mem_of_getElem? (i := 2) rfl, [0, (a : Int), (e : Int), (s : Int), (t : Int)] ++ [(t' : Int), (a' : Int), (e' : Int)], xt_app _ _, eOK2_L ⟨⟨by decide, by decide⟩, ⟨by dsimp only; omega, by dsimp only; omega⟩, ⟨by dsimp only; omega, by dsimp only; omega⟩, ⟨by dsimp only; omega, by dsimp only; omega⟩, ⟨by dsimp only; omega, by dsimp only; omega⟩, ⟨by dsimp only; omega, by dsimp only; omega⟩, ⟨by dsimp only; omega, by dsimp only; omega⟩, ⟨by dsimp only; omega, by dsimp only; omega⟩, trivial⟩ rfl (all_cons ⟨_, _, rfl, rfl, by dsimp only; omega⟩ (all_cons ⟨_, _, rfl, rfl, by dsimp only; omega⟩ (all_cons ⟨_, _, rfl, rfl, by dsimp only; omega⟩ (all_cons ⟨_, _, rfl, rfl, by dsimp only; omega⟩ (all_cons ⟨_, _, rfl, rfl, by dsimp only; omega⟩ all_nil))))), hOK_mk b4 (all_cons ⟨_, f3, vN ⟨0, rfl, by omega⟩ (by omega)⟩ (all_cons ⟨_, f4, vN ⟨(a' : Int), rfl, Int.add_zero _⟩ (by omega)⟩ (all_cons ⟨_, f5, vN ⟨(e' : Int), rfl, Int.add_zero _⟩ (by omega)⟩ (all_cons ⟨_, f6, vN ⟨(t' : Int), rfl, Int.add_zero _⟩ (by omega)⟩ all_nil)))), hv⟩
set_option maxHeartbeats 4000000 in
theorem rq_5 {L : List Nat} : CtQ qH QB L ct_5 := by
  intro M d τ Aw D aw hM hd hr he hh hlv hq
  have hd : 8 ≤ d := hd
  obtain ⟨d, rfl⟩ : ∃ d', d = d' + 1 := ⟨d - 1, by omega⟩
  obtain ⟨e1, e2, e3, e4, e5⟩ := id he
  match τ, e1 with
  | [z0, az, ez, sz], _ =>
    cases e2
    obtain ⟨_, n1, n2, n3⟩ := e3 1 _ rfl
    cases n1
    have n2a : (0 : Int) ≤ az := n2
    have n3a : az ≤ (1600 : Int) := n3
    obtain ⟨a, rfl⟩ : ∃ k : Nat, az = (k : Int) := ⟨az.toNat, by omega⟩
    obtain ⟨_, n1, n2, n3⟩ := e3 2 _ rfl
    cases n1
    have n2e : (0 : Int) ≤ ez := n2
    have n3e : ez ≤ (1600 : Int) := n3
    obtain ⟨e, rfl⟩ : ∃ k : Nat, ez = (k : Int) := ⟨ez.toNat, by omega⟩
    obtain ⟨_, n1, n2, n3⟩ := e3 3 _ rfl
    cases n1
    have n2s : (0 : Int) ≤ sz := n2
    have n3s : sz ≤ (1600 : Int) := n3
    obtain ⟨s, rfl⟩ : ∃ k : Nat, sz = (k : Int) := ⟨sz.toNat, by omega⟩
    obtain ⟨_, _, u1, u2, u3⟩ := e4 (1, 2, 0) (List.mem_of_getElem? (i := 0) rfl)
    cases u1
    cases u2
    have u3 : (a : Int) + 0 ≤ e := u3
    obtain ⟨_, _, m1, m2, m3⟩ := e4 (2, 3, 0) (List.mem_of_getElem? (i := 1) rfl)
    cases m1
    cases m2
    have m3 : (e : Int) + 0 ≤ s := m3
    have k3 := (sl_of (j := 3) (i := 3) (o := 0) hh (by decide +kernel : qH.2[211]? = some 53) (rfl : qH.1[53]? = some _) (by decide) rfl rfl).2
    rw [Int.add_zero, eI_nat (by omega)] at k3
    have k6 := (sl_of (j := 6) (i := 1) (o := 0) hh (by decide +kernel : qH.2[211]? = some 53) (rfl : qH.1[53]? = some _) (by decide) rfl rfl).2
    rw [Int.add_zero, eI_nat (by omega)] at k6
    have k7 := (sl_of (j := 7) (i := 2) (o := 0) hh (by decide +kernel : qH.2[211]? = some 53) (rfl : qH.1[53]? = some _) (by decide) rfl rfl).2
    rw [Int.add_zero, eI_nat (by omega)] at k7
    have k4 : sl aw 211 4 = some (.inl 0) := (sl_of (j := 4) (i := 0) (o := 0) hh (by decide +kernel : qH.2[211]? = some 53) (rfl : qH.1[53]? = some _) (by decide) rfl rfl).2
    have k34 : sl aw 211 34 = some (.inl 1) := (sl_of (j := 34) (i := 0) (o := 1) hh (by decide +kernel : qH.2[211]? = some 53) (rfl : qH.1[53]? = some _) (by decide) rfl rfl).2
    have k35 : sl aw 211 35 = some (.inl 560) := (sl_of (j := 35) (i := 0) (o := 560) hh (by decide +kernel : qH.2[211]? = some 53) (rfl : qH.1[53]? = some _) (by decide) rfl rfl).2
    have k8 : sl aw 211 8 = some (.inl 0) := (sl_of (j := 8) (i := 0) (o := 0) hh (by decide +kernel : qH.2[211]? = some 53) (rfl : qH.1[53]? = some _) (by decide) rfl rfl).2
    obtain ⟨v1, w1, y1⟩ := hlv 1 _ rfl
    have i1 : v1 = .inl 0 := (vI_of (y := 0) rfl y1).2
    rw [i1] at w1
    refine Ev_mono (rr_ok1 hM (by omega) hr (hOK_0 he hh rfl) k3 k4 k6 k7 k8 k34 k35 (a := a) (e := e) (s := s) (t := 0) ?_ (hlv 0 _ rfl) w1 hq) ?_
    · exact ⟨Or.inl ⟨rfl, by omega, by omega⟩, by omega, by omega⟩
    · rintro v D' ⟨hv, aw', b1, b2, b3, b4, b5⟩
      refine ⟨aw', b1, b2, b3, ?_⟩
      rcases b5 with ⟨f, f1, f2, f3⟩ | ⟨a', e', t', ⟨q1, q2, q3⟩, f2, f3, f4, f5, f6⟩
      · exact ⟨_, List.mem_of_getElem? (i := 0) rfl, [0, (a : Int), (e : Int), (s : Int)] ++ [(f : Int)], xt_app _ _, eOK2_L ⟨⟨by decide, by decide⟩, ⟨by dsimp only; omega, by dsimp only; omega⟩, ⟨by dsimp only; omega, by dsimp only; omega⟩, ⟨by dsimp only; omega, by dsimp only; omega⟩, ⟨by dsimp only; omega, by dsimp only; omega⟩, trivial⟩ rfl (all_cons ⟨_, _, rfl, rfl, by dsimp only; omega⟩ (all_cons ⟨_, _, rfl, rfl, by dsimp only; omega⟩ all_nil)), hOK_mk b4 (all_cons ⟨_, f3, vN ⟨(f : Int), rfl, Int.add_zero _⟩ (by omega)⟩ all_nil), hv⟩
      · rcases q1 with ⟨t0, t1, t2⟩ | ⟨t0, t1, t2⟩
        · subst t0
          subst t1
          subst t2
          exact ⟨_, List.mem_of_getElem? (i := 1) rfl, _, xt_refl _, he, hOK_mk b4 (all_cons ⟨_, f3, vN ⟨0, rfl, by omega⟩ (by omega)⟩ (all_cons ⟨_, f4, vN ⟨(_ : Int), rfl, Int.add_zero _⟩ (by omega)⟩ (all_cons ⟨_, f5, vN ⟨(_ : Int), rfl, Int.add_zero _⟩ (by omega)⟩ (all_cons ⟨_, f6, vN ⟨0, rfl, by omega⟩ (by omega)⟩ all_nil)))), hv⟩
        · exact ⟨_, List.mem_of_getElem? (i := 2) rfl, [0, (a : Int), (e : Int), (s : Int)] ++ [(t' : Int), (a' : Int), (e' : Int)], xt_app _ _, eOK2_L ⟨⟨by decide, by decide⟩, ⟨by dsimp only; omega, by dsimp only; omega⟩, ⟨by dsimp only; omega, by dsimp only; omega⟩, ⟨by dsimp only; omega, by dsimp only; omega⟩, ⟨by dsimp only; omega, by dsimp only; omega⟩, ⟨by dsimp only; omega, by dsimp only; omega⟩, ⟨by dsimp only; omega, by dsimp only; omega⟩, trivial⟩ rfl (all_cons ⟨_, _, rfl, rfl, by dsimp only; omega⟩ (all_cons ⟨_, _, rfl, rfl, by dsimp only; omega⟩ (all_cons ⟨_, _, rfl, rfl, by dsimp only; omega⟩ (all_cons ⟨_, _, rfl, rfl, by dsimp only; omega⟩ (all_cons ⟨_, _, rfl, rfl, by dsimp only; omega⟩ all_nil))))), hOK_mk b4 (all_cons ⟨_, f3, vN ⟨0, rfl, by omega⟩ (by omega)⟩ (all_cons ⟨_, f4, vN ⟨(a' : Int), rfl, Int.add_zero _⟩ (by omega)⟩ (all_cons ⟨_, f5, vN ⟨(e' : Int), rfl, Int.add_zero _⟩ (by omega)⟩ (all_cons ⟨_, f6, vN ⟨(t' : Int), rfl, Int.add_zero _⟩ (by omega)⟩ all_nil)))), hv⟩
set_option maxHeartbeats 4000000 in
theorem rq_6 {L : List Nat} : CtQ qH QB L ct_6 := by
  intro M d τ Aw D aw hM hd hr he hh hlv hq
  have hd : 8 ≤ d := hd
  obtain ⟨d, rfl⟩ : ∃ d', d = d' + 1 := ⟨d - 1, by omega⟩
  obtain ⟨e1, e2, e3, e4, e5⟩ := id he
  match τ, e1 with
  | [z0, az, ez, sz, tz], _ =>
    cases e2
    obtain ⟨_, n1, n2, n3⟩ := e3 1 _ rfl
    cases n1
    have n2a : (0 : Int) ≤ az := n2
    have n3a : az ≤ (1600 : Int) := n3
    obtain ⟨a, rfl⟩ : ∃ k : Nat, az = (k : Int) := ⟨az.toNat, by omega⟩
    obtain ⟨_, n1, n2, n3⟩ := e3 2 _ rfl
    cases n1
    have n2e : (0 : Int) ≤ ez := n2
    have n3e : ez ≤ (1600 : Int) := n3
    obtain ⟨e, rfl⟩ : ∃ k : Nat, ez = (k : Int) := ⟨ez.toNat, by omega⟩
    obtain ⟨_, n1, n2, n3⟩ := e3 3 _ rfl
    cases n1
    have n2s : (0 : Int) ≤ sz := n2
    have n3s : sz ≤ (1600 : Int) := n3
    obtain ⟨s, rfl⟩ : ∃ k : Nat, sz = (k : Int) := ⟨sz.toNat, by omega⟩
    obtain ⟨_, n1, n2, n3⟩ := e3 4 _ rfl
    cases n1
    have n2t : (1 : Int) ≤ tz := n2
    have n3t : tz ≤ (5 : Int) := n3
    obtain ⟨t, rfl⟩ : ∃ k : Nat, tz = (k : Int) := ⟨tz.toNat, by omega⟩
    obtain ⟨_, _, u1, u2, u3⟩ := e4 (1, 2, 1) (List.mem_of_getElem? (i := 0) rfl)
    cases u1
    cases u2
    have u3 : (a : Int) + 1 ≤ e := u3
    obtain ⟨_, _, m1, m2, m3⟩ := e4 (2, 3, 0) (List.mem_of_getElem? (i := 1) rfl)
    cases m1
    cases m2
    have m3 : (e : Int) + 0 ≤ s := m3
    have k3 := (sl_of (j := 3) (i := 3) (o := 0) hh (by decide +kernel : qH.2[211]? = some 53) (rfl : qH.1[53]? = some _) (by decide) rfl rfl).2
    rw [Int.add_zero, eI_nat (by omega)] at k3
    have k6 := (sl_of (j := 6) (i := 1) (o := 0) hh (by decide +kernel : qH.2[211]? = some 53) (rfl : qH.1[53]? = some _) (by decide) rfl rfl).2
    rw [Int.add_zero, eI_nat (by omega)] at k6
    have k7 := (sl_of (j := 7) (i := 2) (o := 0) hh (by decide +kernel : qH.2[211]? = some 53) (rfl : qH.1[53]? = some _) (by decide) rfl rfl).2
    rw [Int.add_zero, eI_nat (by omega)] at k7
    have k8 := (sl_of (j := 8) (i := 4) (o := 0) hh (by decide +kernel : qH.2[211]? = some 53) (rfl : qH.1[53]? = some _) (by decide) rfl rfl).2
    rw [Int.add_zero, eI_nat (by omega)] at k8
    have k4 : sl aw 211 4 = some (.inl 0) := (sl_of (j := 4) (i := 0) (o := 0) hh (by decide +kernel : qH.2[211]? = some 53) (rfl : qH.1[53]? = some _) (by decide) rfl rfl).2
    have k34 : sl aw 211 34 = some (.inl 1) := (sl_of (j := 34) (i := 0) (o := 1) hh (by decide +kernel : qH.2[211]? = some 53) (rfl : qH.1[53]? = some _) (by decide) rfl rfl).2
    have k35 : sl aw 211 35 = some (.inl 560) := (sl_of (j := 35) (i := 0) (o := 560) hh (by decide +kernel : qH.2[211]? = some 53) (rfl : qH.1[53]? = some _) (by decide) rfl rfl).2
    obtain ⟨v1, w1, y1⟩ := hlv 1 _ rfl
    have i1 : v1 = .inl 0 := (vI_of (y := 0) rfl y1).2
    rw [i1] at w1
    refine Ev_mono (rr_ok1 hM (by omega) hr (hOK_0 he hh rfl) k3 k4 k6 k7 k8 k34 k35 (a := a) (e := e) (s := s) (t := t) ?_ (hlv 0 _ rfl) w1 hq) ?_
    · exact ⟨Or.inr ⟨by omega, by omega, by omega⟩, by omega, by omega⟩
    · rintro v D' ⟨hv, aw', b1, b2, b3, b4, b5⟩
      refine ⟨aw', b1, b2, b3, ?_⟩
      rcases b5 with ⟨f, f1, f2, f3⟩ | ⟨a', e', t', ⟨q1, q2, q3⟩, f2, f3, f4, f5, f6⟩
      · exact ⟨_, List.mem_of_getElem? (i := 0) rfl, [0, (a : Int), (e : Int), (s : Int), (t : Int)] ++ [(f : Int)], xt_app _ _, eOK2_L ⟨⟨by decide, by decide⟩, ⟨by dsimp only; omega, by dsimp only; omega⟩, ⟨by dsimp only; omega, by dsimp only; omega⟩, ⟨by dsimp only; omega, by dsimp only; omega⟩, ⟨by dsimp only; omega, by dsimp only; omega⟩, ⟨by dsimp only; omega, by dsimp only; omega⟩, trivial⟩ rfl (all_cons ⟨_, _, rfl, rfl, by dsimp only; omega⟩ (all_cons ⟨_, _, rfl, rfl, by dsimp only; omega⟩ all_nil)), hOK_mk b4 (all_cons ⟨_, f3, vN ⟨(f : Int), rfl, Int.add_zero _⟩ (by omega)⟩ all_nil), hv⟩
      · rcases q1 with ⟨t0, t1, t2⟩ | ⟨t0, t1, t2⟩
        · subst t0
          subst t1
          subst t2
          exact ⟨_, List.mem_of_getElem? (i := 1) rfl, _, xt_refl _, he, hOK_mk b4 (all_cons ⟨_, f3, vN ⟨0, rfl, by omega⟩ (by omega)⟩ (all_cons ⟨_, f4, vN ⟨(_ : Int), rfl, Int.add_zero _⟩ (by omega)⟩ (all_cons ⟨_, f5, vN ⟨(_ : Int), rfl, Int.add_zero _⟩ (by omega)⟩ (all_cons ⟨_, f6, vN ⟨0, rfl, by omega⟩ (by omega)⟩ all_nil)))), hv⟩
        · exact ⟨_, List.mem_of_getElem? (i := 2) rfl, [0, (a : Int), (e : Int), (s : Int), (t : Int)] ++ [(t' : Int), (a' : Int), (e' : Int)], xt_app _ _, eOK2_L ⟨⟨by decide, by decide⟩, ⟨by dsimp only; omega, by dsimp only; omega⟩, ⟨by dsimp only; omega, by dsimp only; omega⟩, ⟨by dsimp only; omega, by dsimp only; omega⟩, ⟨by dsimp only; omega, by dsimp only; omega⟩, ⟨by dsimp only; omega, by dsimp only; omega⟩, ⟨by dsimp only; omega, by dsimp only; omega⟩, ⟨by dsimp only; omega, by dsimp only; omega⟩, trivial⟩ rfl (all_cons ⟨_, _, rfl, rfl, by dsimp only; omega⟩ (all_cons ⟨_, _, rfl, rfl, by dsimp only; omega⟩ (all_cons ⟨_, _, rfl, rfl, by dsimp only; omega⟩ (all_cons ⟨_, _, rfl, rfl, by dsimp only; omega⟩ (all_cons ⟨_, _, rfl, rfl, by dsimp only; omega⟩ all_nil))))), hOK_mk b4 (all_cons ⟨_, f3, vN ⟨0, rfl, by omega⟩ (by omega)⟩ (all_cons ⟨_, f4, vN ⟨(a' : Int), rfl, Int.add_zero _⟩ (by omega)⟩ (all_cons ⟨_, f5, vN ⟨(e' : Int), rfl, Int.add_zero _⟩ (by omega)⟩ (all_cons ⟨_, f6, vN ⟨(t' : Int), rfl, Int.add_zero _⟩ (by omega)⟩ all_nil)))), hv⟩
