def cs_0 : qCt := (247, 0, true, [], ([.inl 1], [(0, .inr (.inr (some 53))), (1, .inl (1, 0))], ([(0, 0), (0, 1600)], [], []), [((211, 6), .inl (1, 0))]), [([.inl 0], some (.inl (2, 0)), ([(0, 0), (0, 1600), (0, 36)], [], []), [])])
def cr_0 : qCt := (258, 2, true, [], ([], [(0, .inr (.inr (some 53)))], ([(0, 0)], [], []), []), [([], some (.inl (0, 0)), ([(0, 0)], [], []), []), ([], some (.inl (0, 1)), ([(0, 0)], [], []), []), ([], some (.inl (0, 2)), ([(0, 0)], [], []), [])])
set_option maxRecDepth 1000000 in
theorem rk_0 : chkM qH [cs_0] [] 0 1000000 cr_0 [] = true := by decide +kernel
def cs_1 : qCt := (247, 0, true, [], ([.inl 1], [(0, .inr (.inr (some 53))), (1, .inl (1, 0))], ([(0, 0), (0, 1600)], [], []), [((211, 6), .inl (1, 0))]), [([], some (.inl (0, 37)), ([(0, 0), (0, 1600)], [], []), [])])
def cr_1 : qCt := (258, 2, true, [], ([], [(0, .inr (.inr (some 53)))], ([(0, 0)], [], []), []), [([], some (.inl (0, 0)), ([(0, 0)], [], []), []), ([], some (.inl (0, 1)), ([(0, 0)], [], []), []), ([], some (.inl (0, 2)), ([(0, 0)], [], []), []), ([], some (.inl (0, 4)), ([(0, 0)], [], []), []), ([], some (.inl (0, 5)), ([(0, 0)], [], []), []), ([], some (.inl (0, 6)), ([(0, 0)], [], []), [])])
set_option maxRecDepth 1000000 in
theorem rk_1 : chkM qH [cs_1] [] 0 1000000 cr_1 [] = true := by decide +kernel
def cs_2 : qCt := (247, 0, true, [], ([.inl 1], [(0, .inr (.inr (some 53))), (1, .inl (1, 0))], ([(0, 0), (0, 1600)], [], []), [((211, 6), .inl (1, 0))]), [([.inl 0], some (.inl (2, 0)), ([(0, 0), (0, 1600), (38, 41)], [], []), [])])
def cr_2 : qCt := (258, 2, true, [], ([], [(0, .inr (.inr (some 53)))], ([(0, 0)], [], []), []), [([], some (.inl (0, 0)), ([(0, 0)], [], []), []), ([], some (.inl (0, 1)), ([(0, 0)], [], []), []), ([], some (.inl (0, 2)), ([(0, 0)], [], []), [])])
set_option maxRecDepth 1000000 in
theorem rk_2 : chkM qH [cs_2] [] 0 1000000 cr_2 [] = true := by decide +kernel
def cs_3 : qCt := (247, 0, true, [], ([.inl 1], [(0, .inr (.inr (some 53))), (1, .inl (1, 0))], ([(0, 0), (0, 1600)], [], []), [((211, 6), .inl (1, 0))]), [([.inl 0], some (.inl (2, 0)), ([(0, 0), (0, 1600), (42, 43)], [], []), [])])
def cr_3 : qCt := (258, 2, true, [], ([], [(0, .inr (.inr (some 53)))], ([(0, 0)], [], []), []), [([], some (.inl (0, 0)), ([(0, 0)], [], []), []), ([], some (.inl (0, 1)), ([(0, 0)], [], []), []), ([], some (.inl (0, 2)), ([(0, 0)], [], []), []), ([], some (.inl (0, 4)), ([(0, 0)], [], []), []), ([], some (.inl (0, 5)), ([(0, 0)], [], []), []), ([], some (.inl (0, 6)), ([(0, 0)], [], []), [])])
set_option maxRecDepth 1000000 in
theorem rk_3 : chkM qH [cs_3] [] 0 1000000 cr_3 [] = true := by decide +kernel
def cs_4 : qCt := (247, 0, true, [], ([.inl 1], [(0, .inr (.inr (some 53))), (1, .inl (1, 0))], ([(0, 0), (0, 1600)], [], []), [((211, 6), .inl (1, 0))]), [([], some (.inl (0, 44)), ([(0, 0), (0, 1600)], [], []), [])])
def cr_4 : qCt := (258, 2, true, [], ([], [(0, .inr (.inr (some 53)))], ([(0, 0)], [], []), []), [([], some (.inl (0, 0)), ([(0, 0)], [], []), []), ([], some (.inl (0, 1)), ([(0, 0)], [], []), []), ([], some (.inl (0, 2)), ([(0, 0)], [], []), [])])
set_option maxRecDepth 1000000 in
theorem rk_4 : chkM qH [cs_4] [] 0 1000000 cr_4 [] = true := by decide +kernel
def cs_5 : qCt := (247, 0, true, [], ([.inl 1], [(0, .inr (.inr (some 53))), (1, .inl (1, 0))], ([(0, 0), (0, 1600)], [], []), [((211, 6), .inl (1, 0))]), [([], some (.inl (0, 45)), ([(0, 0), (0, 1600)], [], []), [])])
def cr_5 : qCt := (258, 2, true, [], ([], [(0, .inr (.inr (some 53)))], ([(0, 0)], [], []), []), [([], some (.inl (0, 0)), ([(0, 0)], [], []), []), ([], some (.inl (0, 1)), ([(0, 0)], [], []), []), ([], some (.inl (0, 2)), ([(0, 0)], [], []), []), ([], some (.inl (0, 4)), ([(0, 0)], [], []), []), ([], some (.inl (0, 5)), ([(0, 0)], [], []), []), ([], some (.inl (0, 6)), ([(0, 0)], [], []), [])])
set_option maxRecDepth 1000000 in
theorem rk_5 : chkM qH [cs_5] [] 0 1000000 cr_5 [] = true := by decide +kernel
def cs_6 : qCt := (247, 0, true, [], ([.inl 1], [(0, .inr (.inr (some 53))), (1, .inl (1, 0))], ([(0, 0), (0, 1600)], [], []), [((211, 6), .inl (1, 0))]), [([], some (.inl (0, 46)), ([(0, 0), (0, 1600)], [], []), [])])
def cr_6 : qCt := (258, 2, true, [], ([], [(0, .inr (.inr (some 53)))], ([(0, 0)], [], []), []), [([], some (.inl (0, 0)), ([(0, 0)], [], []), []), ([], some (.inl (0, 1)), ([(0, 0)], [], []), []), ([], some (.inl (0, 2)), ([(0, 0)], [], []), [])])
set_option maxRecDepth 1000000 in
theorem rk_6 : chkM qH [cs_6] [] 0 1000000 cr_6 [] = true := by decide +kernel
def cs_7 : qCt := (247, 0, true, [], ([.inl 1], [(0, .inr (.inr (some 53))), (1, .inl (1, 0))], ([(0, 0), (0, 1600)], [], []), [((211, 6), .inl (1, 0))]), [([], some (.inl (0, 47)), ([(0, 0), (0, 1600)], [], []), [])])
def cr_7 : qCt := (258, 2, true, [], ([], [(0, .inr (.inr (some 53)))], ([(0, 0)], [], []), []), [([], some (.inl (0, 0)), ([(0, 0)], [], []), []), ([], some (.inl (0, 1)), ([(0, 0)], [], []), []), ([], some (.inl (0, 2)), ([(0, 0)], [], []), []), ([], some (.inl (0, 4)), ([(0, 0)], [], []), []), ([], some (.inl (0, 5)), ([(0, 0)], [], []), []), ([], some (.inl (0, 6)), ([(0, 0)], [], []), [])])
set_option maxRecDepth 1000000 in
theorem rk_7 : chkM qH [cs_7] [] 0 1000000 cr_7 [] = true := by decide +kernel
def cs_8 : qCt := (247, 0, true, [], ([.inl 1], [(0, .inr (.inr (some 53))), (1, .inl (1, 0))], ([(0, 0), (0, 1600)], [], []), [((211, 6), .inl (1, 0))]), [([.inl 0], some (.inl (2, 0)), ([(0, 0), (0, 1600), (48, 59)], [], []), [])])
def cr_8 : qCt := (258, 2, true, [], ([], [(0, .inr (.inr (some 53)))], ([(0, 0)], [], []), []), [([], some (.inl (0, 0)), ([(0, 0)], [], []), []), ([], some (.inl (0, 1)), ([(0, 0)], [], []), []), ([], some (.inl (0, 2)), ([(0, 0)], [], []), [])])
set_option maxRecDepth 1000000 in
theorem rk_8 : chkM qH [cs_8] [] 0 1000000 cr_8 [] = true := by decide +kernel
def cs_9 : qCt := (247, 0, true, [], ([.inl 1], [(0, .inr (.inr (some 53))), (1, .inl (1, 0))], ([(0, 0), (0, 1600)], [], []), [((211, 6), .inl (1, 0))]), [([.inl 0], some (.inl (2, 0)), ([(0, 0), (0, 1600), (60, 62)], [], []), [])])
def cr_9 : qCt := (258, 2, true, [], ([], [(0, .inr (.inr (some 53)))], ([(0, 0)], [], []), []), [([], some (.inl (0, 0)), ([(0, 0)], [], []), []), ([], some (.inl (0, 1)), ([(0, 0)], [], []), []), ([], some (.inl (0, 2)), ([(0, 0)], [], []), []), ([], some (.inl (0, 4)), ([(0, 0)], [], []), []), ([], some (.inl (0, 5)), ([(0, 0)], [], []), []), ([], some (.inl (0, 6)), ([(0, 0)], [], []), [])])
set_option maxRecDepth 1000000 in
theorem rk_9 : chkM qH [cs_9] [] 0 1000000 cr_9 [] = true := by decide +kernel
def cs_10 : qCt := (247, 0, true, [], ([.inl 1], [(0, .inr (.inr (some 53))), (1, .inl (1, 0))], ([(0, 0), (0, 1600)], [], []), [((211, 6), .inl (1, 0))]), [([.inl 0], some (.inl (2, 0)), ([(0, 0), (0, 1600), (63, 255)], [], []), [])])
def cr_10 : qCt := (258, 2, true, [], ([], [(0, .inr (.inr (some 53)))], ([(0, 0)], [], []), []), [([], some (.inl (0, 0)), ([(0, 0)], [], []), []), ([], some (.inl (0, 1)), ([(0, 0)], [], []), []), ([], some (.inl (0, 2)), ([(0, 0)], [], []), [])])
set_option maxRecDepth 1000000 in
theorem rk_10 : chkM qH [cs_10] [] 0 1000000 cr_10 [] = true := by decide +kernel
/-! by hand: which operator stands here, and that its sign is an operator's -/
def QS (lo hi : Nat) (aw : List rC) : Prop := ∃ a, a ≤ 1600 ∧ sl aw 211 6 = some (.inl a) ∧ lo ≤ SGN aw a ∧ SGN aw a ≤ hi
theorem QS_lasts (lo hi : Nat) : lasts qH (QS lo hi) [53, 55] := by
  intro aw aw' hl hs h
  obtain ⟨a, h1, h2, h3, h4⟩ := h
  have e1 : sl aw' 211 6 = sl aw 211 6 := hs 211 53 6 (by decide +kernel) (by decide)
  have e2 : SGN aw' a = SGN aw a := by
    unfold SGN
    rw [hs 211 53 3 (by decide +kernel) (by decide), hs 213 55 a (by decide +kernel) (by decide)]
  exact ⟨a, h1, by rw [e1]; exact h2, by rw [e2]; exact h3, by rw [e2]; exact h4⟩
theorem list2 {τ : List Int} {a b : Int} (hl : τ.length = 2) (h0 : τ[0]? = some a) (h1 : τ[1]? = some b) : τ = [a, b] := by
  match τ, hl with
  | [x, y], _ =>
    simp at h0 h1
    rw [h0, h1]
/-- what a call of sign(at) gives under QS -/
theorem sgQ {L : List Nat} {M : rM} (hM : mT 247 = some M) {d lo hi : Nat} {τ : List Int} {Aw : List rV} {D : rD} {aw : List rC} (hr : rep D aw) (he : eOK2 τ ([(0, 0), (0, 1600)], [], [])) (hh : hOK qH τ [((211, 6), .inl (1, 0))] aw) (hlv : lvOK qH τ [(0, .inr (.inr (some 53))), (1, .inl (1, 0))] (argsL Aw 0)) (hq : QS lo hi aw) {md : List (Nat × Nat)} {posts : List qPo} (hp : ∀ (g : Nat) (k : Int), lo ≤ g → g ≤ hi → τ = [0, k] → (0 : Int) ≤ k → k ≤ 1600 → ∀ aw', hOK qH [0] [] aw' → ∃ o ∈ posts, ∃ τ1, xt τ τ1 ∧ eOK2 τ1 o.2.2.1 ∧ hOK qH τ1 o.2.2.2 aw' ∧ resOK qH τ1 o.2.1 (some (.inl g))) : Ev L d M (0, argsL Aw 0, [], D, 0, 0) (fun v D' => ∃ aw', rep D' aw' ∧ ag qH md aw aw' ∧ ∃ o ∈ posts, ∃ τ1, xt τ τ1 ∧ eOK2 τ1 o.2.2.1 ∧ hOK qH τ1 o.2.2.2 aw' ∧ resOK qH τ1 o.2.1 v) := by
  obtain ⟨k, k1, k2, k3⟩ := he.2.2.1 1 _ rfl
  have k2 : (0 : Int) ≤ k := k2
  have k3 : k ≤ 1600 := k3
  have hτ := list2 he.1.symm he.2.1 k1
  obtain ⟨f1, f2⟩ := sl_of hh (by decide +kernel : qH.2[211]? = some 53) (rfl : qH.1[53]? = some _) (show 6 < 66 by decide) (rfl : kf [((211, 6), (.inl (1, 0) : qV))] 211 6 = some (.inl (1, 0))) k1
  obtain ⟨a, q1, q2, q3, q4⟩ := hq
  rw [Int.add_zero] at f2
  rw [f2] at q2
  have ha : eI k = a := by injection q2 with e; injection e
  obtain ⟨v0, w0, y0⟩ := hlv 0 _ rfl
  obtain ⟨v1, w1, y1⟩ := hlv 1 _ rfl
  have i1 := (vI_of k1 y1).2
  rw [Int.add_zero, ha] at i1
  rw [i1] at w1
  refine Ev_mono (sign_ok hM a (by omega) hr (hOK_0 he hh rfl) ⟨_, w0, y0⟩ w1) ?_
  rintro v D' ⟨aw', a1, a2, a3, a4⟩
  subst a4
  exact ⟨aw', a1, ag_sub (a := []) rfl a2, hp _ k q3 q4 hτ k2 k3 aw' a3⟩
def opc (g : Nat) : Prop := g ≠ 126 ∧ ¬ (97 ≤ g ∧ g ≤ 122)
theorem cso_0 {L : List Nat} : CtOK qH (QS 0 36) L cs_0 := by
  intro M d τ Aw D aw hM hd hr he hh hlv hq
  exact sgQ hM hr he hh hlv (hq rfl) (fun g k h1 h2 ht k2 k3 aw' h' => ⟨_, List.mem_singleton.mpr rfl, [0, k, (g : Int)], by subst ht; exact xt_app [0, k] [(g : Int)], eOK2_L ⟨⟨by decide, by decide⟩, ⟨k2, k3⟩, ⟨by dsimp only; omega, by dsimp only; omega⟩, trivial⟩ rfl all_nil, hOK_nil h', _, rfl, vI (y := (g : Int)) rfl (Int.add_zero _).symm ⟨by omega, by omega⟩ (eI_nat (by omega)).symm⟩)
theorem cro_0 {L : List Nat} : CtOK qH (QS 0 36) L cr_0 := chkM_ok (QS_lasts 0 36) qH_w (all_cons cso_0 all_nil) (by decide +kernel) rk_0
theorem cso_1 {L : List Nat} : CtOK qH (QS 37 37) L cs_1 := by
  intro M d τ Aw D aw hM hd hr he hh hlv hq
  exact sgQ hM hr he hh hlv (hq rfl) (fun g k h1 h2 ht k2 k3 aw' h' => ⟨_, List.mem_singleton.mpr rfl, [0, k], by subst ht; exact xt_refl _, eOK2_L ⟨⟨by decide, by decide⟩, ⟨k2, k3⟩, trivial⟩ rfl all_nil, hOK_nil h', _, rfl, by have e : g = 37 := (by omega); rw [e]; exact vI (y := 0) (z := 37) rfl (by decide) ⟨by decide, by decide⟩ (by decide)⟩)
theorem cro_1 {L : List Nat} : CtOK qH (QS 37 37) L cr_1 := chkM_ok (QS_lasts 37 37) qH_w (all_cons cso_1 all_nil) (by decide +kernel) rk_1
theorem cso_2 {L : List Nat} : CtOK qH (QS 38 41) L cs_2 := by
  intro M d τ Aw D aw hM hd hr he hh hlv hq
  exact sgQ hM hr he hh hlv (hq rfl) (fun g k h1 h2 ht k2 k3 aw' h' => ⟨_, List.mem_singleton.mpr rfl, [0, k, (g : Int)], by subst ht; exact xt_app [0, k] [(g : Int)], eOK2_L ⟨⟨by decide, by decide⟩, ⟨k2, k3⟩, ⟨by dsimp only; omega, by dsimp only; omega⟩, trivial⟩ rfl all_nil, hOK_nil h', _, rfl, vI (y := (g : Int)) rfl (Int.add_zero _).symm ⟨by omega, by omega⟩ (eI_nat (by omega)).symm⟩)
theorem cro_2 {L : List Nat} : CtOK qH (QS 38 41) L cr_2 := chkM_ok (QS_lasts 38 41) qH_w (all_cons cso_2 all_nil) (by decide +kernel) rk_2
theorem cso_3 {L : List Nat} : CtOK qH (QS 42 43) L cs_3 := by
  intro M d τ Aw D aw hM hd hr he hh hlv hq
  exact sgQ hM hr he hh hlv (hq rfl) (fun g k h1 h2 ht k2 k3 aw' h' => ⟨_, List.mem_singleton.mpr rfl, [0, k, (g : Int)], by subst ht; exact xt_app [0, k] [(g : Int)], eOK2_L ⟨⟨by decide, by decide⟩, ⟨k2, k3⟩, ⟨by dsimp only; omega, by dsimp only; omega⟩, trivial⟩ rfl all_nil, hOK_nil h', _, rfl, vI (y := (g : Int)) rfl (Int.add_zero _).symm ⟨by omega, by omega⟩ (eI_nat (by omega)).symm⟩)
theorem cro_3 {L : List Nat} : CtOK qH (QS 42 43) L cr_3 := chkM_ok (QS_lasts 42 43) qH_w (all_cons cso_3 all_nil) (by decide +kernel) rk_3
theorem cso_4 {L : List Nat} : CtOK qH (QS 44 44) L cs_4 := by
  intro M d τ Aw D aw hM hd hr he hh hlv hq
  exact sgQ hM hr he hh hlv (hq rfl) (fun g k h1 h2 ht k2 k3 aw' h' => ⟨_, List.mem_singleton.mpr rfl, [0, k], by subst ht; exact xt_refl _, eOK2_L ⟨⟨by decide, by decide⟩, ⟨k2, k3⟩, trivial⟩ rfl all_nil, hOK_nil h', _, rfl, by have e : g = 44 := (by omega); rw [e]; exact vI (y := 0) (z := 44) rfl (by decide) ⟨by decide, by decide⟩ (by decide)⟩)
theorem cro_4 {L : List Nat} : CtOK qH (QS 44 44) L cr_4 := chkM_ok (QS_lasts 44 44) qH_w (all_cons cso_4 all_nil) (by decide +kernel) rk_4
theorem cso_5 {L : List Nat} : CtOK qH (QS 45 45) L cs_5 := by
  intro M d τ Aw D aw hM hd hr he hh hlv hq
  exact sgQ hM hr he hh hlv (hq rfl) (fun g k h1 h2 ht k2 k3 aw' h' => ⟨_, List.mem_singleton.mpr rfl, [0, k], by subst ht; exact xt_refl _, eOK2_L ⟨⟨by decide, by decide⟩, ⟨k2, k3⟩, trivial⟩ rfl all_nil, hOK_nil h', _, rfl, by have e : g = 45 := (by omega); rw [e]; exact vI (y := 0) (z := 45) rfl (by decide) ⟨by decide, by decide⟩ (by decide)⟩)
theorem cro_5 {L : List Nat} : CtOK qH (QS 45 45) L cr_5 := chkM_ok (QS_lasts 45 45) qH_w (all_cons cso_5 all_nil) (by decide +kernel) rk_5
theorem cso_6 {L : List Nat} : CtOK qH (QS 46 46) L cs_6 := by
  intro M d τ Aw D aw hM hd hr he hh hlv hq
  exact sgQ hM hr he hh hlv (hq rfl) (fun g k h1 h2 ht k2 k3 aw' h' => ⟨_, List.mem_singleton.mpr rfl, [0, k], by subst ht; exact xt_refl _, eOK2_L ⟨⟨by decide, by decide⟩, ⟨k2, k3⟩, trivial⟩ rfl all_nil, hOK_nil h', _, rfl, by have e : g = 46 := (by omega); rw [e]; exact vI (y := 0) (z := 46) rfl (by decide) ⟨by decide, by decide⟩ (by decide)⟩)
theorem cro_6 {L : List Nat} : CtOK qH (QS 46 46) L cr_6 := chkM_ok (QS_lasts 46 46) qH_w (all_cons cso_6 all_nil) (by decide +kernel) rk_6
theorem cso_7 {L : List Nat} : CtOK qH (QS 47 47) L cs_7 := by
  intro M d τ Aw D aw hM hd hr he hh hlv hq
  exact sgQ hM hr he hh hlv (hq rfl) (fun g k h1 h2 ht k2 k3 aw' h' => ⟨_, List.mem_singleton.mpr rfl, [0, k], by subst ht; exact xt_refl _, eOK2_L ⟨⟨by decide, by decide⟩, ⟨k2, k3⟩, trivial⟩ rfl all_nil, hOK_nil h', _, rfl, by have e : g = 47 := (by omega); rw [e]; exact vI (y := 0) (z := 47) rfl (by decide) ⟨by decide, by decide⟩ (by decide)⟩)
theorem cro_7 {L : List Nat} : CtOK qH (QS 47 47) L cr_7 := chkM_ok (QS_lasts 47 47) qH_w (all_cons cso_7 all_nil) (by decide +kernel) rk_7
theorem cso_8 {L : List Nat} : CtOK qH (QS 48 59) L cs_8 := by
  intro M d τ Aw D aw hM hd hr he hh hlv hq
  exact sgQ hM hr he hh hlv (hq rfl) (fun g k h1 h2 ht k2 k3 aw' h' => ⟨_, List.mem_singleton.mpr rfl, [0, k, (g : Int)], by subst ht; exact xt_app [0, k] [(g : Int)], eOK2_L ⟨⟨by decide, by decide⟩, ⟨k2, k3⟩, ⟨by dsimp only; omega, by dsimp only; omega⟩, trivial⟩ rfl all_nil, hOK_nil h', _, rfl, vI (y := (g : Int)) rfl (Int.add_zero _).symm ⟨by omega, by omega⟩ (eI_nat (by omega)).symm⟩)
theorem cro_8 {L : List Nat} : CtOK qH (QS 48 59) L cr_8 := chkM_ok (QS_lasts 48 59) qH_w (all_cons cso_8 all_nil) (by decide +kernel) rk_8
theorem cso_9 {L : List Nat} : CtOK qH (QS 60 62) L cs_9 := by
  intro M d τ Aw D aw hM hd hr he hh hlv hq
  exact sgQ hM hr he hh hlv (hq rfl) (fun g k h1 h2 ht k2 k3 aw' h' => ⟨_, List.mem_singleton.mpr rfl, [0, k, (g : Int)], by subst ht; exact xt_app [0, k] [(g : Int)], eOK2_L ⟨⟨by decide, by decide⟩, ⟨k2, k3⟩, ⟨by dsimp only; omega, by dsimp only; omega⟩, trivial⟩ rfl all_nil, hOK_nil h', _, rfl, vI (y := (g : Int)) rfl (Int.add_zero _).symm ⟨by omega, by omega⟩ (eI_nat (by omega)).symm⟩)
theorem cro_9 {L : List Nat} : CtOK qH (QS 60 62) L cr_9 := chkM_ok (QS_lasts 60 62) qH_w (all_cons cso_9 all_nil) (by decide +kernel) rk_9
theorem cso_10 {L : List Nat} : CtOK qH (QS 63 255) L cs_10 := by
  intro M d τ Aw D aw hM hd hr he hh hlv hq
  exact sgQ hM hr he hh hlv (hq rfl) (fun g k h1 h2 ht k2 k3 aw' h' => ⟨_, List.mem_singleton.mpr rfl, [0, k, (g : Int)], by subst ht; exact xt_app [0, k] [(g : Int)], eOK2_L ⟨⟨by decide, by decide⟩, ⟨k2, k3⟩, ⟨by dsimp only; omega, by dsimp only; omega⟩, trivial⟩ rfl all_nil, hOK_nil h', _, rfl, vI (y := (g : Int)) rfl (Int.add_zero _).symm ⟨by omega, by omega⟩ (eI_nat (by omega)).symm⟩)
theorem cro_10 {L : List Nat} : CtOK qH (QS 63 255) L cr_10 := chkM_ok (QS_lasts 63 255) qH_w (all_cons cso_10 all_nil) (by decide +kernel) rk_10
theorem rank_ok {L : List Nat} {M : rM} (hM : mT 258 = some M) {d : Nat} (hd : 2 ≤ d) {Aw : List rV} {D : rD} {aw : List rC} {a : Nat} (hr : rep D aw) (hh : hOK qH [0] [] aw) (ha : sl aw 211 6 = some (.inl a)) (ha6 : a ≤ 1600) (h0 : ∃ v, lget (argsL Aw 0) 0 = some v ∧ vOK qH [] (.inr (.inr (some 53))) v) : Ev L d M (0, argsL Aw 0, [], D, 0, 0) (fun v D' => ∃ aw' k, rep D' aw' ∧ ag qH [] aw aw' ∧ hOK qH [0] [] aw' ∧ v = some (.inl k) ∧ (k = 0 ∨ k = 1 ∨ k = 2 ∨ ((k = 4 ∨ k = 5 ∨ k = 6) ∧ opc (SGN aw a)))) := by
  have hg := SGN_le aw a
  have he : eOK2 [0] ([(0, 0)], [], []) := eOK2_L ⟨⟨by decide, by decide⟩, trivial⟩ rfl all_nil
  have fin3 : ∀ {posts : List qPo} (hp : posts = [([], some (.inl (0, 0)), ([(0, 0)], [], []), []), ([], some (.inl (0, 1)), ([(0, 0)], [], []), []), ([], some (.inl (0, 2)), ([(0, 0)], [], []), [])]) (v : Option rV) (D' : rD), (∃ aw', rep D' aw' ∧ ag qH [] aw aw' ∧ ∃ o ∈ posts, ∃ τ1, xt [0] τ1 ∧ eOK2 τ1 o.2.2.1 ∧ hOK qH τ1 o.2.2.2 aw' ∧ resOK qH τ1 o.2.1 v) → ∃ aw' k, rep D' aw' ∧ ag qH [] aw aw' ∧ hOK qH [0] [] aw' ∧ v = some (.inl k) ∧ (k = 0 ∨ k = 1 ∨ k = 2 ∨ ((k = 4 ∨ k = 5 ∨ k = 6) ∧ opc (SGN aw a))) := by
    intro posts hp v D' h
    subst hp
    obtain ⟨aw', b1, b2, o, b3, τ1, b4, b5, b6, b7⟩ := h
    rcases List.mem_cons.mp b3 with b3 | b3
    · subst b3
      obtain ⟨w, w1, w2⟩ := b7
      have w3 := (vI_of (b4 0 0 rfl) w2).2
      exact ⟨aw', 0, b1, b2, hOK_nil b6, by rw [w1, w3]; rfl, Or.inl rfl⟩
    · rcases List.mem_cons.mp b3 with b3 | b3
      · subst b3
        obtain ⟨w, w1, w2⟩ := b7
        have w3 := (vI_of (b4 0 0 rfl) w2).2
        exact ⟨aw', 1, b1, b2, hOK_nil b6, by rw [w1, w3]; rfl, Or.inr (Or.inl rfl)⟩
      · have b3 := List.mem_singleton.mp b3
        subst b3
        obtain ⟨w, w1, w2⟩ := b7
        have w3 := (vI_of (b4 0 0 rfl) w2).2
        exact ⟨aw', 2, b1, b2, hOK_nil b6, by rw [w1, w3]; rfl, Or.inr (Or.inr (Or.inl rfl))⟩
  have fin6 : opc (SGN aw a) → ∀ {posts : List qPo} (hp : posts = [([], some (.inl (0, 0)), ([(0, 0)], [], []), []), ([], some (.inl (0, 1)), ([(0, 0)], [], []), []), ([], some (.inl (0, 2)), ([(0, 0)], [], []), []), ([], some (.inl (0, 4)), ([(0, 0)], [], []), []), ([], some (.inl (0, 5)), ([(0, 0)], [], []), []), ([], some (.inl (0, 6)), ([(0, 0)], [], []), [])]) (v : Option rV) (D' : rD), (∃ aw', rep D' aw' ∧ ag qH [] aw aw' ∧ ∃ o ∈ posts, ∃ τ1, xt [0] τ1 ∧ eOK2 τ1 o.2.2.1 ∧ hOK qH τ1 o.2.2.2 aw' ∧ resOK qH τ1 o.2.1 v) → ∃ aw' k, rep D' aw' ∧ ag qH [] aw aw' ∧ hOK qH [0] [] aw' ∧ v = some (.inl k) ∧ (k = 0 ∨ k = 1 ∨ k = 2 ∨ ((k = 4 ∨ k = 5 ∨ k = 6) ∧ opc (SGN aw a))) := by
    intro ho posts hp v D' h
    subst hp
    obtain ⟨aw', b1, b2, o, b3, τ1, b4, b5, b6, b7⟩ := h
    have key : ∀ n : Nat, o = ([], some (.inl (0, (n : Int))), ([(0, 0)], [], []), []) → n < 10 → hOK qH [0] [] aw' ∧ v = some (.inl n) := by
      intro n e hn
      subst e
      obtain ⟨w, w1, w2⟩ := b7
      have w3 := (vI_of (b4 0 0 rfl) w2).2
      exact ⟨hOK_nil b6, by rw [w1, w3, Int.zero_add, eI_nat (by omega)]⟩
    rcases List.mem_cons.mp b3 with b3 | b3
    · obtain ⟨k1, k2⟩ := key 0 b3 (by decide)
      exact ⟨aw', 0, b1, b2, k1, k2, Or.inl rfl⟩
    · rcases List.mem_cons.mp b3 with b3 | b3
      · obtain ⟨k1, k2⟩ := key 1 b3 (by decide)
        exact ⟨aw', 1, b1, b2, k1, k2, Or.inr (Or.inl rfl)⟩
      · rcases List.mem_cons.mp b3 with b3 | b3
        · obtain ⟨k1, k2⟩ := key 2 b3 (by decide)
          exact ⟨aw', 2, b1, b2, k1, k2, Or.inr (Or.inr (Or.inl rfl))⟩
        · rcases List.mem_cons.mp b3 with b3 | b3
          · obtain ⟨k1, k2⟩ := key 4 b3 (by decide)
            exact ⟨aw', 4, b1, b2, k1, k2, Or.inr (Or.inr (Or.inr ⟨Or.inl rfl, ho⟩))⟩
          · rcases List.mem_cons.mp b3 with b3 | b3
            · obtain ⟨k1, k2⟩ := key 5 b3 (by decide)
              exact ⟨aw', 5, b1, b2, k1, k2, Or.inr (Or.inr (Or.inr ⟨Or.inr (Or.inl rfl), ho⟩))⟩
            · have b3 := List.mem_singleton.mp b3
              obtain ⟨k1, k2⟩ := key 6 b3 (by decide)
              exact ⟨aw', 6, b1, b2, k1, k2, Or.inr (Or.inr (Or.inr ⟨Or.inr (Or.inr rfl), ho⟩))⟩
  have hlv : lvOK qH [0] [(0, .inr (.inr (some 53)))] (argsL Aw 0) := lvOK_cons h0 lvOK_nil
  by_cases h0 : SGN aw a ≤ 36
  · exact Ev_mono (cro_0 M d [0] Aw D aw hM (by exact hd) hr he (hOK_nil hh) hlv (fun _ => ⟨a, ha6, ha, by omega, by omega⟩)) (fun v D' h => fin3 rfl v D' h)
  by_cases h1 : SGN aw a ≤ 37
  · exact Ev_mono (cro_1 M d [0] Aw D aw hM (by exact hd) hr he (hOK_nil hh) hlv (fun _ => ⟨a, ha6, ha, by omega, by omega⟩)) (fun v D' h => fin6 ⟨by omega, by omega⟩ rfl v D' h)
  by_cases h2 : SGN aw a ≤ 41
  · exact Ev_mono (cro_2 M d [0] Aw D aw hM (by exact hd) hr he (hOK_nil hh) hlv (fun _ => ⟨a, ha6, ha, by omega, by omega⟩)) (fun v D' h => fin3 rfl v D' h)
  by_cases h3 : SGN aw a ≤ 43
  · exact Ev_mono (cro_3 M d [0] Aw D aw hM (by exact hd) hr he (hOK_nil hh) hlv (fun _ => ⟨a, ha6, ha, by omega, by omega⟩)) (fun v D' h => fin6 ⟨by omega, by omega⟩ rfl v D' h)
  by_cases h4 : SGN aw a ≤ 44
  · exact Ev_mono (cro_4 M d [0] Aw D aw hM (by exact hd) hr he (hOK_nil hh) hlv (fun _ => ⟨a, ha6, ha, by omega, by omega⟩)) (fun v D' h => fin3 rfl v D' h)
  by_cases h5 : SGN aw a ≤ 45
  · exact Ev_mono (cro_5 M d [0] Aw D aw hM (by exact hd) hr he (hOK_nil hh) hlv (fun _ => ⟨a, ha6, ha, by omega, by omega⟩)) (fun v D' h => fin6 ⟨by omega, by omega⟩ rfl v D' h)
  by_cases h6 : SGN aw a ≤ 46
  · exact Ev_mono (cro_6 M d [0] Aw D aw hM (by exact hd) hr he (hOK_nil hh) hlv (fun _ => ⟨a, ha6, ha, by omega, by omega⟩)) (fun v D' h => fin3 rfl v D' h)
  by_cases h7 : SGN aw a ≤ 47
  · exact Ev_mono (cro_7 M d [0] Aw D aw hM (by exact hd) hr he (hOK_nil hh) hlv (fun _ => ⟨a, ha6, ha, by omega, by omega⟩)) (fun v D' h => fin6 ⟨by omega, by omega⟩ rfl v D' h)
  by_cases h8 : SGN aw a ≤ 59
  · exact Ev_mono (cro_8 M d [0] Aw D aw hM (by exact hd) hr he (hOK_nil hh) hlv (fun _ => ⟨a, ha6, ha, by omega, by omega⟩)) (fun v D' h => fin3 rfl v D' h)
  by_cases h9 : SGN aw a ≤ 62
  · exact Ev_mono (cro_9 M d [0] Aw D aw hM (by exact hd) hr he (hOK_nil hh) hlv (fun _ => ⟨a, ha6, ha, by omega, by omega⟩)) (fun v D' h => fin6 ⟨by omega, by omega⟩ rfl v D' h)
  exact Ev_mono (cro_10 M d [0] Aw D aw hM (by exact hd) hr he (hOK_nil hh) hlv (fun _ => ⟨a, ha6, ha, by omega, by omega⟩)) (fun v D' h => fin3 rfl v D' h)
