/-! the law's loop -/
def LCT : List qCt := [ct_47, ct_220, ct_53, ct_226, ct_55, ct_227, ct_57, ct_228, ct_106, ct_276, ct_112, ct_280, ct_117, ct_298, ct_119, ct_123, ct_192, ct_284, ct_295, ct_17, ct_197, ct_20, ct_21, ct_199, ct_35, ct_210, ct_36, ct_211, ct_38, ct_213, ct_40, ct_214, ct_63, ct_235, ct_65, ct_237, ct_75, ct_246, ct_87, ct_265, ct_90, ct_267, ct_114, ct_281, ct_127, ct_134, ct_293, ct_193, ct_296, ct_198, ct_287, ct_33, ct_208, ct_34, ct_209, ct_88, ct_266, ct_108, ct_278, ct_110, ct_279, ct_115, ct_282, ct_125, ct_126, ct_129, ct_130, ct_289, ct_133, ct_292, ct_37, ct_212, ct_285, ct_286, ct_288, ct_77, ct_248, ct_83, ct_262, ct_85, ct_264, ct_96, ct_272, ct_195, ct_297]
theorem LCT_ok {L : List Nat} : ∀ ct ∈ LCT, CtQ qH QB L ct := (all_cons (CtQ_of QB_lasts (co_47) (by decide +kernel)) (all_cons (CtQ_of QB_lasts (co_220 co_0) (by decide +kernel)) (all_cons (CtQ_of QB_lasts (co_53) (by decide +kernel)) (all_cons (CtQ_of QB_lasts (co_226 co_0) (by decide +kernel)) (all_cons (CtQ_of QB_lasts (co_55) (by decide +kernel)) (all_cons (CtQ_of QB_lasts (co_227) (by decide +kernel)) (all_cons (CtQ_of QB_lasts (co_57) (by decide +kernel)) (all_cons (CtQ_of QB_lasts (co_228 co_0) (by decide +kernel)) (all_cons (CtQ_of QB_lasts (co_106) (by decide +kernel)) (all_cons (CtQ_of QB_lasts (co_276 co_0) (by decide +kernel)) (all_cons (CtQ_of QB_lasts (co_112) (by decide +kernel)) (all_cons (CtQ_of QB_lasts (co_280 co_0) (by decide +kernel)) (all_cons (CtQ_of QB_lasts (co_117) (by decide +kernel)) (all_cons (CtQ_of QB_lasts (co_298) (by decide +kernel)) (all_cons (CtQ_of QB_lasts (co_119) (by decide +kernel)) (all_cons (CtQ_of QB_lasts (co_123) (by decide +kernel)) (all_cons (CtQ_of QB_lasts (co_192) (by decide +kernel)) (all_cons (CtQ_of QB_lasts (co_284 co_0) (by decide +kernel)) (all_cons cq_295 (all_cons (CtQ_of QB_lasts (co_17) (by decide +kernel)) (all_cons (CtQ_of QB_lasts (co_197) (by decide +kernel)) (all_cons (CtQ_of QB_lasts (co_20) (by decide +kernel)) (all_cons (CtQ_of QB_lasts (co_21) (by decide +kernel)) (all_cons (CtQ_of QB_lasts (co_199) (by decide +kernel)) (all_cons (CtQ_of QB_lasts (co_35) (by decide +kernel)) (all_cons (CtQ_of QB_lasts (co_210 co_0) (by decide +kernel)) (all_cons (CtQ_of QB_lasts (co_36) (by decide +kernel)) (all_cons (CtQ_of QB_lasts (co_211) (by decide +kernel)) (all_cons (CtQ_of QB_lasts (co_38) (by decide +kernel)) (all_cons (CtQ_of QB_lasts (co_213) (by decide +kernel)) (all_cons (CtQ_of QB_lasts (co_40) (by decide +kernel)) (all_cons (CtQ_of QB_lasts (co_214 co_0) (by decide +kernel)) (all_cons (CtQ_of QB_lasts (co_63) (by decide +kernel)) (all_cons (CtQ_of QB_lasts (co_235 co_0) (by decide +kernel)) (all_cons (CtQ_of QB_lasts (co_65) (by decide +kernel)) (all_cons (CtQ_of QB_lasts (co_237 co_0) (by decide +kernel)) (all_cons (CtQ_of QB_lasts (co_75) (by decide +kernel)) (all_cons (CtQ_of QB_lasts (co_246 co_0 co_1) (by decide +kernel)) (all_cons (CtQ_of QB_lasts (co_87) (by decide +kernel)) (all_cons (CtQ_of QB_lasts (co_265 co_0) (by decide +kernel)) (all_cons (CtQ_of QB_lasts (co_90) (by decide +kernel)) (all_cons (CtQ_of QB_lasts (co_267 co_0) (by decide +kernel)) (all_cons (CtQ_of QB_lasts (co_114) (by decide +kernel)) (all_cons (CtQ_of QB_lasts (co_281 co_0) (by decide +kernel)) (all_cons (CtQ_of QB_lasts (co_127) (by decide +kernel)) (all_cons (CtQ_of QB_lasts (co_134) (by decide +kernel)) (all_cons (CtQ_of QB_lasts (co_293) (by decide +kernel)) (all_cons (CtQ_of QB_lasts (co_193) (by decide +kernel)) (all_cons (CtQ_of QB_lasts (co_296) (by decide +kernel)) (all_cons (CtQ_of QB_lasts (co_198) (by decide +kernel)) (all_cons (CtQ_of QB_lasts (co_287) (by decide +kernel)) (all_cons (CtQ_of QB_lasts (co_33) (by decide +kernel)) (all_cons (CtQ_of QB_lasts (co_208 co_0) (by decide +kernel)) (all_cons (CtQ_of QB_lasts (co_34) (by decide +kernel)) (all_cons (CtQ_of QB_lasts (co_209 co_0) (by decide +kernel)) (all_cons (CtQ_of QB_lasts (co_88) (by decide +kernel)) (all_cons (CtQ_of QB_lasts (co_266 co_0) (by decide +kernel)) (all_cons (CtQ_of QB_lasts (co_108) (by decide +kernel)) (all_cons (CtQ_of QB_lasts (co_278 co_0) (by decide +kernel)) (all_cons (CtQ_of QB_lasts (co_110) (by decide +kernel)) (all_cons (CtQ_of QB_lasts (co_279 co_0 co_1) (by decide +kernel)) (all_cons (CtQ_of QB_lasts (co_115) (by decide +kernel)) (all_cons (CtQ_of QB_lasts (co_282 co_0) (by decide +kernel)) (all_cons (CtQ_of QB_lasts (co_125) (by decide +kernel)) (all_cons (CtQ_of QB_lasts (co_126) (by decide +kernel)) (all_cons (CtQ_of QB_lasts (co_129) (by decide +kernel)) (all_cons (CtQ_of QB_lasts (co_130) (by decide +kernel)) (all_cons (CtQ_of QB_lasts (co_289 co_0) (by decide +kernel)) (all_cons (CtQ_of QB_lasts (co_133) (by decide +kernel)) (all_cons (CtQ_of QB_lasts (co_292) (by decide +kernel)) (all_cons (CtQ_of QB_lasts (co_37) (by decide +kernel)) (all_cons (CtQ_of QB_lasts (co_212) (by decide +kernel)) (all_cons (CtQ_of QB_lasts (co_285) (by decide +kernel)) (all_cons (CtQ_of QB_lasts (co_286) (by decide +kernel)) (all_cons (CtQ_of QB_lasts (co_288) (by decide +kernel)) (all_cons (CtQ_of QB_lasts (co_77) (by decide +kernel)) (all_cons (CtQ_of QB_lasts (co_248 co_0) (by decide +kernel)) (all_cons (CtQ_of QB_lasts (co_83) (by decide +kernel)) (all_cons (CtQ_of QB_lasts (co_262 co_0) (by decide +kernel)) (all_cons (CtQ_of QB_lasts (co_85) (by decide +kernel)) (all_cons (CtQ_of QB_lasts (co_264 co_0) (by decide +kernel)) (all_cons (CtQ_of QB_lasts (co_96) (by decide +kernel)) (all_cons (CtQ_of QB_lasts (co_272 co_0) (by decide +kernel)) (all_cons (CtQ_of QB_lasts (co_195) (by decide +kernel)) (all_cons (CtQ_of QB_lasts (co_297) (by decide +kernel)) all_nil)))))))))))))))))))))))))))))))))))))))))))))))))))))))))))))))))))))))))))))))))))))
def LMD : List (Nat × Nat) := [(0, 13), (1, 1), (1, 2), (1, 3), (1, 4), (1, 5), (1, 6), (2, 9999), (3, 6), (3, 7), (3, 8), (3, 9), (4, 9999), (5, 9999), (6, 9999), (7, 9999), (8, 9999), (9, 4), (9, 5), (9, 6), (10, 9999), (11, 9999), (12, 9999), (13, 9999), (14, 6), (14, 7), (14, 8), (14, 9), (15, 9999), (16, 9999), (17, 9999), (18, 9999), (19, 9999), (20, 4), (20, 5), (20, 6), (21, 9999), (22, 9999), (25, 4), (25, 5), (25, 6), (25, 7), (25, 8), (26, 9999), (27, 9999), (28, 1), (28, 2), (28, 3), (29, 9999), (31, 9999), (32, 1), (32, 2), (32, 3), (34, 1), (34, 2), (34, 3), (34, 4), (34, 5), (34, 6), (36, 4), (36, 5), (37, 5), (37, 10), (37, 11), (37, 12), (38, 9999), (39, 9999), (40, 9999), (41, 9999), (42, 9999), (44, 9999), (45, 8), (45, 9), (46, 9999), (47, 9999), (48, 9999), (49, 9999), (50, 9999), (52, 9999), (53, 2), (53, 3), (53, 4), (53, 5), (53, 6), (53, 7), (53, 8), (53, 9), (53, 10), (53, 33), (53, 34), (53, 35), (53, 36), (53, 37), (53, 38), (53, 39), (53, 40), (53, 41), (53, 42), (53, 43), (53, 44), (53, 47), (53, 48), (53, 53), (53, 54), (53, 61), (53, 62), (53, 63), (54, 9999), (55, 9999), (56, 9999), (57, 9999), (58, 9999), (59, 9999), (60, 9999), (61, 9999), (62, 9999), (63, 9999), (64, 9999), (65, 9999), (66, 9999), (67, 9999), (68, 9999), (69, 9999), (70, 9999), (71, 9999), (72, 9999), (73, 9999), (74, 9999), (75, 9999), (76, 9999), (77, 9999), (78, 9999), (79, 9999), (80, 9999), (81, 9999), (82, 9999), (83, 9999), (84, 9999), (85, 9999), (86, 9999), (87, 9999), (88, 9999), (89, 9999), (90, 9999), (91, 9999)]
def LSS : List (Nat × Nat) := [(0, 13), (1, 1), (1, 2), (1, 3), (1, 4), (1, 5), (1, 6), (2, 9999), (3, 6), (3, 7), (3, 8), (3, 9), (4, 9999), (5, 9999), (6, 9999), (7, 9999), (8, 9999), (9, 4), (9, 5), (9, 6), (10, 9999), (11, 9999), (12, 9999), (13, 9999), (14, 6), (14, 7), (14, 8), (14, 9), (15, 9999), (16, 9999), (17, 9999), (18, 9999), (19, 9999), (20, 4), (20, 5), (20, 6), (21, 9999), (22, 9999), (25, 4), (25, 5), (25, 6), (25, 7), (25, 8), (26, 9999), (27, 9999), (28, 1), (28, 2), (28, 3), (29, 9999), (31, 9999), (32, 1), (32, 2), (32, 3), (34, 1), (34, 2), (34, 3), (34, 4), (34, 5), (34, 6), (36, 4), (36, 5), (37, 5), (37, 10), (37, 11), (37, 12), (38, 9999), (39, 9999), (40, 9999), (41, 9999), (42, 9999), (44, 9999), (45, 8), (45, 9), (46, 9999), (47, 9999), (48, 9999), (49, 9999), (50, 9999), (52, 9999), (53, 2), (53, 3), (53, 4), (53, 5), (53, 6), (53, 7), (53, 8), (53, 9), (53, 10), (53, 33), (53, 34), (53, 35), (53, 36), (53, 37), (53, 38), (53, 39), (53, 40), (53, 41), (53, 42), (53, 43), (53, 44), (53, 47), (53, 48), (53, 53), (53, 54), (53, 61), (53, 62), (53, 63), (54, 9999), (55, 9999), (56, 9999), (57, 9999), (58, 9999), (59, 9999), (60, 9999), (61, 9999), (62, 9999), (63, 9999), (64, 9999), (65, 9999), (68, 9999), (69, 9999), (70, 9999), (71, 9999), (72, 9999), (74, 9999), (75, 9999), (76, 9999), (77, 9999), (78, 9999), (79, 9999), (80, 9999), (81, 9999), (82, 9999), (83, 9999), (84, 9999), (85, 9999), (86, 9999), (87, 9999), (88, 9999), (89, 9999), (90, 9999), (91, 9999)]
def LPP : qP := (qH, true, LMD, true, LCT, [], [18, 1226, 1235])
def lawP (k : Nat) : qTp := ([.inl 3, .inr (0, 13), .inr (211, 47), .inr (211, 48)], [(0, .inr (.inr none)), (1, .inr (.inr (some 0))), (2, .inr (.inr (some 53))), (3, .inl (3, 0))], ([(0, 0), (0, 3072), ((-1), 3072), (0, 3072), (0, 100000), (0, Int.ofNat k), (0, Int.ofNat (Nat.sub 40 k))], [(2, 3, 1)], []), [((0, 13), .inl (4, 0)), ((211, 47), .inl (5, 0)), ((211, 48), .inl (6, 0)), ((211, 62), .inl (4, 0))])
theorem mt_L_law_1226 : mTab mL 1226 = some (.iaload, 1) := by rfl
theorem mt_L_law_1235 : mTab mL 1235 = some (.iaload, 1) := by rfl
theorem st_sc {L : List Nat} {M : rM} {pc : Nat} {lw : rK} {r : List rV} {D : rD} {c z n : Nat} (hm : mTab M pc = some (.iaload, 1)) (hl : n < L.length) (h3 : L.length ≤ 3072) (hv : ∀ v ∈ L, v < 4294967296) : step tT L M [] pc lw (.inl n :: .inr (.inr (some 0)) :: r) D c z = some (.inl (Nat.add pc 1, lw, .inl L[n] :: r, D, c, z)) := by
  unfold step
  rw [hm]
  show ald 14 14 L [] pc lw (.inl n :: .inr (.inr (some 0)) :: r) D c z = _
  unfold ald
  dsimp only
  rw [nd_lt (by omega)]
  dsimp only
  rw [rget_eq, List.getElem?_eq_getElem hl]
  dsimp only
  rw [Nat.ble_eq_true_of_le (show n ≤ 2147483647 by omega), Nat.ble_eq_true_of_le (Nat.le_of_lt_succ (hv _ (List.getElem_mem hl)))]
  rfl
noncomputable def i31 (i : qI) : Bool := Nat.beq i.1 3 && (zle i.2 1 && zle 1 i.2)
theorem i31_ok {i : qI} (h : i31 i = true) : i = (3, 1) := by
  unfold i31 at h
  rw [Bool.and_eq_true, Bool.and_eq_true, zle_iff, zle_iff] at h
  exact Prod.ext (Nat.eq_of_beq_eq_true h.1) (by show i.2 = 1; omega)
noncomputable def lrun (M : rM) (E : qE) (C : qC) (pc : Nat) (lv : qK) (st : List qV) : Option (List qU) := qgo2 LSS LPP (qrun2 LSS LPP 1000000) 54 [] 9999 M E C pc lv st
noncomputable def lhead (ks : List Nat) (E : qE) (C : qC) (x : Nat × qK × List qV) : Bool := Nat.beq x.1 18 && (nilB x.2.2 && lany (fun k => Nat.ble k 40 && isS (q_inst qH [(0, 0), (1, 0), (3, 0)] (lawP k) x.2.1 E C)) ks)
noncomputable def lret (v : Option qV) (E : qE) (C : qC) : Bool := okRet qH (idL 1) [([], some (.inl (0, 1)), ([(0, 0)], [], []), [])] v E C
noncomputable def lall3 (ks : List Nat) (us : Option (List qU)) : Bool := match us with
  | none => false
  | some us => lall (fun u => match u.2.2 with
    | .inl v => lret v u.1 u.2.1
    | .inr x => lhead ks u.1 u.2.1 x) us
noncomputable def lrd2 (M : rM) (ks : List Nat) (y : qI) (E : qE) (C : qC) (lv : qK) (st : List qV) : Bool := match st with
  | .inl i :: .inr (.inr none) :: r => i31 i && lall3 ks (lrun M E C 1236 lv (.inl y :: r))
  | _ => false
noncomputable def lall2 (M : rM) (ks : List Nat) (y : qI) (us : Option (List qU)) : Bool := match us with
  | none => false
  | some us => lall (fun u => match u.2.2 with
    | .inl v => lret v u.1 u.2.1
    | .inr x => lhead ks u.1 u.2.1 x || (Nat.beq x.1 1235 && lrd2 M ks y u.1 u.2.1 x.2.1 x.2.2)) us
noncomputable def lrd1 (M : rM) (ks : List Nat) (E : qE) (C : qC) (lv : qK) (st : List qV) : Bool := match st with
  | .inl i :: .inr (.inr none) :: r => i31 i && (leQ E 6 3 1 2 && qval E (-2147483648) 2147483647 (fun E y => lall2 M ks y (lrun M E C 1227 lv (.inl y :: r))))
  | _ => false
noncomputable def lall1 (M : rM) (ks : List Nat) (us : Option (List qU)) : Bool := match us with
  | none => false
  | some us => lall (fun u => match u.2.2 with
    | .inl v => lret v u.1 u.2.1
    | .inr x => lhead ks u.1 u.2.1 x || (Nat.beq x.1 1226 && lrd1 M ks u.1 u.2.1 x.2.1 x.2.2)) us
noncomputable def lawC (k : Nat) (ks : List Nat) : Bool := lall1 mL ks (lrun mL (lawP k).2.2.1 (lawP k).2.2.2 18 (lawP k).2.1 [])
theorem lret_ok {v : Option qV} {E : qE} {C : qC} (h : lret v E C = true) {σ : List Int} {w : Option rV} {D : rD} {aw : List rC} {Post : Option rV → rD → Prop} (hP : ∀ D', Post (some (.inl 1)) D') (hr : rep D aw) (he : eOK2 σ E) (hh : hOK qH σ C aw) (hv : resOK qH σ v w) : Post w D := by
  refine okRet2_ok (Q := fun _ => True) (md := []) (aw0 := aw) (τ0 := [0]) (n0 := 1) qH_w ?_ rfl rfl ?_ h hr (ag_refl _ _ _) trivial he hh hv
  · intro o ho τ1 aw' w' D' x1 r2 a2 _ e2 h2 s2
    have ho := List.mem_singleton.mp ho
    subst ho
    obtain ⟨v', v1, v2⟩ := s2
    have v3 : v' = .inl 1 := (vI_of (x1 0 0 rfl) v2).2
    rw [v1, v3]
    exact hP D'
  · intro j z hz
    cases j with
    | zero => cases hz; exact he.2.1
    | succ j => cases hz
theorem lhead_ok {L : List Nat} {M : rM} {d c z : Nat} {Post : Option rV → rD → Prop} {ks : List Nat} {E : qE} {C : qC} {x : Nat × qK × List qV} (h : lhead ks E C x = true) {σ : List Int} {a b : Int} {lw : rK} {sw : List rV} {D : rD} {aw : List rC} (hr : qrl qH σ E C x.2.1 x.2.2 lw sw D aw) (h1 : σ[1]? = some a) (h3 : σ[3]? = some b) (hgo : ∀ k, k ≤ 40 → ∀ (τ' : List Int) (lw' : rK), τ'[1]? = some a → τ'[2]? = some b → eOK2 τ' (lawP k).2.2.1 → hOK qH τ' (lawP k).2.2.2 aw → lvOK qH τ' (lawP k).2.1 lw' → Ev L d M (18, lw', [], D, c, z) Post) : Ev L d M (x.1, lw, sw, D, c, z) Post := by
  unfold lhead at h
  rw [Bool.and_eq_true, Bool.and_eq_true] at h
  obtain ⟨p1, p2, p3⟩ := h
  obtain ⟨k, k1, k2⟩ := lany_iff.mp p3
  rw [Bool.and_eq_true] at k2
  obtain ⟨k2, k3⟩ := k2
  obtain ⟨b1, b2, b3, b4, b5⟩ := hr
  have hn : x.2.2 = [] := by
    unfold nilB at p2
    split at p2
    · next e => exact e
    · cases p2
  rw [hn] at b4
  have hsw := stOK2_nil b4
  subst hsw
  rw [Nat.eq_of_beq_eq_true p1]
  cases hi : q_inst qH [(0, 0), (1, 0), (3, 0)] (lawP k) x.2.1 E C with
  | none => rw [hi] at k3; cases k3
  | some q =>
    obtain ⟨E', C', θ⟩ := q
    have hth : thOK σ [(0, 0), (1, 0), (3, 0)] [0, a, b] := ⟨rfl, fun j y hy => by
      match j, hy with
      | 0, hy => cases hy; exact ⟨0, rfl, 0, b1.2.1, by decide⟩
      | 1, hy => cases hy; exact ⟨a, rfl, a, h1, (Int.add_zero _).symm⟩
      | 2, hy => cases hy; exact ⟨b, rfl, b, h3, (Int.add_zero _).symm⟩
      | j + 3, hy => cases hy⟩
    obtain ⟨σ', τ', g1, g2, g3, g4, g5, g6, g7, g8⟩ := q_inst_ok qH_w b1 b2 b3 hth rfl hi
    exact hgo k (Nat.le_of_ble_eq_true k2) τ' lw (g5 1 a rfl) (g5 2 b rfl) g6 g7 g8
set_option maxHeartbeats 4000000 in
theorem law_ok {L : List Nat} {k : Nat} {ks : List Nat} (hc : lawC k ks = true) {τ : List Int} {lw : rK} {D : rD} {aw : List rC} {c z δ : Nat} {Post : Option rV → rD → Prop} (hcz : c ≤ mC mL ∧ z ≤ mS mL) (he : eOK2 τ (lawP k).2.2.1) (hh : hOK qH τ (lawP k).2.2.2 aw) (hlv : lvOK qH τ (lawP k).2.1 lw) (hr : rep D aw) (hq : QB aw) (hsc : scOK true L τ) (hP : ∀ D', Post (some (.inl 1)) D') {b : Int} (hb : τ[3]? = some b)
    (hgo : ∀ k, k ≤ 40 → ∀ (τ' : List Int) (lw' : rK) (D' : rD) (aw' : List rC), τ'[1]? = some (L.length : Int) → τ'[2]? = some b → eOK2 τ' (lawP k).2.2.1 → hOK qH τ' (lawP k).2.2.2 aw' → lvOK qH τ' (lawP k).2.1 lw' → rep D' aw' → QB aw' → Ev L (54 + δ) mL (18, lw', [], D', c, z) Post) : Ev L (54 + δ) mL (18, lw, [], D, c, z) Post := by
  have run : ∀ {E : qE} {C : qC} {pc : Nat} {lv : qK} {st : List qV} {us : List qU}, lrun mL E C pc lv st = some us → ∀ {σ : List Int} {lw : rK} {sw : List rV} {D : rD} {aw : List rC}, qrl qH σ E C lv st lw sw D aw → scOK true L σ → QB aw → (∀ u ∈ us, ∀ σ' aw', xt σ σ' → QB aw' → qgoal qH L mL c z (54 + δ) Post u σ' aw') → Ev L (54 + δ) mL (pc, lw, sw, D, c, z) Post := by
    intro E C pc lv st us h σ lw sw D aw hr hsc hq hg
    exact qgo2_ok (P := LPP) (S := LSS) QB_lasts (by decide +kernel) (by decide +kernel) qH_w LCT_ok (qrun2_ok (P := LPP) (S := LSS) QB_lasts (by decide +kernel) (by decide +kernel) qH_w LCT_ok 1000000) (Mb := mL) (cb := c) (zb := z) (db := 54 + δ) (Post := Post) (aw0 := aw) 54 [] 9999 mL _ _ _ _ _ us h σ lw sw D aw [] c z δ hr ⟨rfl, rfl, rfl, rfl⟩ hsc hcz (ag_refl _ _ _) hq (fun u hu σ' aw' a1 _ a3 => hg u hu σ' aw' a1 a3)
  obtain ⟨b', b0, b1, b2⟩ := he.2.2.1 3 _ rfl
  rw [hb] at b0
  cases b0
  have b1 : (0 : Int) ≤ b := b1
  have b2 : b ≤ 3072 := b2
  obtain ⟨l1, l2, l3⟩ := hsc rfl
  unfold lawC at hc
  unfold lall1 at hc
  split at hc
  · cases hc
  · next us hus =>
    refine run hus ⟨he, hh, hlv, trivial, hr⟩ hsc hq (fun u hu σ1 aw1 x1 q1 => ?_)
    have hu := lall_iff.mp hc u hu
    unfold qgoal
    split
    · next v hv =>
      rw [hv] at hu
      intro w D' w1 w2 w3 w4
      exact lret_ok hu hP w1 w2 w3 w4
    · next x hx =>
      rw [hx] at hu
      intro lw1 sw1 D1 r1
      have hu : (lhead ks u.1 u.2.1 x || (Nat.beq x.1 1226 && lrd1 mL ks u.1 u.2.1 x.2.1 x.2.2)) = true := hu
      rw [Bool.or_eq_true, Bool.and_eq_true] at hu
      rcases hu with hu | ⟨p1, hu⟩
      · exact lhead_ok hu r1 (x1 1 _ l1) (x1 3 _ hb) (fun k' hk τ' lw' e1 e2 e3 e4 e5 => hgo k' hk τ' lw' _ _ e1 e2 e3 e4 e5 r1.2.2.2.2 q1)
      · rw [Nat.eq_of_beq_eq_true p1]
        unfold lrd1 at hu
        split at hu
        · next i r hst =>
          rw [Bool.and_eq_true, Bool.and_eq_true] at hu
          obtain ⟨i1, i2, hu⟩ := hu
          have i1 := i31_ok i1
          subst i1
          obtain ⟨c1, c2, c3, c4, c5⟩ := r1
          rw [hst] at c4
          obtain ⟨v1, u1, e1, ⟨iz, z1, z2, z3⟩, s1⟩ := stOK2_cons c4
          obtain ⟨v2, u2, e2, a2, s2⟩ := stOK2_cons s1
          subst e1
          subst e2
          subst z3
          have a2 : v2 = .inr (.inr (some 0)) := a2
          subst a2
          have hle := leQ_ok c1 6 3 1 2 b _ i2 (x1 3 _ hb) (x1 1 _ l1)
          have hiz : iz = b + 1 := by
            obtain ⟨y, y1, y2⟩ := z1
            have y1 : σ1[3]? = some y := y1
            rw [x1 3 _ hb] at y1
            cases y1
            exact y2
          subst hiz
          rw [eI_nn (by omega) z2]
          have hlt : (b + 1).toNat < L.length := by omega
          refine Ev_step (st_sc (mt_L_law_1226) hlt l2 l3) ?_
          obtain ⟨g1, g2⟩ := sgn_in (l3 _ (List.getElem_mem hlt))
          obtain ⟨E2, y, σ2, x2, f2, f3, f4⟩ := qval_ok (β := Bool) c1 g1.1 g1.2
          rw [f4] at hu
          unfold lall2 at hu
          split at hu
          · cases hu
          · next us2 hus2 =>
            refine run hus2 ⟨f2, hOK_xt x2 c2, lvOK_xt x2 c3, ⟨⟨_, f3, g1, by rw [g2]⟩, stOK2_xt x2 s2⟩, c5⟩ (scOK_xt (xt_trans x1 x2) hsc) q1 (fun u' hu' σ3 aw3 x3 q3 => ?_)
            have x13 := xt_trans x1 (xt_trans x2 x3)
            have hu := lall_iff.mp hu u' hu'
            unfold qgoal
            split
            · next v hv =>
              rw [hv] at hu
              intro w D' w1 w2 w3 w4
              exact lret_ok hu hP w1 w2 w3 w4
            · next x' hx' =>
              rw [hx'] at hu
              intro lw3 sw3 D3 r3
              have hu : (lhead ks u'.1 u'.2.1 x' || (Nat.beq x'.1 1235 && lrd2 mL ks y u'.1 u'.2.1 x'.2.1 x'.2.2)) = true := hu
              rw [Bool.or_eq_true, Bool.and_eq_true] at hu
              rcases hu with hu | ⟨p1, hu⟩
              · exact lhead_ok hu r3 (x13 1 _ l1) (x13 3 _ hb) (fun k' hk τ' lw' e1 e2 e3 e4 e5 => hgo k' hk τ' lw' _ _ e1 e2 e3 e4 e5 r3.2.2.2.2 q3)
              · rw [Nat.eq_of_beq_eq_true p1]
                unfold lrd2 at hu
                split at hu
                · next i r' hst' =>
                  rw [Bool.and_eq_true] at hu
                  obtain ⟨i1, hu⟩ := hu
                  have i1 := i31_ok i1
                  subst i1
                  obtain ⟨d1, d2, d3, d4, d5⟩ := r3
                  rw [hst'] at d4
                  obtain ⟨v3, u3, e3, ⟨iz, z1, z2, z3⟩, s3⟩ := stOK2_cons d4
                  obtain ⟨v4, u4, e4, a4, s4⟩ := stOK2_cons s3
                  subst e3
                  subst e4
                  subst z3
                  have a4 : v4 = .inr (.inr (some 0)) := a4
                  subst a4
                  have hiz : iz = b + 1 := by
                    obtain ⟨y', y1, y2⟩ := z1
                    have y1 : σ3[3]? = some y' := y1
                    rw [x13 3 _ hb] at y1
                    cases y1
                    exact y2
                  subst hiz
                  rw [eI_nn (by omega) z2]
                  refine Ev_step (st_sc (mt_L_law_1235) hlt l2 l3) ?_
                  unfold lall3 at hu
                  split at hu
                  · cases hu
                  · next us3 hus3 =>
                    refine run hus3 ⟨d1, d2, d3, ⟨⟨_, iOK_xt x3 f3, g1, by rw [g2]⟩, s4⟩, d5⟩ (scOK_xt x13 hsc) q3 (fun u5 hu5 σ5 aw5 x5 q5 => ?_)
                    have x15 := xt_trans x13 x5
                    have hu := lall_iff.mp hu u5 hu5
                    unfold qgoal
                    split
                    · next v hv =>
                      rw [hv] at hu
                      intro w D' w1 w2 w3 w4
                      exact lret_ok hu hP w1 w2 w3 w4
                    · next x5' hx5 =>
                      rw [hx5] at hu
                      intro lw5 sw5 D5 r5
                      exact lhead_ok hu r5 (x15 1 _ l1) (x15 3 _ hb) (fun k' hk τ' lw' e1 e2 e3 e4 e5 => hgo k' hk τ' lw' _ _ e1 e2 e3 e4 e5 r5.2.2.2.2 q5)
                · cases hu
        · cases hu
