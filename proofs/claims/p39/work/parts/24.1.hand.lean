/-! a run with loops that are cut by patterns and ranks, and with places where a proof by hand goes on -/
noncomputable def okHc (H : qT) (ids : List qI) (hcs : List hCu) (pc : Nat) (lv : qK) (st : List qV) (E : qE) (C : qC) : Bool := lany (fun c => bif (Nat.beq c.1 pc && Nat.beq c.2.1 st.length) then isS (q_inst H ids c.2.2 (kst st 200 lv) E C) else false) hcs
noncomputable def okUH (H : qT) (ids : List qI) (posts : List qPo) (cuts : List qCu) (hcs : List hCu) (old : Option qRk) (u : qU) : Bool := match u.2.2 with
  | .inl v => okRet H ids posts v u.1 u.2.1
  | .inr x => bif okHc H ids hcs x.1 x.2.1 x.2.2 u.1 u.2.1 then true else (nilB x.2.2 && okCut H ids cuts old x.1 x.2.1 u.1 u.2.1)
noncomputable def okRunH (H : qT) (ids : List qI) (posts : List qPo) (cuts : List qCu) (hcs : List hCu) (old : Option qRk) (us : Option (List qU)) : Bool := match us with
  | some us => lall (okUH H ids posts cuts hcs old) us
  | none => false
noncomputable def chkCutsH (P : qP) (n0 m fuel dep mi : Nat) (M : rM) (posts : List qPo) (cuts : List qCu) (hcs : List hCu) : Bool := lall (fun c => rkpos c.2.1.2.2.1 c.2.2 && (Nat.beq c.2.2.length m && (rkinB c.2.1.2.2.1.1.length c.2.2 && okRunH P.1 (idL n0) posts cuts hcs (some c.2.2) (qgo P (qrun P fuel) dep [] mi M c.2.1.2.2.1 c.2.1.2.2.2 c.1 c.2.1.2.1 [])))) cuts
def HcR (H : qT) (L : List Nat) (M : rM) (cn z d : Nat) (md : List (Nat × Nat)) (hcs : List hCu) (τ0 : List Int) (aw0 : List rC) (Post : Option rV → rD → Prop) : Prop := ∀ c ∈ hcs, ∀ (τ : List Int) (aw' : List rC) (lw' : rK) (sw' : List rV) (D' : rD), xt τ0 τ → rep D' aw' → ag H md aw0 aw' → eOK2 τ c.2.2.2.2.1 → hOK H τ c.2.2.2.2.2 aw' → lvOK H τ c.2.2.2.1 (wst sw' 200 lw') → sw'.length = c.2.1 → Ev L d M (c.1, lw', sw', D', cn, z) Post
noncomputable def oldOK (E : qE) (θ : List qI) (ns : qRk) (old : Option qRk) : Bool := match old with
  | none => true
  | some r => rkL E θ ns r
theorem endH {P : qP} {L : List Nat} (hw : HW P.1) {posts : List qPo} {cuts : List qCu} {hcs : List hCu} {τ0 : List Int} {aw0 : List rC} {n0 d : Nat} {M : rM} (hn : τ0.length = n0) (h0 : τ0[0]? = some 0) {Post : Option rV → rD → Prop} (hP : PostR P.1 P.2.2.1 posts τ0 aw0 Post) {cn z : Nat} (hH : HcR P.1 L M cn z d P.2.2.1 hcs τ0 aw0 Post) {old : Option qRk} {u : qU} {σ : List Int} {aw : List rC} (hu : okUH P.1 (idL n0) posts cuts hcs old u = true) (hx : xt τ0 σ) (ha : ag P.1 P.2.2.1 aw0 aw)
    (hauto : ∀ c ∈ cuts, ∀ (E' : qE) (C' : qC) (θ : List qI) (σ' τ' : List Int) (lw' : rK) (D' : rD), oldOK E' θ c.2.2 old = true → xt σ σ' → eOK2 σ' E' → thOK σ' θ τ' → xt τ0 τ' → eOK2 τ' c.2.1.2.2.1 → hOK P.1 τ' c.2.1.2.2.2 aw → lvOK P.1 τ' c.2.1.2.1 lw' → rep D' aw → Ev L d M (c.1, lw', [], D', cn, z) Post) : qgoal P.1 L M cn z d Post u σ aw := by
  unfold okUH at hu
  unfold qgoal
  split
  · next v hv =>
    rw [hv] at hu
    intro w D' w1 w2 w3 w4
    exact okRet_ok hw hP hn h0 hx hu w1 ha w2 w3 w4
  · next x hxx =>
    rw [hxx] at hu
    dsimp only at hu
    rintro lw' sw' D' ⟨b1, b2, b3, b4, b5⟩
    cases hh : okHc P.1 (idL n0) hcs x.1 x.2.1 x.2.2 u.1 u.2.1 with
    | true =>
      obtain ⟨c', d1, d2⟩ := lany_iff.mp hh
      cases hpc : (Nat.beq c'.1 x.1 && Nat.beq c'.2.1 x.2.2.length) with
      | false => rw [hpc] at d2; cases d2
      | true =>
        rw [hpc, cond_true] at d2
        rw [Bool.and_eq_true] at hpc
        cases hi : q_inst P.1 (idL n0) c'.2.2 (kst x.2.2 200 x.2.1) u.1 u.2.1 with
        | none => rw [hi] at d2; cases d2
        | some q =>
          obtain ⟨E', C', θ⟩ := q
          obtain ⟨σ2, τ', g1, g2, g3, g4, g5, g6, g7, g8⟩ := q_inst_ok hw b1 b2 (kst_ok b3 200 b4) (idL_ok hn hx) h0 hi
          have := hH c' d1 τ' aw lw' sw' D' g5 b5 ha g6 g7 g8 (by rw [stOK2_len b4]; exact (Nat.eq_of_beq_eq_true hpc.2).symm)
          rw [Nat.eq_of_beq_eq_true hpc.1] at this
          exact this
    | false =>
      rw [hh, cond_false, Bool.and_eq_true] at hu
      obtain ⟨c', d1, d2⟩ := lany_iff.mp hu.2
      cases hpc : Nat.beq c'.1 x.1 with
      | false => rw [hpc] at d2; cases d2
      | true =>
        rw [hpc, cond_true] at d2
        split at d2
        · next E' C' θ hi =>
          obtain ⟨σ2, τ', g1, g2, g3, g4, g5, g6, g7, g8⟩ := q_inst_ok hw b1 b2 b3 (idL_ok hn hx) h0 hi
          have hst : sw' = [] := by
            have hn1 : x.2.2 = [] := by
              have := hu.1
              unfold nilB at this
              split at this
              · next e => exact e
              · cases this
            rw [hn1] at b4
            exact stOK2_nil b4
          subst hst
          have := hauto c' d1 E' C' θ σ2 τ' lw' D' d2 g1 g2 g4 g5 g6 g7 g8 b5
          rw [Nat.eq_of_beq_eq_true hpc] at this
          exact this
        · cases d2
theorem cutsH_ok {P : qP} {Q : List rC → Prop} {L : List Nat} (hw : HW P.1) (hct : ∀ ct ∈ P.2.2.2.2.1, CtOK P.1 Q L ct) {aw0 : List rC} (hQ : P.2.2.2.1 = true → ∀ aw, ag P.1 P.2.2.1 aw0 aw → Q aw) (hs : P.2.1 = false) {posts : List qPo} {cuts : List qCu} {hcs : List hCu} {τ0 : List Int} {n0 m fuel dep mi : Nat} {M : rM} (hn : τ0.length = n0) (h0 : τ0[0]? = some 0) (hc : chkCutsH P n0 m fuel dep mi M posts cuts hcs = true) {Post : Option rV → rD → Prop} (hP : PostR P.1 P.2.2.1 posts τ0 aw0 Post) {cn z δ : Nat} (hcz : cn ≤ mC M ∧ z ≤ mS M) (hH : HcR P.1 L M cn z (dep + δ) P.2.2.1 hcs τ0 aw0 Post) : ∀ (l : List Nat), l.length = m → ∀ c ∈ cuts, ∀ (τ : List Int) (lw : rK) (D : rD) (aw : List rC), rkm τ c.2.2 = l → xt τ0 τ → eOK2 τ c.2.1.2.2.1 → hOK P.1 τ c.2.1.2.2.2 aw → lvOK P.1 τ c.2.1.2.1 lw → rep D aw → ag P.1 P.2.2.1 aw0 aw → Ev L (dep + δ) M (c.1, lw, [], D, cn, z) Post := by
  refine lexInd m _ (fun l hl ih => ?_)
  intro c hcm τ lw D aw hm hx he hh hlv hr ha
  have hc1 := lall_iff.mp hc c hcm
  rw [Bool.and_eq_true, Bool.and_eq_true, Bool.and_eq_true] at hc1
  obtain ⟨c1, c2, c3, c4⟩ := hc1
  unfold okRunH at c4
  split at c4
  · next us hus =>
    have hgo := qgo_ok hw hct hQ (qrun_ok hw hct hQ fuel) (Mb := M) (cb := cn) (zb := z) (db := dep + δ) (Post := Post) dep [] mi M _ _ _ _ _ us hus τ lw [] D aw [] cn z δ ⟨he, hh, hlv, trivial, hr⟩ ⟨rfl, rfl, rfl, rfl⟩ (by rw [hs]; exact fun g => by cases g) hcz ha
    refine hgo (fun u hu σ' aw' a1 a2 => ?_)
    refine endH hw hn h0 hP hH (lall_iff.mp c4 u hu) (xt_trans hx a1) a2 ?_
    intro c' d1 E' C' θ σ2 τ' lw' D' d2 g1 g2 g4 g5 g6 g7 g8 b5
    have d2 : rkL E' θ c'.2.2 c.2.2 = true := d2
    have hc2 := lall_iff.mp hc c' d1
    rw [Bool.and_eq_true, Bool.and_eq_true, Bool.and_eq_true] at hc2
    have hin : ∀ x ∈ c.2.2, ∃ z, τ[x.2.1]? = some z := fun x hx' => by
      have := lall_iff.mp c3 x hx'
      have hl' : x.2.1 < τ.length := by rw [← he.1]; exact Nat.le_of_ble_eq_true this
      exact ⟨τ[x.2.1], List.getElem?_eq_getElem hl'⟩
    have hlex := rkL_ok g2 (xt_trans a1 g1) g4 c'.2.2 c.2.2 (rkpos_ok g6 hc2.1) hin d2
    exact ih (rkm τ' c'.2.2) (by unfold rkm; rw [List.length_map]; exact Nat.eq_of_beq_eq_true hc2.2.1) (by rw [← hm]; exact hlex) c' d1 τ' lw' D' aw' rfl g5 g6 g7 g8 b5 a2
  · cases c4
theorem entryH {P : qP} {Q : List rC → Prop} {L : List Nat} (hw : HW P.1) (hct : ∀ ct ∈ P.2.2.2.2.1, CtOK P.1 Q L ct) {aw0 aw : List rC} (hQ : P.2.2.2.1 = true → ∀ aw, ag P.1 P.2.2.1 aw0 aw → Q aw) (hs : P.2.1 = false) {posts : List qPo} {cuts : List qCu} {hcs : List hCu} {τ0 σ : List Int} {n0 m fuel dep mi : Nat} {M : rM} (hn : τ0.length = n0) (h0 : τ0[0]? = some 0) (hc : chkCutsH P n0 m fuel dep mi M posts cuts hcs = true) {E : qE} {C : qC} {lv : qK} {st : List qV} {pc : Nat} (hok : okRunH P.1 (idL n0) posts cuts hcs none (qgo P (qrun P fuel) dep [] mi M E C pc lv st) = true) {Post : Option rV → rD → Prop} (hP : PostR P.1 P.2.2.1 posts τ0 aw0 Post) {cn z δ : Nat} (hcz : cn ≤ mC M ∧ z ≤ mS M) (hH : HcR P.1 L M cn z (dep + δ) P.2.2.1 hcs τ0 aw0 Post) {lw : rK} {sw : List rV} {D : rD} (hx : xt τ0 σ) (hr : qrl P.1 σ E C lv st lw sw D aw) (ha : ag P.1 P.2.2.1 aw0 aw) : Ev L (dep + δ) M (pc, lw, sw, D, cn, z) Post := by
  have hall := cutsH_ok hw hct hQ hs hn h0 hc hP (δ := δ) hcz hH
  unfold okRunH at hok
  split at hok
  · next us hus =>
    have hgo := qgo_ok hw hct hQ (qrun_ok hw hct hQ fuel) (Mb := M) (cb := cn) (zb := z) (db := dep + δ) (Post := Post) dep [] mi M _ _ _ _ _ us hus σ lw sw D aw [] cn z δ hr ⟨rfl, rfl, rfl, rfl⟩ (by rw [hs]; exact fun g => by cases g) hcz ha
    refine hgo (fun u hu σ' aw' a1 a2 => ?_)
    refine endH hw hn h0 hP hH (lall_iff.mp hok u hu) (xt_trans hx a1) a2 ?_
    intro c' d1 E' C' θ σ2 τ' lw' D' d2 g1 g2 g4 g5 g6 g7 g8 b5
    have hc2 := lall_iff.mp hc c' d1
    rw [Bool.and_eq_true, Bool.and_eq_true, Bool.and_eq_true] at hc2
    exact hall (rkm τ' c'.2.2) (by unfold rkm; rw [List.length_map]; exact Nat.eq_of_beq_eq_true hc2.2.1) c' d1 τ' lw' D' aw' rfl g5 g6 g7 g8 b5 a2
  · cases hok
/-- the whole check of such a run -/
noncomputable def chkH (P : qP) (n0 m fuel dep mi : Nat) (M : rM) (E : qE) (C : qC) (pc : Nat) (lv : qK) (st : List qV) (posts : List qPo) (cuts : List qCu) (hcs : List hCu) : Bool := okRunH P.1 (idL n0) posts cuts hcs none (qgo P (qrun P fuel) dep [] mi M E C pc lv st) && chkCutsH P n0 m fuel dep mi M posts cuts hcs
noncomputable def chkHm (P : qP) (n0 m fuel dep mi : Nat) (E : qE) (C : qC) (pc : Nat) (lv : qK) (st : List qV) (posts : List qPo) (cuts : List qCu) (hcs : List hCu) : Bool := match mT mi with
  | some M => chkH P n0 m fuel dep mi M E C pc lv st posts cuts hcs
  | none => false
/-! single steps -/
theorem nd_lt {n : Nat} (h : n ≤ 4294967295) : nd [] n = some n := by unfold nd; rw [Nat.ble_eq_true_of_le h, cond_true]
theorem st_iald {L : List Nat} {M : rM} {pc : Nat} {lw : rK} {r : List rV} {D : rD} {aw : List rC} {c z n k v : Nat} {l : List rV} (hm : mTab M pc = some (.iaload, 1)) (hrep : rep D aw) (hq : aw[k]? = some (14, l)) (hl : l[n]? = some (.inl v)) (hn : n ≤ 2147483647) : step tT L M [] pc lw (.inl n :: .inr (.inr (some (k + 1))) :: r) D c z = some (.inl (Nat.add pc 1, lw, .inl v :: r, D, c, z)) := by
  unfold step
  rw [hm]
  show ald 14 14 L [] pc lw (.inl n :: .inr (.inr (some (k + 1))) :: r) D c z = _
  unfold ald
  dsimp only
  rw [nd_lt (by omega)]
  dsimp only
  rw [hrep.2 k, hq]
  dsimp only
  rw [rget_eq, hl]
  dsimp only
  rw [Nat.ble_eq_true_of_le hn]
  rfl
theorem st_bald {L : List Nat} {M : rM} {pc : Nat} {lw : rK} {r : List rV} {D : rD} {aw : List rC} {c z n k v : Nat} {l : List rV} (hm : mTab M pc = some (.baload, 1)) (hrep : rep D aw) (hq : aw[k]? = some (13, l)) (hl : l[n]? = some (.inl v)) (hn : n ≤ 2147483647) : step tT L M [] pc lw (.inl n :: .inr (.inr (some (k + 1))) :: r) D c z = some (.inl (Nat.add pc 1, lw, .inl v :: r, D, c, z)) := by
  unfold step
  rw [hm]
  show ald 13 16 L [] pc lw (.inl n :: .inr (.inr (some (k + 1))) :: r) D c z = _
  unfold ald
  dsimp only
  rw [nd_lt (by omega)]
  dsimp only
  rw [hrep.2 k, hq]
  dsimp only
  rw [rget_eq, hl]
  dsimp only
  rw [Nat.ble_eq_true_of_le hn]
  rfl
theorem st_iast {L : List Nat} {M : rM} {pc : Nat} {lw : rK} {r : List rV} {D : rD} {aw : List rC} {c z n k v : Nat} {l : List rV} (hm : mTab M pc = some (.iastore, 1)) (hrep : rep D aw) (hq : aw[k]? = some (14, l)) (hl : n < l.length) (hn : n ≤ 2147483647) : ∃ D', rep D' (aw.set k (14, l.set n (.inl v))) ∧ step tT L M [] pc lw (.inl v :: .inl n :: .inr (.inr (some (k + 1))) :: r) D c z = some (.inl (Nat.add pc 1, lw, r, D', c, z)) := by
  have hk : k < aw.length := (List.getElem?_eq_some_iff.mp hq).1
  obtain ⟨D', d1, d2⟩ := rep_set (β := Option rO) hrep hk (14, l.set n (.inl v))
  refine ⟨D', d1, ?_⟩
  unfold step
  rw [hm]
  show ast 14 14 [] pc lw (.inl v :: .inl n :: .inr (.inr (some (k + 1))) :: r) D c z = _
  unfold ast
  dsimp only
  rw [nd_lt (by omega)]
  dsimp only
  rw [hrep.2 k, hq]
  dsimp only
  rw [blt_of hl, Nat.ble_eq_true_of_le hn]
  rw [show ((Nat.beq 14 14 || Nat.beq 14 14) && (ok_el 14 (Sum.inl v) && (true && true))) = true from rfl, cond_true, rset_eq, d2]
theorem st_iand {L : List Nat} {M : rM} {pc : Nat} {lw : rK} {r : List rV} {D : rD} {c z x y : Nat} (hm : mTab M pc = some (.iand, 1)) (hx : x ≤ 4294967295) (hy : y ≤ 4294967295) : step tT L M [] pc lw (.inl y :: .inl x :: r) D c z = some (.inl (Nat.add pc 1, lw, .inl (cN (nI x &&& nI y)) :: r, D, c, z)) := by
  unfold step
  rw [hm]
  show aop 3 [] pc lw (.inl y :: .inl x :: r) D c z = _
  unfold aop
  dsimp only
  rw [nd_lt hx]
  dsimp only
  rw [nd_lt hy]
  dsimp only
  rw [show (Nat.ble 8 3 && Nat.beq y 0) = false from rfl, cond_false, fN_eq]
  rfl
