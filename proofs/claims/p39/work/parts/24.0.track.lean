/-! runs that keep the lasting fact -/
def CtQ (H : qT) (Q : List rC → Prop) (L : List Nat) (ct : qCt) : Prop := ∀ (M : rM) (d : Nat) (τ : List Int) (Aw : List rV) (D : rD) (aw : List rC), mT ct.1 = some M → ct.2.1 ≤ d → rep D aw → eOK2 τ ct.2.2.2.2.1.2.2.1 → hOK H τ ct.2.2.2.2.1.2.2.2 aw → lvOK H τ ct.2.2.2.2.1.2.1 (argsL Aw 0) → Q aw → Ev L d M (0, argsL Aw 0, [], D, 0, 0) (fun v D' => ∃ aw', rep D' aw' ∧ ag H ct.2.2.2.1 aw aw' ∧ Q aw' ∧ ∃ o ∈ ct.2.2.2.2.2, ∃ τ1, xt τ τ1 ∧ eOK2 τ1 o.2.2.1 ∧ hOK H τ1 o.2.2.2 aw' ∧ resOK H τ1 o.2.1 v)
theorem CtQ_of {H : qT} {Q : List rC → Prop} {QF : List Nat} (hl : lasts H Q QF) {L : List Nat} {ct : qCt} (h : CtOK H Q L ct) (hf : mdfree ct.2.2.2.1 QF = true) : CtQ H Q L ct := by
  intro M d τ Aw D aw h1 h2 h3 h4 h5 h6 hq
  refine Ev_mono (h M d τ Aw D aw h1 h2 h3 h4 h5 h6 (fun _ => hq)) ?_
  rintro v D' ⟨aw', a1, a2, a3⟩
  exact ⟨aw', a1, a2, hl aw aw' a2.1 (fun p κ j hp hk => a2.2 p κ j hp (mdfree_ok hf hk)) hq, a3⟩
noncomputable def qgo2 (S : List (Nat × Nat)) (P : qP) (ih : qG) (dep : Nat) (fs : List qF) (mi : Nat) (M : rM) (E : qE) (C : qC) (pc : Nat) (lv : qK) (st : List qV) : Option (List qU) := match (match kf P.2.2.2.2.2.1 mi pc with
    | some h => h
    | none => 0) with
  | hint => lcat (fun E => match q_step P.1 P.2.1 S hint M E C pc lv st with
    | none => none
    | some (.inl ss) => lcat (fun s => ih dep fs mi M s.1 s.2.1 s.2.2.1 s.2.2.2.1 s.2.2.2.2) ss
    | some (.inr (.inl v)) => (match fs with
      | [] => some [(E, C, .inl v)]
      | f :: fs => ih (Nat.succ dep) fs f.1 f.2.1 E C f.2.2.1 f.2.2.2.1 (v.toList ++ f.2.2.2.2))
    | some (.inr (.inr (mj, As, r))) => qcall P ih hint dep fs mi M E C pc lv mj As r) (qspl hint E st)
noncomputable def qrun2 (S : List (Nat × Nat)) (P : qP) (n : Nat) : qG := Nat.rec (motive := fun _ => qG) (fun _ _ _ _ _ _ _ _ _ => none) (fun _ ih dep fs mi M E C pc lv st => fN pc (fun pc => bif (nilB fs && lany (fun q => Nat.beq q pc) P.2.2.2.2.2.2) then some [(E, C, .inr (pc, lv, st))] else qgo2 S P ih dep fs mi M E C pc lv st)) n
def qinv2 (P : qP) (Q : List rC → Prop) (L : List Nat) (aw0 : List rC) (Mb : rM) (cb zb db : Nat) (Post : Option rV → rD → Prop) (ih : qG) : Prop := ∀ (dep : Nat) (fs : List qF) (mi : Nat) (M : rM) (E : qE) (C : qC) (pc : Nat) (lv : qK) (st : List qV) (us : List qU), ih dep fs mi M E C pc lv st = some us → ∀ (σ : List Int) (lw : rK) (sw : List rV) (D : rD) (aw : List rC) (gs : List cF) (c z δ : Nat), qrl P.1 σ E C lv st lw sw D aw → frB P.1 σ Mb cb zb db fs gs M c z (dep + δ) → scOK P.2.1 L σ → (c ≤ mC M ∧ z ≤ mS M) → ag P.1 P.2.2.1 aw0 aw → Q aw → (∀ u ∈ us, ∀ σ' aw', xt σ σ' → ag P.1 P.2.2.1 aw0 aw' → Q aw' → qgoal P.1 L Mb cb zb db Post u σ' aw') → EvF L gs (dep + δ) M (pc, lw, sw, D, c, z) Post
theorem qgo2_ok {S : List (Nat × Nat)} {QF : List Nat} {P : qP} {Q : List rC → Prop} {L : List Nat} (hl : lasts P.1 Q QF) (hS : mdfree S QF = true) (hSm : mdsub S P.2.2.1 = true) (hw : HW P.1) (hct : ∀ ct ∈ P.2.2.2.2.1, CtQ P.1 Q L ct) {aw0 : List rC} {Mb : rM} {cb zb db : Nat} {Post : Option rV → rD → Prop} {ih : qG} (hi : qinv2 P Q L aw0 Mb cb zb db Post ih) : qinv2 P Q L aw0 Mb cb zb db Post (qgo2 S P ih) := by
  intro dep fs mi M E C pc lv st us h σ lw sw D aw gs c z δ hr hf hsc hcz hag hq hg
  unfold qgo2 at h
  dsimp only at h
  generalize (match kf P.2.2.2.2.2.1 mi pc with
    | some h => h
    | none => 0) = hint at h
  obtain ⟨r1, r2, r3, r4, r5⟩ := hr
  obtain ⟨E1, m1, m2⟩ := qspl_ok (hint := hint) r1 r4
  obtain ⟨us1, k1, k2⟩ := lcat_ok h E1 m1
  have hr1 : qrl P.1 σ E1 C lv st lw sw D aw := ⟨m2, r2, r3, r4, r5⟩
  split at k1
  · cases k1
  · next ss hs =>
    obtain ⟨s, s1, σ', lw', sw', D', aw', x1, x2, x3, x4⟩ := q_step_ok hw hr1 hsc hcz hs
    obtain ⟨us2, j1, j2⟩ := lcat_ok k1 s s1
    have hq2 := hl aw aw' x3.1 (fun p κ j hp hk => x3.2 p κ j hp (mdfree_ok hS hk)) hq
    exact EvF_step x2 (hi dep fs mi M _ _ _ _ _ us2 j1 σ' lw' sw' D' aw' gs c z δ x4 (frB_xt x1 hf) (scOK_xt x1 hsc) hcz (ag_trans hag (ag_sub hSm x3)) hq2 (fun u hu σ2 aw2 a1 a2 a3 => hg u (k2 u (j2 u hu)) σ2 aw2 (xt_trans x1 a1) a2 a3))
  · next v hs =>
    have hsn := q_step_ok hw hr1 hsc hcz hs
    have hret : ∃ w, step tT L M [] pc lw sw D c z = some (.inr (.inr (.inr (.inl w)))) ∧ resOK P.1 σ v w := by
      match v, hsn with
      | none, hsn => exact ⟨none, hsn, rfl⟩
      | some a, ⟨x, y1, y2⟩ => exact ⟨some x, y1, x, rfl, y2⟩
    obtain ⟨w, w1, w2⟩ := hret
    match fs, gs, hf, k1 with
    | [], [], hf, k1 =>
      obtain ⟨f1, f2, f3, f4⟩ := hf
      cases k1
      exact Ev_ret w1 (hg _ (k2 _ (List.mem_singleton.mpr rfl)) σ aw (xt_refl σ) hag hq w D r5 m2 r2 w2)
    | f :: fs, g :: gs, hf, k1 =>
      obtain ⟨f1, f2, f3, f4, f5, f6⟩ := hf
      refine Ev_ret w1 ?_
      have := hi (Nat.succ dep) fs f.1 f.2.1 _ _ _ _ _ us1 k1 σ g.2.2.1 (w.toList ++ g.2.2.2.1) D aw gs g.2.2.2.2.1 g.2.2.2.2.2 δ ⟨m2, r2, f3, toL_ok w2 f4, r5⟩ (by rw [f1, show Nat.succ dep + δ = dep + δ + 1 by omega]; exact f6) hsc (by rw [f1]; exact f5) hag hq (fun u hu σ2 aw2 a1 a2 a3 => hg u (k2 u hu) σ2 aw2 a1 a2 a3)
      rw [f1, f2, show Nat.succ dep + δ = dep + δ + 1 by omega] at this
      exact this
  · next mj As r hs =>
    obtain ⟨Aw, rw', y1, y2, y3⟩ := q_step_ok hw hr1 hsc hcz hs
    unfold qcall at k1
    split at k1
    · cases k1
    · next M' hM =>
      match dep, k1, hf, hg with
      | dep + 1, k1, hf, hg =>
        have k1 : (bif (Nat.ble (kasum As) (mLoc M') && (Nat.ble (mLoc M') 80 && (Nat.beq (mC M') 0 && Nat.beq (mS M') 0))) then (match (bif Nat.beq hint 4 then none else q_find P.1 P.2.2.1 P.2.2.2.1 mj dep (kargs As 0) E1 C P.2.2.2.2.1) with
          | some (ct, E', C', θ) => lcat (fun o => match qrefs θ o.2.2.1.1 E' with
            | none => some []
            | some E'' => (match q_post P.1 ct.2.2.2.1 E'' C' θ o with
              | some (E2, C2, v) => ih (dep + 1) fs mi M E2 C2 (Nat.add pc 3) lv (v.toList ++ r)
              | none => none)) ct.2.2.2.2.2
          | none => ih dep ((mi, M, Nat.add pc 3, lv, r) :: fs) mj M' E1 C 0 (kargs As 0) []) else none) = some us1 := k1
        cases hb : (Nat.ble (kasum As) (mLoc M') && (Nat.ble (mLoc M') 80 && (Nat.beq (mC M') 0 && Nat.beq (mS M') 0))) with
        | false => rw [hb] at k1; cases k1
        | true =>
          rw [hb, cond_true] at k1
          simp only [Bool.and_eq_true] at hb
          obtain ⟨b1, b2, b3, b4⟩ := hb
          have b1' := Nat.le_of_ble_eq_true b1
          have b2' := Nat.le_of_ble_eq_true b2
          have b3' := Nat.eq_of_beq_eq_true b3
          have b4' := Nat.eq_of_beq_eq_true b4
          have hlv := kargs_ok 0 y2
          have hcc : c + mC M' ≤ mC M ∧ z + mS M' ≤ mS M := by rw [b3', b4']; exact hcz
          have e0 : Nat.add c (mC M') = c := by rw [b3']; rfl
          have e1 : Nat.add z (mS M') = z := by rw [b4']; rfl
          rw [show dep + 1 + δ = dep + δ + 1 by omega]
          split at k1
          · next ct E' C' θ hfd =>
            have hfd' : q_find P.1 P.2.2.1 P.2.2.2.1 mj dep (kargs As 0) E1 C P.2.2.2.2.1 = some (ct, E', C', θ) := by
              cases h4 : Nat.beq hint 4 with
              | true => rw [h4] at hfd; cases hfd
              | false => rw [h4] at hfd; exact hfd
            obtain ⟨t1, t2, t3, t4, t5, t6⟩ := q_find_ok hfd'
            have hth0 : thOK σ [(0, 0)] [0] := ⟨rfl, fun j x hx => by
              cases j with
              | zero =>
                simp at hx
                subst hx
                exact ⟨0, rfl, i0 m2 0⟩
              | succ j => simp at hx⟩
            obtain ⟨σ1, τ, v1, v2, v3, v4, v5, v6, v7, v8⟩ := q_inst_ok hw m2 r2 hlv hth0 rfl t6
            have hEv := hct ct t1 M' (dep + δ) τ Aw D aw (by rw [t2]; exact hM) (by omega) r5 v6 v7 v8 hq
            refine EvF_call y1 hM (by rw [kasum_ok y2]; exact b1') b2' hcc.1 hcc.2 hEv ?_
            rintro v D' ⟨aw', z1, z2, zq, o, z3, τ1, z4, z5, z6, z7⟩
            obtain ⟨us2, j1, j2⟩ := lcat_ok k1 o z3
            obtain ⟨Er, v9, v10⟩ := qrefs_ok θ o.2.2.1.1 E' v2 (fun j x r hx hr => by
              obtain ⟨z, y1, y2⟩ := v4.2 j x hx
              obtain ⟨z', y3, y4⟩ := z5.2.2.1 j r hr
              have y5 := z4 j z y1
              rw [y3] at y5
              have y6 := Option.some.inj y5
              rw [y6] at y4
              exact ⟨z, y2, y4⟩)
            rw [v9] at j1
            dsimp only at j1
            split at j1
            · next E2 C2 v' hp =>
              obtain ⟨σ2, w1, w2, w3, w4⟩ := q_post_ok v10 v3 v4 z4 z5 z6 z7 z2 hp
              have xx := xt_trans v1 w1
              have := hi (dep + 1) fs mi M _ _ _ _ _ us2 j1 σ2 lw (v.toList ++ rw') D' aw' gs c z δ ⟨w2, w3, lvOK_xt xx r3, toL_ok w4 (stOK2_xt xx y3), z1⟩ (frB_xt xx hf) (scOK_xt xx hsc) hcz (ag_trans hag (ag_sub t5 z2)) zq (fun u hu σ3 aw3 a1 a2 a3 => hg u (k2 u (j2 u hu)) σ3 aw3 (xt_trans xx a1) a2 a3)
              rw [show dep + 1 + δ = dep + δ + 1 by omega] at this
              rw [e0, e1]
              exact this
            · cases j1
          · have hpush : frB P.1 σ Mb cb zb db ((mi, M, Nat.add pc 3, lv, r) :: fs) ((M, Nat.add pc 3, lw, rw', c, z) :: gs) M' 0 0 (dep + δ) := ⟨rfl, rfl, r3, y3, hcz, by rw [show dep + δ + 1 = dep + 1 + δ by omega]; exact hf⟩
            have hin := hi dep ((mi, M, Nat.add pc 3, lv, r) :: fs) mj M' E1 C 0 (kargs As 0) [] us1 k1 σ (argsL Aw 0) [] D aw ((M, Nat.add pc 3, lw, rw', c, z) :: gs) 0 0 δ ⟨m2, r2, hlv, trivial, r5⟩ hpush hsc ⟨Nat.zero_le _, Nat.zero_le _⟩ hag hq (fun u hu σ3 aw3 a1 a2 a3 => hg u (k2 u hu) σ3 aw3 a1 a2 a3)
            refine EvF_call y1 hM (by rw [kasum_ok y2]; exact b1') b2' hcc.1 hcc.2 hin ?_
            intro v D' hv
            rw [e0, e1]
            exact hv
theorem qrun2_ok {S : List (Nat × Nat)} {QF : List Nat} {P : qP} {Q : List rC → Prop} {L : List Nat} (hl : lasts P.1 Q QF) (hS : mdfree S QF = true) (hSm : mdsub S P.2.2.1 = true) (hw : HW P.1) (hct : ∀ ct ∈ P.2.2.2.2.1, CtQ P.1 Q L ct) {aw0 : List rC} {Mb : rM} {cb zb db : Nat} {Post : Option rV → rD → Prop} : ∀ n, qinv2 P Q L aw0 Mb cb zb db Post (qrun2 S P n) := by
  intro n
  induction n with
  | zero => intro dep fs mi M E C pc lv st us h; cases h
  | succ n ih =>
    intro dep fs mi M E C pc lv st us h σ lw sw D aw gs c z δ hr hf hsc hcz hag hq hg
    have e : qrun2 S P (n + 1) dep fs mi M E C pc lv st = fN pc (fun pc => bif (nilB fs && lany (fun q => Nat.beq q pc) P.2.2.2.2.2.2) then some [(E, C, .inr (pc, lv, st))] else qgo2 S P (qrun2 S P n) dep fs mi M E C pc lv st) := rfl
    rw [e, fN_eq] at h
    cases hb : (nilB fs && lany (fun q => Nat.beq q pc) P.2.2.2.2.2.2) with
    | false =>
      rw [hb, cond_false] at h
      exact qgo2_ok hl hS hSm hw hct ih dep fs mi M E C pc lv st us h σ lw sw D aw gs c z δ hr hf hsc hcz hag hq hg
    | true =>
      rw [hb, cond_true] at h
      cases h
      rw [Bool.and_eq_true] at hb
      match fs, gs, hf, hb with
      | [], [], hf, hb =>
        obtain ⟨f1, f2, f3, f4⟩ := hf
        subst f1
        subst f2
        subst f3
        subst f4
        exact hg _ (List.mem_singleton.mpr rfl) σ aw (xt_refl σ) hag hq lw sw D hr
      | _ :: _, _, hf, hb => exact absurd hb.1 (by simp [nilB])
noncomputable def chkCuts2 (S : List (Nat × Nat)) (P : qP) (n0 m fuel dep mi : Nat) (M : rM) (posts : List qPo) (cuts : List qCu) : Bool := lall (fun c => rkpos c.2.1.2.2.1 c.2.2 && (Nat.beq c.2.2.length m && okRun P.1 (idL n0) posts cuts (some c.2.2) (qgo2 S P (qrun2 S P fuel) dep [] mi M c.2.1.2.2.1 c.2.1.2.2.2 c.1 c.2.1.2.1 []))) cuts
def PostR2 (H : qT) (Q : List rC → Prop) (md : List (Nat × Nat)) (posts : List qPo) (τ0 : List Int) (aw0 : List rC) (Post : Option rV → rD → Prop) : Prop := ∀ o ∈ posts, ∀ (τ1 : List Int) (aw' : List rC) (w : Option rV) (D' : rD), xt τ0 τ1 → rep D' aw' → ag H md aw0 aw' → Q aw' → eOK2 τ1 o.2.2.1 → hOK H τ1 o.2.2.2 aw' → resOK H τ1 o.2.1 w → Post w D'
theorem okRet2_ok {H : qT} {Q : List rC → Prop} (hw : HW H) {md : List (Nat × Nat)} {posts : List qPo} {τ0 σ : List Int} {aw0 aw : List rC} {Post : Option rV → rD → Prop} (hP : PostR2 H Q md posts τ0 aw0 Post) {n0 : Nat} (hn : τ0.length = n0) (h0 : τ0[0]? = some 0) (hx : xt τ0 σ) {v : Option qV} {E : qE} {C : qC} (hok : okRet H (idL n0) posts v E C = true) {w : Option rV} {D : rD} (hr : rep D aw) (ha : ag H md aw0 aw) (hq : Q aw) (he : eOK2 σ E) (hh : hOK H σ C aw) (hv : resOK H σ v w) : Post w D := by
  obtain ⟨o, o1, o2⟩ := lany_iff.mp hok
  cases hsh : shp o.2.1 v with
  | false => rw [hsh] at o2; cases o2
  | true =>
    rw [hsh, cond_true] at o2
    cases hi : q_inst H (idL n0) (poT o) (resL v) E C with
    | none => rw [hi] at o2; cases o2
    | some q =>
      obtain ⟨E', C', θ⟩ := q
      have hlv : lvOK H σ (resL v) (resW w) := by
        match v, hv with
        | none, hv => exact fun i a h => by cases h
        | some b, ⟨x, x1, x2⟩ =>
          subst x1
          intro i a h
          have h : (bif Nat.beq 0 i then some b else none) = some a := h
          show ∃ v, (bif Nat.beq 0 i then some x else none) = some v ∧ _
          cases hb : Nat.beq 0 i with
          | true => rw [hb] at h; cases h; exact ⟨x, rfl, x2⟩
          | false => rw [hb] at h; cases h
      obtain ⟨σ', τ, g1, g2, g3, g4, g5, g6, g7, g8⟩ := q_inst_ok hw he hh hlv (idL_ok hn hx) h0 hi
      refine hP o o1 τ aw w D g5 hr ha hq g6 g7 ?_
      unfold poT at g8
      dsimp only at g8
      unfold resOK
      split
      · next hn1 =>
        rw [hn1] at hsh
        match v, hsh, hv with
        | none, _, hv => exact hv
        | some b, hsh, _ => exact absurd hsh (by simp [isS, shp])
      · next r hr1 =>
        rw [hr1] at g8
        obtain ⟨x, x1, x2⟩ := g8 0 r rfl
        cases hw' : w with
        | some y =>
          rw [hw'] at x1
          have x1 : some y = some x := x1
          cases x1
          exact ⟨_, rfl, x2⟩
        | none => rw [hw'] at x1; cases x1
theorem cuts2_ok {S : List (Nat × Nat)} {QF : List Nat} {P : qP} {Q : List rC → Prop} {L : List Nat} (hl : lasts P.1 Q QF) (hS : mdfree S QF = true) (hSm : mdsub S P.2.2.1 = true) (hw : HW P.1) (hct : ∀ ct ∈ P.2.2.2.2.1, CtQ P.1 Q L ct) {aw0 : List rC} {posts : List qPo} {cuts : List qCu} {τ0 : List Int} {n0 m fuel dep mi : Nat} {M : rM} (hn : τ0.length = n0) (h0 : τ0[0]? = some 0) (hc : chkCuts2 S P n0 m fuel dep mi M posts cuts = true) (hri : ∀ c ∈ cuts, rkinB c.2.1.2.2.1.1.length c.2.2 = true) {Post : Option rV → rD → Prop} (hP : PostR2 P.1 Q P.2.2.1 posts τ0 aw0 Post) (hsc0 : scOK P.2.1 L τ0) {cn z δ : Nat} (hcz : cn ≤ mC M ∧ z ≤ mS M) : ∀ (l : List Nat), l.length = m → ∀ c ∈ cuts, ∀ (τ : List Int) (lw : rK) (D : rD) (aw : List rC), rkm τ c.2.2 = l → xt τ0 τ → eOK2 τ c.2.1.2.2.1 → hOK P.1 τ c.2.1.2.2.2 aw → lvOK P.1 τ c.2.1.2.1 lw → rep D aw → ag P.1 P.2.2.1 aw0 aw → Q aw → Ev L (dep + δ) M (c.1, lw, [], D, cn, z) Post := by
  have hin : ∀ c ∈ cuts, ∀ τ, eOK2 τ c.2.1.2.2.1 → rkin τ c.2.2 := fun c hcc τ he x hx => by
    have := lall_iff.mp (hri c hcc) x hx
    have hl : x.2.1 < τ.length := by rw [← he.1]; exact Nat.le_of_ble_eq_true this
    exact ⟨τ[x.2.1], List.getElem?_eq_getElem hl⟩
  refine lexInd m _ (fun l hlen ih => ?_)
  intro c hcm τ lw D aw hm hx he hh hlv hr ha hq
  have hsc := scOK_xt hx hsc0
  have hc1 := lall_iff.mp hc c hcm
  rw [Bool.and_eq_true, Bool.and_eq_true] at hc1
  obtain ⟨c1, c2, c3⟩ := hc1
  unfold okRun at c3
  split at c3
  · next us hus =>
    have hgo := qgo2_ok hl hS hSm hw hct (qrun2_ok hl hS hSm hw hct fuel) (Mb := M) (cb := cn) (zb := z) (db := dep + δ) (Post := Post) dep [] mi M _ _ _ _ _ us hus τ lw [] D aw [] cn z δ ⟨he, hh, hlv, trivial, hr⟩ ⟨rfl, rfl, rfl, rfl⟩ hsc hcz ha hq
    refine hgo (fun u hu σ' aw' a1 a2 a3 => ?_)
    have hu' := lall_iff.mp c3 u hu
    unfold okU at hu'
    unfold qgoal
    split
    · next v hv =>
      rw [hv] at hu'
      intro w D' w1 w2 w3 w4
      exact okRet2_ok hw hP hn h0 (xt_trans hx a1) hu' w1 a2 a3 w2 w3 w4
    · next x hxx =>
      rw [hxx] at hu'
      dsimp only at hu'
      rw [Bool.and_eq_true] at hu'
      rintro lw' sw' D' ⟨b1, b2, b3, b4, b5⟩
      obtain ⟨c', d1, d2⟩ := lany_iff.mp hu'.2
      cases hpc : Nat.beq c'.1 x.1 with
      | false => rw [hpc] at d2; cases d2
      | true =>
        rw [hpc, cond_true] at d2
        split at d2
        · next E' C' θ hi =>
          dsimp only at d2
          obtain ⟨σ2, τ', g1, g2, g3, g4, g5, g6, g7, g8⟩ := q_inst_ok hw b1 b2 b3 (idL_ok hn (xt_trans hx a1)) h0 hi
          have hpc' := Nat.eq_of_beq_eq_true hpc
          have hst : sw' = [] := by
            have hn1 : x.2.2 = [] := by
              have := hu'.1
              unfold nilB at this
              split at this
              · next e => exact e
              · cases this
            rw [hn1] at b4
            exact stOK2_nil b4
          subst hst
          have hc2 := lall_iff.mp hc c' d1
          rw [Bool.and_eq_true, Bool.and_eq_true] at hc2
          have hlex := rkL_ok g2 (xt_trans a1 g1) g4 c'.2.2 c.2.2 (rkpos_ok g6 hc2.1) (hin c hcm τ he) d2
          have := ih (rkm τ' c'.2.2) (by unfold rkm; rw [List.length_map]; exact Nat.eq_of_beq_eq_true hc2.2.1) (by rw [← hm]; exact hlex) c' d1 τ' lw' D' aw' rfl g5 g6 g7 g8 b5 a2 a3
          rw [hpc'] at this
          exact this
        · cases d2
  · cases c3
theorem entry2_ok {S : List (Nat × Nat)} {QF : List Nat} {P : qP} {Q : List rC → Prop} {L : List Nat} (hl : lasts P.1 Q QF) (hS : mdfree S QF = true) (hSm : mdsub S P.2.2.1 = true) (hw : HW P.1) (hct : ∀ ct ∈ P.2.2.2.2.1, CtQ P.1 Q L ct) {aw0 : List rC} {posts : List qPo} {cuts : List qCu} {τ0 : List Int} {n0 m fuel dep mi : Nat} {M : rM} (hn : τ0.length = n0) (h0 : τ0[0]? = some 0) (hc : chkCuts2 S P n0 m fuel dep mi M posts cuts = true) (hri : ∀ c ∈ cuts, rkinB c.2.1.2.2.1.1.length c.2.2 = true) {Post : Option rV → rD → Prop} (hP : PostR2 P.1 Q P.2.2.1 posts τ0 aw0 Post) (hsc0 : scOK P.2.1 L τ0) {cn z δ : Nat} (hcz : cn ≤ mC M ∧ z ≤ mS M) {E : qE} {C : qC} {lv : qK} {pc : Nat} (hok : okRun P.1 (idL n0) posts cuts none (qgo2 S P (qrun2 S P fuel) dep [] mi M E C pc lv []) = true) {lw : rK} {D : rD} (he : eOK2 τ0 E) (hh : hOK P.1 τ0 C aw0) (hlv : lvOK P.1 τ0 lv lw) (hr : rep D aw0) (hq : Q aw0) : Ev L (dep + δ) M (pc, lw, [], D, cn, z) Post := by
  have hall := cuts2_ok hl hS hSm hw hct hn h0 hc hri hP hsc0 (δ := δ) hcz
  unfold okRun at hok
  split at hok
  · next us hus =>
    have hgo := qgo2_ok hl hS hSm hw hct (qrun2_ok hl hS hSm hw hct fuel) (Mb := M) (cb := cn) (zb := z) (db := dep + δ) (Post := Post) dep [] mi M _ _ _ _ _ us hus τ0 lw [] D aw0 [] cn z δ ⟨he, hh, hlv, trivial, hr⟩ ⟨rfl, rfl, rfl, rfl⟩ hsc0 hcz (ag_refl _ _ _) hq
    refine hgo (fun u hu' σ' aw' a1 a2 a3 => ?_)
    have hu2 := lall_iff.mp hok u hu'
    unfold okU at hu2
    unfold qgoal
    split
    · next v hv =>
      rw [hv] at hu2
      intro w D' w1 w2 w3 w4
      exact okRet2_ok hw hP hn h0 a1 hu2 w1 a2 a3 w2 w3 w4
    · next x hxx =>
      rw [hxx] at hu2
      dsimp only at hu2
      rw [Bool.and_eq_true] at hu2
      rintro lw' sw' D' ⟨b1, b2, b3, b4, b5⟩
      obtain ⟨c', d1, d2⟩ := lany_iff.mp hu2.2
      cases hpc : Nat.beq c'.1 x.1 with
      | false => rw [hpc] at d2; cases d2
      | true =>
        rw [hpc, cond_true] at d2
        split at d2
        · next E' C' θ hi =>
          obtain ⟨σ2, τ', g1, g2, g3, g4, g5, g6, g7, g8⟩ := q_inst_ok hw b1 b2 b3 (idL_ok hn a1) h0 hi
          have hpc' := Nat.eq_of_beq_eq_true hpc
          have hst : sw' = [] := by
            have hn1 : x.2.2 = [] := by
              have := hu2.1
              unfold nilB at this
              split at this
              · next e => exact e
              · cases this
            rw [hn1] at b4
            exact stOK2_nil b4
          subst hst
          have hc2 := lall_iff.mp hc c' d1
          rw [Bool.and_eq_true, Bool.and_eq_true] at hc2
          have := hall (rkm τ' c'.2.2) (by unfold rkm; rw [List.length_map]; exact Nat.eq_of_beq_eq_true hc2.2.1) c' d1 τ' lw' D' aw' rfl g5 g6 g7 g8 b5 a2 a3
          rw [hpc'] at this
          exact this
        · cases d2
  · cases hok
def ctPQ (H : qT) (cts : List qCt) (hints : List ((Nat × Nat) × Nat)) (ct : qCt) (cuts : List qCu) : qP := (H, false, ct.2.2.2.1, true, cts, hints, cuts.map (fun c => c.1))
noncomputable def chkPQ (S : List (Nat × Nat)) (P : qP) (m fuel : Nat) (ct : qCt) (cuts : List qCu) : Bool := match mT ct.1 with
  | some M => okRun P.1 (idL ct.2.2.2.2.1.2.2.1.1.length) ct.2.2.2.2.2 cuts none (qgo2 S P (qrun2 S P fuel) ct.2.1 [] ct.1 M ct.2.2.2.2.1.2.2.1 ct.2.2.2.2.1.2.2.2 0 ct.2.2.2.2.1.2.1 []) && (chkCuts2 S P ct.2.2.2.2.1.2.2.1.1.length m fuel ct.2.1 ct.1 M ct.2.2.2.2.2 cuts && lall (fun c => rkinB c.2.1.2.2.1.1.length c.2.2) cuts)
  | none => false
noncomputable def chkQ (S : List (Nat × Nat)) (H : qT) (cts : List qCt) (hints : List ((Nat × Nat) × Nat)) (m fuel : Nat) (ct : qCt) (cuts : List qCu) : Bool := chkPQ S (ctPQ H cts hints ct cuts) m fuel ct cuts
theorem chkPQ_ok {S : List (Nat × Nat)} {P : qP} {Q : List rC → Prop} {QF : List Nat} (hl : lasts P.1 Q QF) (hS : mdfree S QF = true) {L : List Nat} (hw : HW P.1) (hct : ∀ ct ∈ P.2.2.2.2.1, CtQ P.1 Q L ct) (hs : P.2.1 = false) {m fuel : Nat} {ct : qCt} (e1 : P.2.2.1 = ct.2.2.2.1) {cuts : List qCu} (hSm : mdsub S P.2.2.1 = true) (h : chkPQ S P m fuel ct cuts = true) : CtQ P.1 Q L ct := by
  intro M d τ Aw D aw hM hd hr he hh hlv hq
  unfold chkPQ at h
  rw [hM] at h
  dsimp only at h
  rw [Bool.and_eq_true, Bool.and_eq_true] at h
  obtain ⟨h1, h2, h3⟩ := h
  obtain ⟨δ, hδ⟩ : ∃ δ, d = ct.2.1 + δ := ⟨d - ct.2.1, by omega⟩
  subst hδ
  refine entry2_ok hl hS hSm hw hct (τ0 := τ) (n0 := ct.2.2.2.2.1.2.2.1.1.length) he.1.symm he.2.1 h2 (fun c hc => lall_iff.mp h3 c hc) ?_ ?_ ⟨Nat.zero_le _, Nat.zero_le _⟩ h1 he hh hlv hr hq
  · rw [e1]
    exact fun o ho τ1 aw' w D' a1 a2 a3 aq a4 a5 a6 => ⟨aw', a2, a3, aq, o, ho, τ1, a1, a4, a5, a6⟩
  · rw [hs]
    exact fun g => by cases g
theorem chkQ_ok {S : List (Nat × Nat)} {H : qT} {Q : List rC → Prop} {QF : List Nat} (hl : lasts H Q QF) (hS : mdfree S QF = true) {L : List Nat} (hw : HW H) {cts : List qCt} (hct : ∀ ct ∈ cts, CtQ H Q L ct) {hints : List ((Nat × Nat) × Nat)} {m fuel : Nat} {ct : qCt} {cuts : List qCu} (hSm : mdsub S ct.2.2.2.1 = true) (h : chkQ S H cts hints m fuel ct cuts = true) : CtQ H Q L ct := chkPQ_ok (P := ctPQ H cts hints ct cuts) hl hS hw hct rfl rfl hSm h
/-! segments: a run from a state to ends of given patterns; the stack's places are the locals 200, 201 .. -/
noncomputable def kst (st : List qV) (i : Nat) (lv : qK) : qK := List.rec (motive := fun _ => Nat → qK) (fun _ => lv) (fun a _ ih i => (i, a) :: ih (Nat.succ i)) st i
def wst : List rV → Nat → rK → rK
  | [], _, lw => lw
  | v :: t, i, lw => (i, v) :: wst t (i + 1) lw
theorem kst_ok {H : qT} {σ : List Int} {lv : qK} {lw : rK} (h : lvOK H σ lv lw) : ∀ {st : List qV} {sw : List rV} (i : Nat), stOK2 H σ st sw → lvOK H σ (kst st i lv) (wst sw i lw)
  | [], [], _, _ => h
  | a :: s, v :: t, i, g => by
    intro j b hb
    have e1 : kst (a :: s) i lv = (i, a) :: kst s (Nat.succ i) lv := rfl
    have e2 : wst (v :: t) i lw = (i, v) :: wst t (i + 1) lw := rfl
    rw [e1, kget_cons] at hb
    rw [e2, lget_cons]
    dsimp only at hb ⊢
    cases hq : Nat.beq i j with
    | true =>
      rw [hq, cond_true] at hb
      cases hb
      exact ⟨v, rfl, g.1⟩
    | false =>
      rw [hq, cond_false] at hb
      rw [cond_false]
      exact kst_ok h (i + 1) g.2 j b hb
  | [], _ :: _, _, g => g.elim
  | _ :: _, [], _, g => g.elim
abbrev hCu : Type := Nat × Nat × qTp
noncomputable def okUS (H : qT) (ids : List qI) (posts : List qPo) (cuts : List hCu) (u : qU) : Bool := match u.2.2 with
  | .inl v => okRet H ids posts v u.1 u.2.1
  | .inr x => lany (fun c => bif (Nat.beq c.1 x.1 && Nat.beq c.2.1 x.2.2.length) then isS (q_inst H ids c.2.2 (kst x.2.2 200 x.2.1) u.1 u.2.1) else false) cuts
noncomputable def okRunS (H : qT) (ids : List qI) (posts : List qPo) (cuts : List hCu) (us : Option (List qU)) : Bool := match us with
  | some us => lall (okUS H ids posts cuts) us
  | none => false
theorem stOK2_len {H : qT} {σ : List Int} : ∀ {st : List qV} {sw : List rV}, stOK2 H σ st sw → sw.length = st.length
  | [], [], _ => rfl
  | _ :: _, _ :: _, g => by simp [stOK2_len g.2]
  | [], _ :: _, g => g.elim
  | _ :: _, [], g => g.elim
theorem segP {P : qP} {Q : List rC → Prop} {L : List Nat} (hw : HW P.1) (hct : ∀ ct ∈ P.2.2.2.2.1, CtOK P.1 Q L ct) {σ : List Int} {lw : rK} {sw : List rV} {D : rD} {aw : List rC} (hQ : P.2.2.2.1 = true → ∀ aw', ag P.1 P.2.2.1 aw aw' → Q aw') (hs : P.2.1 = false) {posts : List qPo} {cuts : List hCu} {n0 fuel dep mi : Nat} {M : rM} {E : qE} {C : qC} {pc : Nat} {lv : qK} {st : List qV} (hn : E.1.length = n0) (hok : okRunS P.1 (idL n0) posts cuts (qgo P (qrun P fuel) dep [] mi M E C pc lv st) = true) (hr : qrl P.1 σ E C lv st lw sw D aw) {cn z δ : Nat} (hcz : cn ≤ mC M ∧ z ≤ mS M) {Post : Option rV → rD → Prop}
    (hret : ∀ o ∈ posts, ∀ (τ : List Int) (aw' : List rC) (w : Option rV) (D' : rD), xt σ τ → rep D' aw' → ag P.1 P.2.2.1 aw aw' → eOK2 τ o.2.2.1 → hOK P.1 τ o.2.2.2 aw' → resOK P.1 τ o.2.1 w → Post w D')
    (hcut : ∀ c ∈ cuts, ∀ (τ : List Int) (aw' : List rC) (lw' : rK) (sw' : List rV) (D' : rD), xt σ τ → rep D' aw' → ag P.1 P.2.2.1 aw aw' → eOK2 τ c.2.2.2.2.1 → hOK P.1 τ c.2.2.2.2.2 aw' → lvOK P.1 τ c.2.2.2.1 (wst sw' 200 lw') → sw'.length = c.2.1 → Ev L (dep + δ) M (c.1, lw', sw', D', cn, z) Post) : Ev L (dep + δ) M (pc, lw, sw, D, cn, z) Post := by
  have he := hr.1
  have hn' : σ.length = n0 := by rw [← hn]; exact he.1.symm
  have h0 := he.2.1
  unfold okRunS at hok
  split at hok
  · next us hus =>
    have hgo := qgo_ok hw hct hQ (qrun_ok hw hct hQ fuel) (Mb := M) (cb := cn) (zb := z) (db := dep + δ) (Post := Post) dep [] mi M _ _ _ _ _ us hus σ lw sw D aw [] cn z δ hr ⟨rfl, rfl, rfl, rfl⟩ (by rw [hs]; exact fun g => by cases g) hcz (ag_refl _ _ _)
    refine hgo (fun u hu' σ' aw' a1 a2 => ?_)
    have hu2 := lall_iff.mp hok u hu'
    unfold okUS at hu2
    unfold qgoal
    split
    · next v hv =>
      rw [hv] at hu2
      intro w D' w1 w2 w3 w4
      exact okRet_ok hw (md := P.2.2.1) (aw0 := aw) (Post := Post) (fun o ho τ1 aw'' w' D'' b1 b2 b3 b4 b5 b6 => hret o ho τ1 aw'' w' D'' b1 b2 b3 b4 b5 b6) hn' h0 a1 hu2 w1 a2 w2 w3 w4
    · next x hxx =>
      rw [hxx] at hu2
      dsimp only at hu2
      rintro lw' sw' D' ⟨b1, b2, b3, b4, b5⟩
      obtain ⟨c', d1, d2⟩ := lany_iff.mp hu2
      cases hpc : (Nat.beq c'.1 x.1 && Nat.beq c'.2.1 x.2.2.length) with
      | false => rw [hpc] at d2; cases d2
      | true =>
        rw [hpc, cond_true] at d2
        rw [Bool.and_eq_true] at hpc
        cases hi : q_inst P.1 (idL n0) c'.2.2 (kst x.2.2 200 x.2.1) u.1 u.2.1 with
        | none => rw [hi] at d2; cases d2
        | some q =>
          obtain ⟨E', C', θ⟩ := q
          obtain ⟨σ2, τ', g1, g2, g3, g4, g5, g6, g7, g8⟩ := q_inst_ok hw b1 b2 (kst_ok b3 200 b4) (idL_ok hn' a1) h0 hi
          have := hcut c' d1 τ' aw' lw' sw' D' g5 b5 a2 g6 g7 g8 (by rw [stOK2_len b4]; exact (Nat.eq_of_beq_eq_true hpc.2).symm)
          rw [Nat.eq_of_beq_eq_true hpc.1] at this
          exact this
  · cases hok
