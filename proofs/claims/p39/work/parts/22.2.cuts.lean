/-! loops: a method is cut at their heads; a rank falls from cut to cut -/
def lexlt : List Nat → List Nat → Prop
  | a :: s, b :: t => a < b ∨ (a ≤ b ∧ lexlt s t)
  | _, _ => False
theorem lexInd : ∀ (m : Nat) (P : List Nat → Prop), (∀ l, l.length = m → (∀ l', l'.length = m → lexlt l' l → P l') → P l) → ∀ l, l.length = m → P l := by
  intro m
  induction m with
  | zero =>
    intro P h l hl
    match l, hl with
    | [], hl => exact h [] rfl (fun l' _ g => by cases l' <;> exact g.elim)
  | succ m ih =>
    intro P h l hl
    have key : ∀ (a : Nat) (t : List Nat), t.length = m → P (a :: t) := by
      intro a
      induction a using Nat.strongRecOn with
      | ind a iha =>
        refine ih (fun t => P (a :: t)) (fun t ht g => ?_)
        refine h (a :: t) (by simp [ht]) (fun l' hl' hlt => ?_)
        match l', hl', hlt with
        | b :: s, hl', hlt =>
          have hs : s.length = m := by simpa using hl'
          rcases hlt with k | ⟨k1, k2⟩
          · exact iha b k s hs
          · rcases Nat.lt_or_eq_of_le k1 with e | e
            · exact iha b e s hs
            · subst e
              exact g s hs k2
    match l, hl with
    | a :: t, hl => exact key a t (by simpa using hl)
abbrev qRk : Type := List (Bool × qI)
/-- a cut: its place, its pattern, its rank -/
abbrev qCu : Type := Nat × qTp × qRk
def rkv (τ : List Int) (c : Bool × qI) : Int := match τ[c.2.1]? with
  | some z => bif c.1 then c.2.2 - z else z + c.2.2
  | none => 0
def rkm (τ : List Int) (r : qRk) : List Nat := r.map (fun c => (rkv τ c).toNat)
noncomputable def rkpos (E : qE) (r : qRk) : Bool := lall (fun c => civ E (c.2.1, 0) false (fun lo hi => bif c.1 then zle hi c.2.2 else zle 0 (lo + c.2.2))) r
theorem rkpos_ok {τ : List Int} {E : qE} (h : eOK2 τ E) {r : qRk} (hr : rkpos E r = true) : ∀ c ∈ r, 0 ≤ rkv τ c := by
  intro c hc
  have g := lall_iff.mp hr c hc
  unfold rkv
  split
  · next z hz =>
    obtain ⟨lo, hi, b1, b2, b3⟩ := civ_ok h (x := (c.2.1, 0)) ⟨z, hz, (Int.add_zero z).symm⟩ false
    rw [b3] at g
    cases hb : c.1 with
    | true =>
      rw [hb, cond_true, zle_iff] at g
      rw [cond_true]
      omega
    | false =>
      rw [hb, cond_false, zle_iff] at g
      rw [cond_false]
      omega
  · exact Int.le_refl 0
noncomputable def rkc (E : qE) (θ : List qI) (d : Int) (n o : Bool × qI) : Bool := match rget θ n.2.1 with
  | some x => bif (n.1 && o.1) then fZ (n.2.2 - x.2 + d - o.2.2) (fun e => leQ E 24 o.2.1 x.1 e) else bif (n.1 || o.1) then false else fZ (x.2 + n.2.2 + d - o.2.2) (fun e => leQ E 24 x.1 o.2.1 e)
  | none => false
theorem rkc_ok {σ τ τ' : List Int} {E : qE} {θ : List qI} (h : eOK2 σ E) (hx : xt τ σ) (ht : thOK σ θ τ') {d : Int} {n o : Bool × qI} (ho : ∃ z, τ[o.2.1]? = some z) (hc : rkc E θ d n o = true) : rkv τ' n + d ≤ rkv τ o := by
  obtain ⟨y, hy⟩ := ho
  unfold rkc at hc
  split at hc
  · next x hxx =>
    rw [rget_eq] at hxx
    obtain ⟨z, z1, w, w1, w2⟩ := ht.2 _ _ hxx
    unfold rkv
    rw [z1, hy]
    dsimp only
    cases h1 : n.1 with
    | true =>
      cases h2 : o.1 with
      | true =>
        rw [h1, h2, Bool.and_self, cond_true, fZ_eq] at hc
        have := leQ_ok h 24 _ _ _ _ _ hc (hx _ _ hy) w1
        rw [cond_true, cond_true]
        omega
      | false => rw [h1, h2] at hc; cases hc
    | false =>
      cases h2 : o.1 with
      | true => rw [h1, h2] at hc; cases hc
      | false =>
        rw [h1, h2, Bool.and_self, cond_false, Bool.or_self, cond_false, fZ_eq] at hc
        have := leQ_ok h 24 _ _ _ _ _ hc w1 (hx _ _ hy)
        rw [cond_false, cond_false]
        omega
  · cases hc
noncomputable def rkL (E : qE) (θ : List qI) (ns : qRk) : qRk → Bool := List.rec (motive := fun _ => qRk → Bool) (fun _ => false) (fun n _ ih os => match os with
  | o :: os => bif rkc E θ 1 n o then true else bif rkc E θ 0 n o then ih os else false
  | [] => false) ns
theorem rkL_ok {σ τ τ' : List Int} {E : qE} {θ : List qI} (h : eOK2 σ E) (hx : xt τ σ) (ht : thOK σ θ τ') : ∀ (ns os : qRk), (∀ c ∈ ns, 0 ≤ rkv τ' c) → (∀ c ∈ os, ∃ z, τ[c.2.1]? = some z) → rkL E θ ns os = true → lexlt (rkm τ' ns) (rkm τ os) := by
  intro ns
  induction ns with
  | nil => intro os _ _ g; cases g
  | cons n t ih =>
    intro os hn ho g
    match os, ho, g with
    | o :: os, ho, g =>
      have g : (bif rkc E θ 1 n o then true else bif rkc E θ 0 n o then rkL E θ t os else false) = true := g
      have hn0 := hn n List.mem_cons_self
      show lexlt ((rkv τ' n).toNat :: rkm τ' t) ((rkv τ o).toNat :: rkm τ os)
      cases h1 : rkc E θ 1 n o with
      | true =>
        have := rkc_ok h hx ht (ho o List.mem_cons_self) h1
        exact Or.inl (by omega)
      | false =>
        rw [h1, cond_false] at g
        cases h2 : rkc E θ 0 n o with
        | false => rw [h2] at g; cases g
        | true =>
          rw [h2, cond_true] at g
          have := rkc_ok h hx ht (ho o List.mem_cons_self) h2
          exact Or.inr ⟨by omega, ih os (fun c hc => hn c (List.mem_cons_of_mem _ hc)) (fun c hc => ho c (List.mem_cons_of_mem _ hc)) g⟩
    | [], _, g => cases g
/-- the entry's symbols -/
noncomputable def idL (n : Nat) : List qI := nums (List.replicate n ()) 0 (fun l => l)
theorem idL_ok {n : Nat} {τ σ : List Int} (hn : τ.length = n) (h : xt τ σ) : thOK σ (idL n) τ := by
  unfold idL
  rw [nums_eq]
  refine ⟨by rw [numsL_len, List.length_replicate, hn], fun j x hx => ?_⟩
  have hj := (List.getElem?_eq_some_iff.mp hx).1
  rw [numsL_len, List.length_replicate] at hj
  have e := numsL_at _ _ _ _ hx
  subst e
  have hl : j < τ.length := by omega
  exact ⟨τ[j], List.getElem?_eq_getElem hl, τ[j], by show σ[0 + j]? = _; rw [Nat.zero_add]; exact h j _ (List.getElem?_eq_getElem hl), (Int.add_zero _).symm⟩
noncomputable def poT (o : qPo) : qTp := (o.1, (match o.2.1 with
  | some r => [(0, r)]
  | none => []), o.2.2.1, o.2.2.2)
noncomputable def resL (v : Option qV) : qK := match v with
  | some a => [(0, a)]
  | none => []
def resW (w : Option rV) : rK := match w with
  | some a => [(0, a)]
  | none => []
noncomputable def shp (r v : Option qV) : Bool := match r with
  | some _ => isS v
  | none => !(isS v)
noncomputable def okRet (H : qT) (ids : List qI) (posts : List qPo) (v : Option qV) (E : qE) (C : qC) : Bool := lany (fun o => bif shp o.2.1 v then isS (q_inst H ids (poT o) (resL v) E C) else false) posts
noncomputable def okCut (H : qT) (ids : List qI) (cuts : List qCu) (old : Option qRk) (pc : Nat) (lv : qK) (E : qE) (C : qC) : Bool := lany (fun c => bif Nat.beq c.1 pc then (match q_inst H ids c.2.1 lv E C with
  | some (E', _, θ) => (match old with
    | none => true
    | some r => rkL E' θ c.2.2 r)
  | none => false) else false) cuts
noncomputable def okU (H : qT) (ids : List qI) (posts : List qPo) (cuts : List qCu) (old : Option qRk) (u : qU) : Bool := match u.2.2 with
  | .inl v => okRet H ids posts v u.1 u.2.1
  | .inr x => nilB x.2.2 && okCut H ids cuts old x.1 x.2.1 u.1 u.2.1
noncomputable def okRun (H : qT) (ids : List qI) (posts : List qPo) (cuts : List qCu) (old : Option qRk) (us : Option (List qU)) : Bool := match us with
  | some us => lall (okU H ids posts cuts old) us
  | none => false
noncomputable def chkCuts (P : qP) (n0 m fuel dep mi : Nat) (M : rM) (posts : List qPo) (cuts : List qCu) : Bool := lall (fun c => rkpos c.2.1.2.2.1 c.2.2 && (Nat.beq c.2.2.length m && okRun P.1 (idL n0) posts cuts (some c.2.2) (qgo P (qrun P fuel) dep [] mi M c.2.1.2.2.1 c.2.1.2.2.2 c.1 c.2.1.2.1 []))) cuts
def rkin (τ : List Int) (r : qRk) : Prop := ∀ c ∈ r, ∃ z, τ[c.2.1]? = some z
noncomputable def rkinB (n : Nat) (r : qRk) : Bool := lall (fun c => Nat.blt c.2.1 n) r
/-- the goal of a return -/
def PostR (H : qT) (md : List (Nat × Nat)) (posts : List qPo) (τ0 : List Int) (aw0 : List rC) (Post : Option rV → rD → Prop) : Prop := ∀ o ∈ posts, ∀ (τ1 : List Int) (aw' : List rC) (w : Option rV) (D' : rD), xt τ0 τ1 → rep D' aw' → ag H md aw0 aw' → eOK2 τ1 o.2.2.1 → hOK H τ1 o.2.2.2 aw' → resOK H τ1 o.2.1 w → Post w D'
theorem okRet_ok {H : qT} (hw : HW H) {md : List (Nat × Nat)} {posts : List qPo} {τ0 σ : List Int} {aw0 aw : List rC} {Post : Option rV → rD → Prop} (hP : PostR H md posts τ0 aw0 Post) {n0 : Nat} (hn : τ0.length = n0) (h0 : τ0[0]? = some 0) (hx : xt τ0 σ) {v : Option qV} {E : qE} {C : qC} (hok : okRet H (idL n0) posts v E C = true) {w : Option rV} {D : rD} (hr : rep D aw) (ha : ag H md aw0 aw) (he : eOK2 σ E) (hh : hOK H σ C aw) (hv : resOK H σ v w) : Post w D := by
  obtain ⟨o, o1, o2⟩ := lany_iff.mp hok
  cases hsh : shp o.2.1 v with
  | false => rw [hsh] at o2; cases o2
  | true =>
    rw [hsh, cond_true] at o2
    cases hi : q_inst H (idL n0) (poT o) (resL v) E C with
    | none => rw [hi] at o2; cases o2
    | some q =>
      obtain ⟨E', C', θ⟩ := q
      have hlv : lvOK H σ (resL v) (resW w) := by
        match v, hv with
        | none, hv => exact fun i a h => by cases h
        | some b, ⟨x, x1, x2⟩ =>
          subst x1
          intro i a h
          have h : (bif Nat.beq 0 i then some b else none) = some a := h
          show ∃ v, (bif Nat.beq 0 i then some x else none) = some v ∧ _
          cases hb : Nat.beq 0 i with
          | true => rw [hb] at h; cases h; exact ⟨x, rfl, x2⟩
          | false => rw [hb] at h; cases h
      obtain ⟨σ', τ, g1, g2, g3, g4, g5, g6, g7, g8⟩ := q_inst_ok hw he hh hlv (idL_ok hn hx) h0 hi
      refine hP o o1 τ aw w D g5 hr ha g6 g7 ?_
      unfold poT at g8
      dsimp only at g8
      unfold resOK
      split
      · next hn1 =>
        rw [hn1] at hsh
        match v, hsh, hv with
        | none, _, hv => exact hv
        | some b, hsh, _ => exact absurd hsh (by simp [isS, shp])
      · next r hr1 =>
        rw [hr1] at g8
        obtain ⟨x, x1, x2⟩ := g8 0 r rfl
        cases hw' : w with
        | some y =>
          rw [hw'] at x1
          have x1 : some y = some x := x1
          cases x1
          exact ⟨_, rfl, x2⟩
        | none => rw [hw'] at x1; cases x1
theorem cuts_ok {P : qP} {Q : List rC → Prop} {L : List Nat} (hw : HW P.1) (hct : ∀ ct ∈ P.2.2.2.2.1, CtOK P.1 Q L ct) {aw0 : List rC} (hQ : P.2.2.2.1 = true → ∀ aw, ag P.1 P.2.2.1 aw0 aw → Q aw) {posts : List qPo} {cuts : List qCu} {τ0 : List Int} {n0 m fuel dep mi : Nat} {M : rM} (hn : τ0.length = n0) (h0 : τ0[0]? = some 0) (hc : chkCuts P n0 m fuel dep mi M posts cuts = true) (hri : ∀ c ∈ cuts, rkinB c.2.1.2.2.1.1.length c.2.2 = true) {Post : Option rV → rD → Prop} (hP : PostR P.1 P.2.2.1 posts τ0 aw0 Post) (hsc0 : scOK P.2.1 L τ0) {cn z δ : Nat} (hcz : cn ≤ mC M ∧ z ≤ mS M) : ∀ (l : List Nat), l.length = m → ∀ c ∈ cuts, ∀ (τ : List Int) (lw : rK) (D : rD) (aw : List rC), rkm τ c.2.2 = l → xt τ0 τ → eOK2 τ c.2.1.2.2.1 → hOK P.1 τ c.2.1.2.2.2 aw → lvOK P.1 τ c.2.1.2.1 lw → rep D aw → ag P.1 P.2.2.1 aw0 aw → Ev L (dep + δ) M (c.1, lw, [], D, cn, z) Post := by
  have hin : ∀ c ∈ cuts, ∀ τ, eOK2 τ c.2.1.2.2.1 → rkin τ c.2.2 := fun c hcc τ he x hx => by
    have := lall_iff.mp (hri c hcc) x hx
    have hl : x.2.1 < τ.length := by rw [← he.1]; exact Nat.le_of_ble_eq_true this
    exact ⟨τ[x.2.1], List.getElem?_eq_getElem hl⟩
  refine lexInd m _ (fun l hl ih => ?_)
  intro c hcm τ lw D aw hm hx he hh hlv hr ha
  have hsc := scOK_xt hx hsc0
  have hc1 := lall_iff.mp hc c hcm
  rw [Bool.and_eq_true, Bool.and_eq_true] at hc1
  obtain ⟨c1, c2, c3⟩ := hc1
  unfold okRun at c3
  split at c3
  · next us hus =>
    have hgo := qgo_ok hw hct hQ (qrun_ok hw hct hQ fuel) (Mb := M) (cb := cn) (zb := z) (db := dep + δ) (Post := Post) dep [] mi M _ _ _ _ _ us hus τ lw [] D aw [] cn z δ ⟨he, hh, hlv, trivial, hr⟩ ⟨rfl, rfl, rfl, rfl⟩ hsc hcz ha
    refine hgo (fun u hu σ' aw' a1 a2 => ?_)
    have hu' := lall_iff.mp c3 u hu
    unfold okU at hu'
    unfold qgoal
    split
    · next v hv =>
      rw [hv] at hu'
      intro w D' w1 w2 w3 w4
      exact okRet_ok hw hP hn h0 (xt_trans hx a1) hu' w1 a2 w2 w3 w4
    · next x hxx =>
      rw [hxx] at hu'
      dsimp only at hu'
      rw [Bool.and_eq_true] at hu'
      rintro lw' sw' D' ⟨b1, b2, b3, b4, b5⟩
      obtain ⟨c', d1, d2⟩ := lany_iff.mp hu'.2
      cases hpc : Nat.beq c'.1 x.1 with
      | false => rw [hpc] at d2; cases d2
      | true =>
        rw [hpc, cond_true] at d2
        split at d2
        · next E' C' θ hi =>
          dsimp only at d2
          obtain ⟨σ2, τ', g1, g2, g3, g4, g5, g6, g7, g8⟩ := q_inst_ok hw b1 b2 b3 (idL_ok hn (xt_trans hx a1)) h0 hi
          have hpc' := Nat.eq_of_beq_eq_true hpc
          have hst : sw' = [] := by
            have hn1 : x.2.2 = [] := by
              have := hu'.1
              unfold nilB at this
              split at this
              · next e => exact e
              · cases this
            rw [hn1] at b4
            exact stOK2_nil b4
          subst hst
          have hc2 := lall_iff.mp hc c' d1
          rw [Bool.and_eq_true, Bool.and_eq_true] at hc2
          have hlex := rkL_ok g2 (xt_trans a1 g1) g4 c'.2.2 c.2.2 (rkpos_ok g6 hc2.1) (hin c hcm τ he) d2
          have := ih (rkm τ' c'.2.2) (by unfold rkm; rw [List.length_map]; exact Nat.eq_of_beq_eq_true hc2.2.1) (by rw [← hm]; exact hlex) c' d1 τ' lw' D' aw' rfl g5 g6 g7 g8 b5 a2
          rw [hpc'] at this
          exact this
        · cases d2
  · cases c3
theorem entry_ok {P : qP} {Q : List rC → Prop} {L : List Nat} (hw : HW P.1) (hct : ∀ ct ∈ P.2.2.2.2.1, CtOK P.1 Q L ct) {aw0 : List rC} (hQ : P.2.2.2.1 = true → ∀ aw, ag P.1 P.2.2.1 aw0 aw → Q aw) {posts : List qPo} {cuts : List qCu} {τ0 : List Int} {n0 m fuel dep mi : Nat} {M : rM} (hn : τ0.length = n0) (h0 : τ0[0]? = some 0) (hc : chkCuts P n0 m fuel dep mi M posts cuts = true) (hri : ∀ c ∈ cuts, rkinB c.2.1.2.2.1.1.length c.2.2 = true) {Post : Option rV → rD → Prop} (hP : PostR P.1 P.2.2.1 posts τ0 aw0 Post) (hsc0 : scOK P.2.1 L τ0) {cn z δ : Nat} (hcz : cn ≤ mC M ∧ z ≤ mS M) {E : qE} {C : qC} {lv : qK} {pc : Nat} (hok : okRun P.1 (idL n0) posts cuts none (qgo P (qrun P fuel) dep [] mi M E C pc lv []) = true) {lw : rK} {D : rD} (he : eOK2 τ0 E) (hh : hOK P.1 τ0 C aw0) (hlv : lvOK P.1 τ0 lv lw) (hr : rep D aw0) : Ev L (dep + δ) M (pc, lw, [], D, cn, z) Post := by
  have hall := cuts_ok hw hct hQ hn h0 hc hri hP hsc0 (δ := δ) hcz
  unfold okRun at hok
  split at hok
  · next us hus =>
    have hgo := qgo_ok hw hct hQ (qrun_ok hw hct hQ fuel) (Mb := M) (cb := cn) (zb := z) (db := dep + δ) (Post := Post) dep [] mi M _ _ _ _ _ us hus τ0 lw [] D aw0 [] cn z δ ⟨he, hh, hlv, trivial, hr⟩ ⟨rfl, rfl, rfl, rfl⟩ hsc0 hcz (ag_refl _ _ _)
    refine hgo (fun u hu' σ' aw' a1 a2 => ?_)
    have hu2 := lall_iff.mp hok u hu'
    unfold okU at hu2
    unfold qgoal
    split
    · next v hv =>
      rw [hv] at hu2
      intro w D' w1 w2 w3 w4
      exact okRet_ok hw hP hn h0 a1 hu2 w1 a2 w2 w3 w4
    · next x hxx =>
      rw [hxx] at hu2
      dsimp only at hu2
      rw [Bool.and_eq_true] at hu2
      rintro lw' sw' D' ⟨b1, b2, b3, b4, b5⟩
      obtain ⟨c', d1, d2⟩ := lany_iff.mp hu2.2
      cases hpc : Nat.beq c'.1 x.1 with
      | false => rw [hpc] at d2; cases d2
      | true =>
        rw [hpc, cond_true] at d2
        split at d2
        · next E' C' θ hi =>
          obtain ⟨σ2, τ', g1, g2, g3, g4, g5, g6, g7, g8⟩ := q_inst_ok hw b1 b2 b3 (idL_ok hn a1) h0 hi
          have hpc' := Nat.eq_of_beq_eq_true hpc
          have hst : sw' = [] := by
            have hn1 : x.2.2 = [] := by
              have := hu2.1
              unfold nilB at this
              split at this
              · next e => exact e
              · cases this
            rw [hn1] at b4
            exact stOK2_nil b4
          subst hst
          have hc2 := lall_iff.mp hc c' d1
          rw [Bool.and_eq_true, Bool.and_eq_true] at hc2
          have := hall (rkm τ' c'.2.2) (by unfold rkm; rw [List.length_map]; exact Nat.eq_of_beq_eq_true hc2.2.1) c' d1 τ' lw' D' aw' rfl g5 g6 g7 g8 b5 a2
          rw [hpc'] at this
          exact this
        · cases d2
  · cases hok
/-- the whole check of a method's contract -/
def ctP (H : qT) (cts : List qCt) (hints : List ((Nat × Nat) × Nat)) (ct : qCt) (cuts : List qCu) : qP := (H, false, ct.2.2.2.1, ct.2.2.1, cts, hints, cuts.map (fun c => c.1))
noncomputable def chkP (P : qP) (m fuel : Nat) (ct : qCt) (cuts : List qCu) : Bool := match mT ct.1 with
  | some M => okRun P.1 (idL ct.2.2.2.2.1.2.2.1.1.length) ct.2.2.2.2.2 cuts none (qgo P (qrun P fuel) ct.2.1 [] ct.1 M ct.2.2.2.2.1.2.2.1 ct.2.2.2.2.1.2.2.2 0 ct.2.2.2.2.1.2.1 []) && (chkCuts P ct.2.2.2.2.1.2.2.1.1.length m fuel ct.2.1 ct.1 M ct.2.2.2.2.2 cuts && lall (fun c => rkinB c.2.1.2.2.1.1.length c.2.2) cuts)
  | none => false
noncomputable def chkM (H : qT) (cts : List qCt) (hints : List ((Nat × Nat) × Nat)) (m fuel : Nat) (ct : qCt) (cuts : List qCu) : Bool := chkP (ctP H cts hints ct cuts) m fuel ct cuts
/-- the lasting fact rests on cells of some kinds alone -/
def lasts (H : qT) (Q : List rC → Prop) (QF : List Nat) : Prop := ∀ aw aw' : List rC, aw'.length = aw.length → (∀ (p κ j : Nat), H.2[p]? = some κ → κ ∈ QF → sl aw' p j = sl aw p j) → Q aw → Q aw'
noncomputable def mdfree (md : List (Nat × Nat)) (QF : List Nat) : Bool := lall (fun e => !(lany (fun k => Nat.beq k e.1) QF)) md
theorem mdfree_ok {md : List (Nat × Nat)} {QF : List Nat} (h : mdfree md QF = true) {κ j : Nat} (hk : κ ∈ QF) : mdin md κ j = false := by
  cases hm : mdin md κ j with
  | false => rfl
  | true =>
    obtain ⟨e, e1, e2⟩ := lany_iff.mp hm
    rw [Bool.and_eq_true] at e2
    have he := Nat.eq_of_beq_eq_true e2.1
    have := lall_iff.mp h e e1
    rw [lany_iff.mpr ⟨κ, hk, by rw [he]; exact Nat.beq_refl κ⟩] at this
    cases this
theorem chkP_ok {P : qP} {Q : List rC → Prop} {QF : List Nat} (hQ : lasts P.1 Q QF) {L : List Nat} (hw : HW P.1) (hct : ∀ ct ∈ P.2.2.2.2.1, CtOK P.1 Q L ct) (hs : P.2.1 = false) {m fuel : Nat} {ct : qCt} (e1 : P.2.2.1 = ct.2.2.2.1) (e2 : P.2.2.2.1 = ct.2.2.1) {cuts : List qCu} (hu : (!ct.2.2.1 || mdfree ct.2.2.2.1 QF) = true) (h : chkP P m fuel ct cuts = true) : CtOK P.1 Q L ct := by
  intro M d τ Aw D aw hM hd hr he hh hlv hq
  unfold chkP at h
  rw [hM] at h
  dsimp only at h
  rw [Bool.and_eq_true, Bool.and_eq_true] at h
  obtain ⟨h1, h2, h3⟩ := h
  obtain ⟨δ, hδ⟩ : ∃ δ, d = ct.2.1 + δ := ⟨d - ct.2.1, by omega⟩
  subst hδ
  have hQ' : P.2.2.2.1 = true → ∀ aw', ag P.1 P.2.2.1 aw aw' → Q aw' := by
    rw [e1, e2]
    intro g aw' ha
    rw [g, Bool.not_true, Bool.false_or] at hu
    exact hQ aw aw' ha.1 (fun p κ j hp hk => ha.2 p κ j hp (mdfree_ok hu hk)) (hq g)
  refine entry_ok hw hct hQ' (τ0 := τ) (n0 := ct.2.2.2.2.1.2.2.1.1.length) he.1.symm he.2.1 h2 (fun c hc => lall_iff.mp h3 c hc) ?_ ?_ ⟨Nat.zero_le _, Nat.zero_le _⟩ h1 he hh hlv hr
  · rw [e1]
    exact fun o ho τ1 aw' w D' a1 a2 a3 a4 a5 a6 => ⟨aw', a2, a3, o, ho, τ1, a1, a4, a5, a6⟩
  · rw [hs]
    exact fun g => by cases g
theorem chkM_ok {H : qT} {Q : List rC → Prop} {QF : List Nat} (hQ : lasts H Q QF) {L : List Nat} (hw : HW H) {cts : List qCt} (hct : ∀ ct ∈ cts, CtOK H Q L ct) {hints : List ((Nat × Nat) × Nat)} {m fuel : Nat} {ct : qCt} {cuts : List qCu} (hu : (!ct.2.2.1 || mdfree ct.2.2.2.1 QF) = true) (h : chkM H cts hints m fuel ct cuts = true) : CtOK H Q L ct := chkP_ok (P := ctP H cts hints ct cuts) hQ hw hct rfl rfl rfl hu h
