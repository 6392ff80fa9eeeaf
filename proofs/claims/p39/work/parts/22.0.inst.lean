/-! a state is of a pattern -/
abbrev qB : Type := Nat ⊕ (Nat × Nat)
abbrev qTp : Type := List qB × qK × qE × qC
abbrev qPo : Type := List qB × Option qV × qE × qC
/-- a contract: method, depth, does it need the lasting fact, what it may change, its start, its ends -/
abbrev qCt : Type := Nat × Nat × Bool × List (Nat × Nat) × qTp × List qPo
def thOK (σ : List Int) (θ : List qI) (τ : List Int) : Prop := τ.length = θ.length ∧ ∀ (j : Nat) (x : qI), θ[j]? = some x → ∃ z, τ[j]? = some z ∧ iOK σ x z
theorem thOK_xt {σ σ' : List Int} (h : xt σ σ') {θ : List qI} {τ : List Int} (g : thOK σ θ τ) : thOK σ' θ τ := ⟨g.1, fun j x hx => by
  obtain ⟨z, h1, h2⟩ := g.2 j x hx
  exact ⟨z, h1, iOK_xt h h2⟩⟩
theorem thOK_snoc {σ : List Int} {θ : List qI} {τ : List Int} (g : thOK σ θ τ) {x : qI} {z : Int} (hx : iOK σ x z) : thOK σ (θ ++ [x]) (τ ++ [z]) := by
  refine ⟨by simp [g.1], fun j y hy => ?_⟩
  by_cases hj : j < θ.length
  · rw [List.getElem?_append_left hj] at hy
    obtain ⟨w, h1, h2⟩ := g.2 j y hy
    exact ⟨w, by rw [List.getElem?_append_left (by rw [g.1]; exact hj)]; exact h1, h2⟩
  · rw [List.getElem?_append_right (by omega)] at hy
    have hlt := (List.getElem?_eq_some_iff.mp hy).1
    simp at hlt
    have e : j = θ.length := by omega
    subst e
    simp at hy
    subst hy
    exact ⟨z, by rw [← g.1]; simp, hx⟩
noncomputable def tsub (θ : List qI) (a : qV) : Option qV := match a with
  | .inl x => (match rget θ x.1 with
    | some y => fZ (y.2 + x.2) (fun e => some (.inl (y.1, e)))
    | none => none)
  | .inr (.inl x) => (match rget θ x.1 with
    | some y => fZ (y.2 + x.2) (fun e => some (.inr (.inl (y.1, e))))
    | none => none)
  | .inr (.inr o) => some (.inr (.inr o))
theorem tsub_ok {H : qT} {σ τ : List Int} {θ : List qI} (h : thOK σ θ τ) {a b : qV} (hs : tsub θ a = some b) (v : rV) : vOK H τ a v ↔ vOK H σ b v := by
  match a, hs with
  | .inl x, hs =>
    unfold tsub at hs
    dsimp only at hs
    split at hs
    · next y hy =>
      rw [fZ_eq] at hs
      cases hs
      rw [rget_eq] at hy
      obtain ⟨z, h1, w, h2, h3⟩ := h.2 _ _ hy
      constructor
      · rintro ⟨u, ⟨t, t1, t2⟩, u2, u3⟩
        rw [h1] at t1
        cases t1
        exact ⟨u, ⟨w, h2, by dsimp only; omega⟩, u2, u3⟩
      · rintro ⟨u, ⟨t, t1, t2⟩, u2, u3⟩
        dsimp only at t1 t2
        rw [h2] at t1
        cases t1
        exact ⟨u, ⟨z, h1, by omega⟩, u2, u3⟩
    · cases hs
  | .inr (.inl x), hs =>
    unfold tsub at hs
    dsimp only at hs
    split at hs
    · next y hy =>
      rw [fZ_eq] at hs
      cases hs
      rw [rget_eq] at hy
      obtain ⟨z, h1, w, h2, h3⟩ := h.2 _ _ hy
      constructor
      · rintro ⟨u, ⟨t, t1, t2⟩, u2⟩
        rw [h1] at t1
        cases t1
        exact ⟨u, ⟨w, h2, by dsimp only; omega⟩, u2⟩
      · rintro ⟨u, ⟨t, t1, t2⟩, u2⟩
        dsimp only at t1 t2
        rw [h2] at t1
        cases t1
        exact ⟨u, ⟨z, h1, by omega⟩, u2⟩
    · cases hs
  | .inr (.inr o), hs =>
    have hs : some (Sum.inr (Sum.inr o)) = some b := hs
    cases hs
    match o with
    | none => exact Iff.rfl
    | some κ => exact Iff.rfl
noncomputable def veq (a b : qV) : Bool := match a with
  | .inl x => (match b with
    | .inl y => ieq x y
    | _ => false)
  | .inr (.inl x) => (match b with
    | .inr (.inl y) => ieq x y
    | _ => false)
  | .inr (.inr none) => (match b with
    | .inr (.inr none) => true
    | _ => false)
  | .inr (.inr (some κ)) => (match b with
    | .inr (.inr (some κ')) => Nat.beq κ κ'
    | _ => false)
theorem veq_eq {a b : qV} (h : veq a b = true) : a = b := by
  unfold veq at h
  split at h
  · split at h
    · rw [ieq_iff h]
    · cases h
  · split at h
    · rw [ieq_iff h]
    · cases h
  · split at h
    · rfl
    · cases h
  · split at h
    · rw [Nat.eq_of_beq_eq_true h]
    · cases h
noncomputable def q_bind (H : qT) (lv : qK) (bs : List qB) : qE → qC → List qI → Option (qE × qC × List qI) := List.rec (motive := fun _ => qE → qC → List qI → Option (qE × qC × List qI)) (fun E C θ => some (E, C, θ)) (fun b _ ih E C θ => match b with
  | .inl i => (match kget lv i with
    | some (.inl x) => rsnoc x θ (fun θ => ih E C θ)
    | some (.inr (.inl x)) => rsnoc x θ (fun θ => ih E C θ)
    | _ => none)
  | .inr pj => (match rget H.2 pj.1 with
    | some κ => (match rget H.1 κ with
      | some K => (match qread H E C κ K pj.2 with
        | some (E', C', .inl x) => rsnoc x θ (fun θ => ih E' C' θ)
        | some (E', C', .inr (.inl x)) => rsnoc x θ (fun θ => ih E' C' θ)
        | _ => none)
      | none => none)
    | none => none)) bs
theorem q_bind_ok {H : qT} (hw : HW H) {lv : qK} {lw : rK} {aw : List rC} : ∀ (bs : List qB) {σ τ : List Int} {E E' : qE} {C C' : qC} {θ θ' : List qI}, eOK2 σ E → hOK H σ C aw → lvOK H σ lv lw → thOK σ θ τ → q_bind H lv bs E C θ = some (E', C', θ') → ∃ σ' τ', xt σ σ' ∧ eOK2 σ' E' ∧ hOK H σ' C' aw ∧ thOK σ' θ' τ' ∧ xt τ τ' := by
  intro bs
  induction bs with
  | nil =>
    intro σ τ E E' C C' θ θ' h1 h2 h3 h4 h
    have h : some (E, C, θ) = some (E', C', θ') := h
    cases h
    exact ⟨σ, τ, xt_refl σ, h1, h2, h4, xt_refl τ⟩
  | cons b t ih =>
    intro σ τ E E' C C' θ θ' h1 h2 h3 h4 h
    match b, h with
    | .inl i, h =>
      have h : (match kget lv i with
        | some (.inl x) => rsnoc x θ (fun θ => q_bind H lv t E C θ)
        | some (.inr (.inl x)) => rsnoc x θ (fun θ => q_bind H lv t E C θ)
        | _ => none) = some (E', C', θ') := h
      split at h
      · next x hx =>
        obtain ⟨v, v1, z, z1, z2⟩ := h3 i _ hx
        rw [rsnoc_eq] at h
        obtain ⟨σ', τ', g1, g2, g3, g4, g5⟩ := ih h1 h2 h3 (thOK_snoc h4 z1) h
        exact ⟨σ', τ', g1, g2, g3, g4, xt_trans (xt_app τ [z]) g5⟩
      · next x hx =>
        obtain ⟨v, v1, z, z1, z2⟩ := h3 i _ hx
        rw [rsnoc_eq] at h
        obtain ⟨σ', τ', g1, g2, g3, g4, g5⟩ := ih h1 h2 h3 (thOK_snoc h4 z1) h
        exact ⟨σ', τ', g1, g2, g3, g4, xt_trans (xt_app τ [z]) g5⟩
      · cases h
    | .inr pj, h =>
      have h : (match rget H.2 pj.1 with
        | some κ => (match rget H.1 κ with
          | some K => (match qread H E C κ K pj.2 with
            | some (E', C', .inl x) => rsnoc x θ (fun θ => q_bind H lv t E' C' θ)
            | some (E', C', .inr (.inl x)) => rsnoc x θ (fun θ => q_bind H lv t E' C' θ)
            | _ => none)
          | none => none)
        | none => none) = some (E', C', θ') := h
      split at h
      · next κ hκ =>
        split at h
        · next K hK =>
          rw [rget_eq] at hκ hK
          split at h
          · next E1 C1 x hrd =>
            obtain ⟨q, v, σ1, q1, q2, q3, q4, q5, q6, q7, z, z1, z2⟩ := qread_ok hw h1 h2 hK hκ hrd
            rw [rsnoc_eq] at h
            obtain ⟨σ', τ', g1, g2, g3, g4, g5⟩ := ih q6 q7 (lvOK_xt q5 h3) (thOK_snoc (thOK_xt q5 h4) z1) h
            exact ⟨σ', τ', xt_trans q5 g1, g2, g3, g4, xt_trans (xt_app τ [z]) g5⟩
          · next E1 C1 x hrd =>
            obtain ⟨q, v, σ1, q1, q2, q3, q4, q5, q6, q7, z, z1, z2⟩ := qread_ok hw h1 h2 hK hκ hrd
            rw [rsnoc_eq] at h
            obtain ⟨σ', τ', g1, g2, g3, g4, g5⟩ := ih q6 q7 (lvOK_xt q5 h3) (thOK_snoc (thOK_xt q5 h4) z1) h
            exact ⟨σ', τ', xt_trans q5 g1, g2, g3, g4, xt_trans (xt_app τ [z]) g5⟩
          · cases h
        · cases h
      · cases h
noncomputable def ezip (E : qE) (θ : List qI) : List qR → Bool := List.rec (motive := fun _ => List qR → Bool) (fun rs => match rs with
  | [] => true
  | _ => false) (fun x _ ih rs => match rs with
  | r :: rs => bif civ E x false (fun lo hi => zle r.1 lo && zle hi r.2) then ih rs else false
  | [] => false) θ
theorem ezip_ok {σ : List Int} {E : qE} (h : eOK2 σ E) : ∀ (θ : List qI) (rs : List qR), ezip E θ rs = true → rs.length = θ.length ∧ ∀ (j : Nat) (x : qI) (r : qR) (z : Int), θ[j]? = some x → rs[j]? = some r → iOK σ x z → r.1 ≤ z ∧ z ≤ r.2 := by
  intro θ
  induction θ with
  | nil =>
    intro rs g
    match rs, g with
    | [], _ => exact ⟨rfl, fun j x r z hx => by simp at hx⟩
    | _ :: _, g => cases g
  | cons x t ih =>
    intro rs g
    match rs, g with
    | [], g => cases g
    | r :: rs, g =>
      have g : (bif civ E x false (fun lo hi => zle r.1 lo && zle hi r.2) then ezip E t rs else false) = true := g
      cases hb : civ E x false (fun lo hi => zle r.1 lo && zle hi r.2) with
      | false => rw [hb] at g; cases g
      | true =>
        rw [hb, cond_true] at g
        obtain ⟨g1, g2⟩ := ih rs g
        refine ⟨by simp [g1], fun j y s z hy hs hz => ?_⟩
        cases j with
        | zero =>
          simp at hy hs
          subst hy
          subst hs
          obtain ⟨lo, hi, b1, b2, b3⟩ := civ_ok h hz false
          rw [b3, Bool.and_eq_true, zle_iff, zle_iff] at hb
          omega
        | succ j =>
          rw [List.getElem?_cons_succ] at hy hs
          exact g2 j y s z hy hs hz
noncomputable def isS {α : Type} (o : Option α) : Bool := match o with
  | some _ => true
  | none => false
noncomputable def q_chkL (θ : List qI) (lv l : qK) : Bool := lall (fun q => match kget lv q.1 with
  | some a => (match tsub θ q.2 with
    | some b => veq a b
    | none => false)
  | none => false) l
noncomputable def q_chkC (θ : List qI) (C l : qC) : Bool := lall (fun e => match kf C e.1.1 e.1.2 with
  | some a => (match tsub θ e.2 with
    | some b => veq a b
    | none => false)
  | none => false) l
noncomputable def q_chkF (θ : List qI) (E : qE) (l : List (Nat × Nat × Int)) : Bool := lall (fun f => match rget θ f.1 with
  | some x => (match rget θ f.2.1 with
    | some y => fZ (f.2.2 + x.2 - y.2) (fun e => leQ E 24 x.1 y.1 e)
    | none => false)
  | none => false) l
noncomputable def nilB {α : Type} (l : List α) : Bool := match l with
  | [] => true
  | _ => false
noncomputable def q_inst (H : qT) (fix : List qI) (tp : qTp) (lv : qK) (E : qE) (C : qC) : Option (qE × qC × List qI) := match q_bind H lv tp.1 E C fix with
  | some (E', C', θ) => bif (ezip E' θ tp.2.2.1.1 && (q_chkL θ lv tp.2.1 && (q_chkC θ C' tp.2.2.2 && (q_chkF θ E' tp.2.2.1.2.1 && nilB tp.2.2.1.2.2)))) then (match cdrop H E' (fun p j => isS (kf tp.2.2.2 p j)) C' with
      | some _ => some (E', C', θ)
      | none => none) else none
  | none => none
theorem kget_mem {lv : qK} {i : Nat} {v : qV} (h : kget lv i = some v) : (i, v) ∈ lv := by
  induction lv with
  | nil => cases h
  | cons q t ih =>
    rw [kget_cons] at h
    cases hb : Nat.beq q.1 i with
    | true =>
      rw [hb, cond_true] at h
      cases h
      have := Nat.eq_of_beq_eq_true hb
      subst this
      exact List.mem_cons_self
    | false =>
      rw [hb, cond_false] at h
      exact List.mem_cons_of_mem _ (ih h)
theorem q_inst_ok {H : qT} (hw : HW H) {fix : List qI} {tp : qTp} {lv : qK} {lw : rK} {aw : List rC} {σ τ0 : List Int} {E E' : qE} {C C' : qC} {θ : List qI} (h1 : eOK2 σ E) (h2 : hOK H σ C aw) (h3 : lvOK H σ lv lw) (h4 : thOK σ fix τ0) (h0 : τ0[0]? = some 0) (h : q_inst H fix tp lv E C = some (E', C', θ)) : ∃ σ' τ, xt σ σ' ∧ eOK2 σ' E' ∧ hOK H σ' C' aw ∧ thOK σ' θ τ ∧ xt τ0 τ ∧ eOK2 τ tp.2.2.1 ∧ hOK H τ tp.2.2.2 aw ∧ lvOK H τ tp.2.1 lw := by
  unfold q_inst at h
  split at h
  · next E1 C1 θ1 hb =>
    obtain ⟨σ', τ, g1, g2, g3, g4, g5⟩ := q_bind_ok hw _ h1 h2 h3 h4 hb
    cases hc : (ezip E1 θ1 tp.2.2.1.1 && (q_chkL θ1 lv tp.2.1 && (q_chkC θ1 C1 tp.2.2.2 && (q_chkF θ1 E1 tp.2.2.1.2.1 && nilB tp.2.2.1.2.2)))) with
    | false => rw [hc] at h; cases h
    | true =>
      rw [hc, cond_true] at h
      simp only [Bool.and_eq_true] at hc
      obtain ⟨c1, c2, c3, c4, c5⟩ := hc
      split at h
      · next C2 hC2 =>
        cases h
        obtain ⟨d1, d2⟩ := cdrop_ok g2 g3 hC2
        obtain ⟨z1, z2⟩ := ezip_ok g2 _ _ c1
        refine ⟨σ', τ, g1, g2, g3, g4, g5, ⟨by rw [z1, g4.1], g5 0 0 h0, fun j r hr => ?_, fun f hf => ?_, fun f hf => ?_⟩, ⟨d1.1, fun p q hq => ?_⟩, fun i a ha => ?_⟩
        · have hj : j < θ.length := by rw [← z1]; exact (List.getElem?_eq_some_iff.mp hr).1
          have hx := List.getElem?_eq_getElem hj
          obtain ⟨z, w1, w2⟩ := g4.2 j _ hx
          exact ⟨z, w1, z2 j _ r z hx hr w2⟩
        · have hff := lall_iff.mp c4 f hf
          split at hff
          · next x hx =>
            split at hff
            · next y hy =>
              rw [fZ_eq] at hff
              rw [rget_eq] at hx hy
              obtain ⟨u, u1, u', u2, u3⟩ := g4.2 _ _ hx
              obtain ⟨w, w1, w', w2, w3⟩ := g4.2 _ _ hy
              have := leQ_ok g2 24 x.1 y.1 _ u' w' hff u2 w2
              exact ⟨u, w, u1, w1, by omega⟩
            · cases hff
          · cases hff
        · unfold nilB at c5
          split at c5
          · next hn => rw [hn] at hf; exact absurd hf List.not_mem_nil
          · cases c5
        · obtain ⟨κ, K, k1, k2, k3, k4, k5⟩ := d1.2 p q hq
          refine ⟨κ, K, k1, k2, k3, k4, fun j v hv => ?_⟩
          have h6 := k5 j v hv
          unfold slOK at h6 ⊢
          rw [d2] at h6
          cases hk : kf tp.2.2.2 p j with
          | none =>
            rw [hk] at h6
            exact h6
          | some a =>
            rw [hk] at h6
            have hcc := lall_iff.mp c3 _ (kf_mem hk)
            dsimp only at hcc
            split at hcc
            · next a' ha' =>
              split at hcc
              · next b hb' =>
                have e := veq_eq hcc
                subst e
                have h6 : (match kf C' p j with
                  | some a => vOK H σ' a v
                  | none => ∃ s, sdAt K j = some s ∧ sOK H s v) := h6
                rw [ha'] at h6
                exact (tsub_ok g4 hb' v).mpr h6
              · cases hcc
            · cases hcc
        · have hll := lall_iff.mp c2 _ (kget_mem ha)
          dsimp only at hll
          split at hll
          · next a' ha' =>
            split at hll
            · next b hb' =>
              have e := veq_eq hll
              subst e
              obtain ⟨v, v1, v2⟩ := h3 i _ ha'
              exact ⟨v, v1, (tsub_ok g4 hb' v).mpr (vOK_xt g1 v2)⟩
            · cases hll
          · cases hll
      · cases h
  · cases h
/-! behind a call -/
noncomputable def dropL {α : Type} (n : Nat) (l : List α) : List α := Nat.rec (motive := fun _ => List α → List α) (fun l => l) (fun _ ih l => match l with
  | [] => []
  | _ :: t => ih t) n l
theorem dropL_eq {α : Type} : ∀ (n : Nat) (l : List α), dropL n l = l.drop n := by
  intro n
  induction n with
  | zero => intro l; rfl
  | succ n ih =>
    intro l
    match l with
    | [] => rfl
    | _ :: t => exact ih t
noncomputable def lapp {α β : Type} (a b : List α) (k : List α → β) : β := List.rec (motive := fun _ => (List α → β) → β) (fun k => k b) (fun x _ ih k => ih (fun t => k (x :: t))) a k
theorem lapp_eq {α β : Type} (a b : List α) : ∀ (k : List α → β), lapp a b k = k (a ++ b) := by
  induction a with
  | nil => intro k; rfl
  | cons x t ih =>
    intro k
    show lapp t b (fun t => k (x :: t)) = _
    rw [ih]
    rfl
/-- names for the new symbols -/
noncomputable def nums {α β : Type} (rs : List α) (n : Nat) (k : List qI → β) : β := List.rec (motive := fun _ => Nat → (List qI → β) → β) (fun _ k => k []) (fun _ _ ih n k => fN n (fun n => ih (Nat.succ n) (fun t => k ((n, 0) :: t)))) rs n k
def numsL {α : Type} : List α → Nat → List qI
  | [], _ => []
  | _ :: t, n => (n, 0) :: numsL t (n + 1)
theorem nums_eq {α β : Type} (rs : List α) : ∀ (n : Nat) (k : List qI → β), nums rs n k = k (numsL rs n) := by
  induction rs with
  | nil => intro n k; rfl
  | cons x t ih =>
    intro n k
    show fN n (fun n => nums t (Nat.succ n) (fun t => k ((n, 0) :: t))) = _
    rw [fN_eq, ih]
    rfl
theorem numsL_len {α : Type} (rs : List α) : ∀ n, (numsL rs n).length = rs.length := by
  induction rs with
  | nil => intro n; rfl
  | cons x t ih => intro n; simp [numsL, ih]
theorem numsL_at {α : Type} (rs : List α) : ∀ (n j : Nat) (x : qI), (numsL rs n)[j]? = some x → x = (n + j, 0) := by
  induction rs with
  | nil => intro n j x h; simp [numsL] at h
  | cons y t ih =>
    intro n j x h
    cases j with
    | zero => simp [numsL] at h; rw [← h]; rfl
    | succ j =>
      have h : (numsL t (n + 1))[j]? = some x := h
      rw [ih (n + 1) j x h]
      congr 1
      omega
noncomputable def subF {β : Type} (θ : List qI) (fs : List (Nat × Nat × Int)) (d : β) (k : List (Nat × Nat × Int) → β) : β := List.rec (motive := fun _ => (List (Nat × Nat × Int) → β) → β) (fun k => k []) (fun f _ ih k => match rget θ f.1 with
  | some x => (match rget θ f.2.1 with
    | some y => fZ (f.2.2 + x.2 - y.2) (fun e => ih (fun t => k ((x.1, y.1, e) :: t)))
    | none => d)
  | none => d) fs k
theorem subF_ok {σ τ : List Int} {θ : List qI} (h : thOK σ θ τ) : ∀ (fs : List (Nat × Nat × Int)), (∀ f ∈ fs, ∃ x y, τ[f.1]? = some x ∧ τ[f.2.1]? = some y ∧ x + f.2.2 ≤ y) → ∃ gs, (∀ f ∈ gs, ∃ x y, σ[f.1]? = some x ∧ σ[f.2.1]? = some y ∧ x + f.2.2 ≤ y) ∧ ∀ (β : Type) (d : β) (k : List (Nat × Nat × Int) → β), subF θ fs d k = k gs := by
  intro fs
  induction fs with
  | nil => intro _; exact ⟨[], fun f hf => absurd hf List.not_mem_nil, fun β d k => rfl⟩
  | cons f t ih =>
    intro hf
    obtain ⟨gs, g1, g2⟩ := ih (fun f h' => hf f (List.mem_cons_of_mem _ h'))
    obtain ⟨x, y, x1, x2, x3⟩ := hf f List.mem_cons_self
    have hj1 : f.1 < θ.length := by rw [← h.1]; exact (List.getElem?_eq_some_iff.mp x1).1
    have hj2 : f.2.1 < θ.length := by rw [← h.1]; exact (List.getElem?_eq_some_iff.mp x2).1
    obtain ⟨z, z1, z', z2, z3⟩ := h.2 _ _ (List.getElem?_eq_getElem hj1)
    obtain ⟨w, w1, w', w2, w3⟩ := h.2 _ _ (List.getElem?_eq_getElem hj2)
    rw [x1] at z1
    cases z1
    rw [x2] at w1
    cases w1
    refine ⟨((θ[f.1]).1, (θ[f.2.1]).1, f.2.2 + (θ[f.1]).2 - (θ[f.2.1]).2) :: gs, fun g hg => ?_, fun β d k => ?_⟩
    · rcases List.mem_cons.mp hg with e | e
      · subst e
        exact ⟨z', w', z2, w2, by dsimp only; omega⟩
      · exact g1 g e
    · have e : subF θ (f :: t) d k = match rget θ f.1 with
        | some x => (match rget θ f.2.1 with
          | some y => fZ (f.2.2 + x.2 - y.2) (fun e => subF θ t d (fun t => k ((x.1, y.1, e) :: t)))
          | none => d)
        | none => d := rfl
      rw [e, rget_eq, List.getElem?_eq_getElem hj1]
      dsimp only
      rw [rget_eq, List.getElem?_eq_getElem hj2]
      dsimp only
      rw [fZ_eq, g2]
noncomputable def subC (θ : List qI) (C base : qC) : Option qC := List.rec (motive := fun _ => Option qC) (some base) (fun e _ ih => match ih with
  | some t => (match tsub θ e.2 with
    | some b => some ((e.1, b) :: t)
    | none => none)
  | none => none) C
theorem subC_ok {θ : List qI} {base : qC} : ∀ (C C' : qC), subC θ C base = some C' → ∀ p j, (kf C p j = none → kf C' p j = kf base p j) ∧ (∀ a, kf C p j = some a → ∃ b, tsub θ a = some b ∧ kf C' p j = some b) := by
  intro C
  induction C with
  | nil =>
    intro C' h p j
    have h : some base = some C' := h
    cases h
    exact ⟨fun _ => rfl, fun a h => by cases h⟩
  | cons e t ih =>
    intro C' h p j
    have h : (match subC θ t base with
      | some t => (match tsub θ e.2 with
        | some b => some ((e.1, b) :: t)
        | none => none)
      | none => none) = some C' := h
    split at h
    · next t' ht =>
      split at h
      · next b hb =>
        cases h
        obtain ⟨i1, i2⟩ := ih t' ht p j
        rw [kf_cons, kf_cons]
        dsimp only
        cases hk : (Nat.beq e.1.1 p && Nat.beq e.1.2 j) with
        | true =>
          refine ⟨fun g => ?_, fun a g => ?_⟩
          · rw [cond_true] at g; cases g
          · rw [cond_true] at g; cases g; exact ⟨b, hb, rfl⟩
        | false => exact ⟨fun g => i1 g, fun a g => i2 a g⟩
      · cases h
    · cases h
noncomputable def mdP (H : qT) (md : List (Nat × Nat)) (p j : Nat) : Bool := match rget H.2 p with
  | some κ => mdin md κ j
  | none => true
/-- one end of a contract, in the caller's words -/
noncomputable def q_post (H : qT) (md : List (Nat × Nat)) (E : qE) (C : qC) (θ : List qI) (o : qPo) : Option (qE × qC × Option qV) := nums (dropL θ.length o.2.2.1.1) E.1.length (fun ns => lapp θ ns (fun θ' => lapp E.1 (dropL θ.length o.2.2.1.1) (fun l => subF θ' o.2.2.1.2.1 none (fun fs => lapp fs E.2.1 (fun fs => cfil (fun p j => !(mdP H md p j)) C (fun C1 => match subC θ' o.2.2.2 C1 with
  | some C2 => (match o.2.1 with
    | none => some ((l, fs, E.2.2), C2, none)
    | some a => (match tsub θ' a with
      | some b => some ((l, fs, E.2.2), C2, some b)
      | none => none))
  | none => none))))))
def resOK (H : qT) (τ : List Int) (r : Option qV) (v : Option rV) : Prop := match r with
  | none => v = none
  | some a => ∃ w, v = some w ∧ vOK H τ a w
theorem q_post_ok {H : qT} {md : List (Nat × Nat)} {σ τ τ1 : List Int} {E E' : qE} {C C' : qC} {θ : List qI} {o : qPo} {r : Option qV} {v : Option rV} {aw aw' : List rC} (h1 : eOK2 σ E) (h2 : hOK H σ C aw) (h3 : thOK σ θ τ) (h4 : xt τ τ1) (h5 : eOK2 τ1 o.2.2.1) (h6 : hOK H τ1 o.2.2.2 aw') (h7 : resOK H τ1 o.2.1 v) (h8 : ag H md aw aw') (h : q_post H md E C θ o = some (E', C', r)) : ∃ σ', xt σ σ' ∧ eOK2 σ' E' ∧ hOK H σ' C' aw' ∧ resOK H σ' r v := by
  have hlt : τ.length ≤ τ1.length := by
    rcases Nat.eq_zero_or_pos τ.length with e | e
    · omega
    · have hp : τ.length - 1 < τ.length := by omega
      have := h4 (τ.length - 1) _ (List.getElem?_eq_getElem hp)
      have := (List.getElem?_eq_some_iff.mp this).1
      omega
  have hθ : τ.length = θ.length := h3.1
  have hx := xt_app σ (τ1.drop θ.length)
  have hth : thOK (σ ++ τ1.drop θ.length) (θ ++ numsL (o.2.2.1.1.drop θ.length) E.1.length) τ1 := by
    refine ⟨?_, fun j x hj => ?_⟩
    · rw [List.length_append, numsL_len, List.length_drop, h5.1]
      omega
    · by_cases g : j < θ.length
      · rw [List.getElem?_append_left g] at hj
        obtain ⟨z, z1, z2⟩ := h3.2 j x hj
        exact ⟨z, h4 j z z1, iOK_xt hx z2⟩
      · rw [List.getElem?_append_right (by omega)] at hj
        have hjl := (List.getElem?_eq_some_iff.mp hj).1
        rw [numsL_len, List.length_drop, h5.1] at hjl
        have e := numsL_at _ _ _ _ hj
        subst e
        have hj1 : j < τ1.length := by omega
        refine ⟨τ1[j], List.getElem?_eq_getElem hj1, τ1[j], ?_, (Int.add_zero _).symm⟩
        show (σ ++ τ1.drop θ.length)[E.1.length + (j - θ.length)]? = _
        rw [h1.1, List.getElem?_append_right (by omega), List.getElem?_drop, show θ.length + (σ.length + (j - θ.length) - σ.length) = j by omega]
        exact List.getElem?_eq_getElem hj1
  unfold q_post at h
  rw [dropL_eq, nums_eq, lapp_eq, lapp_eq] at h
  obtain ⟨gs, g1, g2⟩ := subF_ok hth _ h5.2.2.2.1
  rw [g2, lapp_eq, cfil_eq] at h
  have hE : eOK2 (σ ++ τ1.drop θ.length) (E.1 ++ o.2.2.1.1.drop θ.length, gs ++ E.2.1, E.2.2) := by
    refine ⟨?_, hx 0 0 h1.2.1, fun j r hr => ?_, fun f hf => ?_, fun f hf => ?_⟩
    · simp [h1.1, h5.1]
    · have hr : (E.1 ++ o.2.2.1.1.drop θ.length)[j]? = some r := hr
      by_cases g : j < E.1.length
      · rw [List.getElem?_append_left g] at hr
        obtain ⟨z, z1, z2⟩ := h1.2.2.1 j r hr
        exact ⟨z, hx j z z1, z2⟩
      · rw [List.getElem?_append_right (by omega), List.getElem?_drop] at hr
        obtain ⟨z, z1, z2⟩ := h5.2.2.1 _ r hr
        refine ⟨z, ?_, z2⟩
        rw [List.getElem?_append_right (by rw [← h1.1]; omega), List.getElem?_drop, ← h1.1]
        exact z1
    · rcases List.mem_append.mp hf with e | e
      · exact g1 f e
      · obtain ⟨x, y, a1, a2, a3⟩ := h1.2.2.2.1 f e
        exact ⟨x, y, hx _ _ a1, hx _ _ a2, a3⟩
    · obtain ⟨x, y, z, a1, a2, a3, a4⟩ := h1.2.2.2.2 f hf
      exact ⟨x, y, z, iOK_xt hx a1, iOK_xt hx a2, hx _ _ a3, a4⟩
  split at h
  · next C2 hC2 =>
    have hC : hOK H (σ ++ τ1.drop θ.length) C2 aw' := by
      refine ⟨h6.1, fun p q hq => ?_⟩
      obtain ⟨κ, K, k1, k2, k3, k4, k5⟩ := h6.2 p q hq
      refine ⟨κ, K, k1, k2, k3, k4, fun j w hw => ?_⟩
      have s6 := k5 j w hw
      obtain ⟨m1, m2⟩ := subC_ok _ _ hC2 p j
      unfold slOK at s6 ⊢
      cases hk : kf o.2.2.2 p j with
      | some a =>
        rw [hk] at s6
        obtain ⟨b, b1, b2⟩ := m2 a hk
        rw [b2]
        exact (tsub_ok hth b1 w).mp s6
      | none =>
        rw [hk] at s6
        rw [m1 hk, kf_filter (fun p j => !(mdP H md p j)) C]
        cases hm : mdP H md p j with
        | true => exact s6
        | false =>
          show (match kf C p j with
            | some a => vOK H (σ ++ τ1.drop θ.length) a w
            | none => ∃ s, sdAt K j = some s ∧ sOK H s w)
          cases hkc : kf C p j with
          | none => exact s6
          | some a =>
            have hm' : mdin md κ j = false := by
              unfold mdP at hm
              rw [rget_eq, k1] at hm
              exact hm
            have hsl := h8.2 p κ j k1 hm'
            unfold sl at hsl
            rw [hq] at hsl
            dsimp only at hsl
            rw [hw] at hsl
            cases hqa : aw[p]? with
            | none => rw [hqa] at hsl; cases hsl
            | some q' =>
              rw [hqa] at hsl
              obtain ⟨κ', K', t1, t2, t3, t4, t5⟩ := h2.2 p q' hqa
              have := t5 j w hsl.symm
              unfold slOK at this
              rw [hkc] at this
              exact vOK_xt hx this
    split at h
    · next hn =>
      cases h
      rw [hn] at h7
      exact ⟨_, hx, hE, hC, h7⟩
    · next a ha =>
      split at h
      · next b hb =>
        cases h
        rw [ha] at h7
        obtain ⟨w, w1, w2⟩ := h7
        exact ⟨_, hx, hE, hC, w, w1, (tsub_ok hth hb w).mp w2⟩
      · cases h
  · cases h
