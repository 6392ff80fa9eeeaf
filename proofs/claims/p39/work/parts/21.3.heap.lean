/-! the cells: each of a kind; some slots are known -/
noncomputable def lall {α : Type} (p : α → Bool) (l : List α) : Bool := List.rec (motive := fun _ => Bool) true (fun x _ ih => bif p x then ih else false) l
theorem lall_iff {α : Type} {p : α → Bool} {l : List α} : lall p l = true ↔ ∀ x ∈ l, p x = true := by
  induction l with
  | nil => exact ⟨fun _ x h => absurd h List.not_mem_nil, fun _ => rfl⟩
  | cons x t ih =>
    have e : lall p (x :: t) = bif p x then lall p t else false := rfl
    rw [e]
    constructor
    · intro h
      cases hb : p x with
      | false => rw [hb] at h; cases h
      | true =>
        rw [hb, cond_true] at h
        intro y hy
        rcases List.mem_cons.mp hy with g | g
        · rw [g]; exact hb
        · exact ih.mp h y g
    · intro h
      rw [h x List.mem_cons_self, cond_true]
      exact ih.mpr (fun y hy => h y (List.mem_cons_of_mem _ hy))
noncomputable def lany {α : Type} (p : α → Bool) (l : List α) : Bool := List.rec (motive := fun _ => Bool) false (fun x _ ih => bif p x then true else ih) l
theorem lany_iff {α : Type} {p : α → Bool} {l : List α} : lany p l = true ↔ ∃ x ∈ l, p x = true := by
  induction l with
  | nil => exact ⟨fun h => (by cases h), fun ⟨x, h, _⟩ => absurd h List.not_mem_nil⟩
  | cons x t ih =>
    have e : lany p (x :: t) = bif p x then true else lany p t := rfl
    rw [e]
    cases hb : p x with
    | true => exact ⟨fun _ => ⟨x, List.mem_cons_self, hb⟩, fun _ => rfl⟩
    | false =>
      rw [cond_false, ih]
      constructor
      · rintro ⟨y, h1, h2⟩
        exact ⟨y, List.mem_cons_of_mem _ h1, h2⟩
      · rintro ⟨y, h1, h2⟩
        rcases List.mem_cons.mp h1 with g | g
        · rw [g, hb] at h2; cases h2
        · exact ⟨y, g, h2⟩
theorem kf_cons {α : Type} (q : (Nat × Nat) × α) (t : List ((Nat × Nat) × α)) (a i : Nat) : kf (q :: t) a i = bif (Nat.beq q.1.1 a && Nat.beq q.1.2 i) then some q.2 else kf t a i := rfl
theorem bb2 {a b c d : Nat} : (Nat.beq a b && Nat.beq c d) = true ↔ a = b ∧ c = d := by
  rw [Bool.and_eq_true]
  constructor
  · intro h; exact ⟨Nat.eq_of_beq_eq_true h.1, Nat.eq_of_beq_eq_true h.2⟩
  · rintro ⟨rfl, rfl⟩; exact ⟨Nat.beq_refl a, Nat.beq_refl c⟩
theorem bb2f {a b c d : Nat} (h : ¬ (a = b ∧ c = d)) : (Nat.beq a b && Nat.beq c d) = false := by
  cases hb : (Nat.beq a b && Nat.beq c d) with
  | false => rfl
  | true => exact absurd (bb2.mp hb) h
noncomputable def cfil {α β : Type} (f : Nat → Nat → Bool) (C : List ((Nat × Nat) × α)) (k : List ((Nat × Nat) × α) → β) : β := List.rec (motive := fun _ => (List ((Nat × Nat) × α) → β) → β) (fun k => k []) (fun e _ ih k => bif f e.1.1 e.1.2 then ih (fun t => k (e :: t)) else ih k) C k
theorem cfil_eq {α β : Type} (f : Nat → Nat → Bool) (C : List ((Nat × Nat) × α)) : ∀ (k : List ((Nat × Nat) × α) → β), cfil f C k = k (C.filter (fun e => f e.1.1 e.1.2)) := by
  induction C with
  | nil => intro k; rfl
  | cons e t ih =>
    intro k
    have h : cfil f (e :: t) k = bif f e.1.1 e.1.2 then cfil f t (fun t => k (e :: t)) else cfil f t k := rfl
    rw [h, List.filter_cons]
    cases hb : f e.1.1 e.1.2 with
    | true => rw [cond_true, ih, if_pos rfl]
    | false => rw [cond_false, ih, if_neg (by simp)]
theorem kf_filter {α : Type} (f : Nat → Nat → Bool) (C : List ((Nat × Nat) × α)) (p j : Nat) : kf (C.filter (fun e => f e.1.1 e.1.2)) p j = bif f p j then kf C p j else none := by
  induction C with
  | nil => cases f p j <;> rfl
  | cons e t ih =>
    rw [List.filter_cons]
    by_cases hk : e.1.1 = p ∧ e.1.2 = j
    · have hb := bb2.mpr hk
      cases hf : f e.1.1 e.1.2 with
      | true =>
        rw [if_pos rfl, kf_cons, kf_cons, hb, ← hk.1, ← hk.2, hf]
        rfl
      | false =>
        rw [if_neg (by simp), ih, ← hk.1, ← hk.2, hf]
        rfl
    · have hb := bb2f hk
      cases hf : f e.1.1 e.1.2 with
      | true => rw [if_pos rfl, kf_cons, kf_cons, hb, cond_false, cond_false, ih]
      | false => rw [if_neg (by simp), ih, kf_cons, hb, cond_false]
noncomputable def sdAt (K : qKd) (j : Nat) : Option qD := bif Nat.blt K.1 13 then rget K.2.2.2 j else bif Nat.blt j K.2.1 then rget K.2.2.2 0 else none
def sOK (H : qT) (s : qD) (v : rV) : Prop := match s with
  | .inl r => ∃ z, v = .inl (eI z) ∧ inR z ∧ r.1 ≤ z ∧ z ≤ r.2
  | .inr none => ∃ n : Nat, v = .inr (.inl n) ∧ n < 18446744073709551616
  | .inr (some κ) => ∃ p, v = .inr (.inr (some (p + 1))) ∧ H.2[p]? = some κ
def slOK (H : qT) (σ : List Int) (C : qC) (K : qKd) (p j : Nat) (v : rV) : Prop := match kf C p j with
  | some a => vOK H σ a v
  | none => ∃ s, sdAt K j = some s ∧ sOK H s v
def hOK (H : qT) (σ : List Int) (C : qC) (aw : List rC) : Prop := aw.length = H.2.length ∧ ∀ (p : Nat) (q : rC), aw[p]? = some q → ∃ (κ : Nat) (K : qKd), H.2[p]? = some κ ∧ H.1[κ]? = some K ∧ q.1 = K.1 ∧ q.2.length = K.2.1 ∧ ∀ (j : Nat) (v : rV), q.2[j]? = some v → slOK H σ C K p j v
def HW (H : qT) : Prop := ∀ (κ : Nat) (K : qKd) (p0 : Nat), H.1[κ]? = some K → K.2.2.1 = some p0 → ∀ p, H.2[p]? = some κ → p = p0
theorem slOK_xt {H : qT} {σ σ' : List Int} (h : xt σ σ') {C : qC} {K : qKd} {p j : Nat} {v : rV} (g : slOK H σ C K p j v) : slOK H σ' C K p j v := by
  unfold slOK at *
  cases hk : kf C p j with
  | some a => rw [hk] at g; exact vOK_xt h g
  | none => rw [hk] at g; exact g
theorem hOK_xt {H : qT} {σ σ' : List Int} (h : xt σ σ') {C : qC} {aw : List rC} (g : hOK H σ C aw) : hOK H σ' C aw := by
  refine ⟨g.1, fun p q hq => ?_⟩
  obtain ⟨κ, K, h1, h2, h3, h4, h5⟩ := g.2 p q hq
  exact ⟨κ, K, h1, h2, h3, h4, fun j v hv => slOK_xt h (h5 j v hv)⟩
theorem hOK_at {H : qT} {σ : List Int} {C : qC} {aw : List rC} (g : hOK H σ C aw) {p κ : Nat} {K : qKd} (hp : H.2[p]? = some κ) (hK : H.1[κ]? = some K) : ∃ q, aw[p]? = some q ∧ q.1 = K.1 ∧ q.2.length = K.2.1 ∧ ∀ (j : Nat) (v : rV), q.2[j]? = some v → slOK H σ C K p j v := by
  have hl : p < aw.length := by rw [g.1]; exact (List.getElem?_eq_some_iff.mp hp).1
  obtain ⟨κ', K', h1, h2, h3⟩ := g.2 p _ (List.getElem?_eq_getElem hl)
  rw [hp] at h1
  cases h1
  rw [hK] at h2
  cases h2
  exact ⟨_, List.getElem?_eq_getElem hl, h3⟩
/-- is v within what lies in a slot -/
noncomputable def sclean (E : qE) (s : qD) (a : qV) : Bool := match s with
  | .inl r => (match a with
    | .inl x => civ E x false (fun lo hi => zle r.1 lo && zle hi r.2)
    | _ => false)
  | .inr none => (match a with
    | .inr (.inl _) => true
    | _ => false)
  | .inr (some κ) => (match a with
    | .inr (.inr (some κ')) => Nat.beq κ κ'
    | _ => false)
theorem sclean_ok {H : qT} {σ : List Int} {E : qE} (h : eOK2 σ E) {s : qD} {a : qV} {v : rV} (hs : sclean E s a = true) (hv : vOK H σ a v) : sOK H s v := by
  unfold sclean at hs
  split at hs
  · next r =>
    split at hs
    · next x =>
      obtain ⟨z, h1, h2, h3⟩ := hv
      obtain ⟨lo, hi, g1, g2, g3⟩ := civ_ok h h1 false
      rw [g3, Bool.and_eq_true, zle_iff, zle_iff] at hs
      exact ⟨z, h3, h2, by omega, by omega⟩
    · cases hs
  · split at hs
    · obtain ⟨z, h1, h2, h3, h4⟩ := hv
      exact ⟨z.toNat, h4, by omega⟩
    · cases hs
  · next κ =>
    split at hs
    · next κ' =>
      have e := Nat.eq_of_beq_eq_true hs
      subst e
      exact hv
    · cases hs
noncomputable def eclean (H : qT) (E : qE) (e : (Nat × Nat) × qV) : Bool := match rget H.2 e.1.1 with
  | some κ => (match rget H.1 κ with
    | some K => (match sdAt K e.1.2 with
      | some s => sclean E s e.2
      | none => false)
    | none => false)
  | none => false
theorem hOK_drop {H : qT} {σ : List Int} {E : qE} (h : eOK2 σ E) {C C' : qC} {aw : List rC} (g : hOK H σ C aw) (hc : ∀ p j, kf C' p j = kf C p j ∨ (kf C' p j = none ∧ ∀ a, kf C p j = some a → eclean H E ((p, j), a) = true)) : hOK H σ C' aw := by
  refine ⟨g.1, fun p q hq => ?_⟩
  obtain ⟨κ, K, h1, h2, h3, h4, h5⟩ := g.2 p q hq
  refine ⟨κ, K, h1, h2, h3, h4, fun j v hv => ?_⟩
  have h6 := h5 j v hv
  unfold slOK at *
  rcases hc p j with e | ⟨e, f⟩
  · rw [e]; exact h6
  · rw [e]
    cases hk : kf C p j with
    | none => rw [hk] at h6; exact h6
    | some a =>
      rw [hk] at h6
      have hcl := f a hk
      unfold eclean at hcl
      dsimp only at hcl
      rw [rget_eq, h1] at hcl
      dsimp only at hcl
      rw [rget_eq, h2] at hcl
      dsimp only at hcl
      split at hcl
      · next s hs => exact ⟨s, hs, sclean_ok h hcl h6⟩
      · cases hcl
/-- the slots for which f holds not are forgotten -/
noncomputable def cdrop (H : qT) (E : qE) (f : Nat → Nat → Bool) (C : qC) : Option qC := bif lall (fun e => bif f e.1.1 e.1.2 then true else eclean H E e) C then cfil f C (fun C => some C) else none
theorem cdrop_ok {H : qT} {σ : List Int} {E : qE} (h : eOK2 σ E) {f : Nat → Nat → Bool} {C C' : qC} {aw : List rC} (g : hOK H σ C aw) (hc : cdrop H E f C = some C') : hOK H σ C' aw ∧ ∀ p j, kf C' p j = bif f p j then kf C p j else none := by
  unfold cdrop at hc
  cases hb : lall (fun e => bif f e.1.1 e.1.2 then true else eclean H E e) C with
  | false => rw [hb] at hc; cases hc
  | true =>
    rw [hb, cond_true, cfil_eq] at hc
    cases hc
    refine ⟨hOK_drop h g (fun p j => ?_), kf_filter f C⟩
    rw [kf_filter]
    cases hf : f p j with
    | true => exact Or.inl rfl
    | false =>
      refine Or.inr ⟨rfl, fun a ha => ?_⟩
      have := lall_iff.mp hb _ (kf_mem ha)
      dsimp only at this
      rw [hf] at this
      exact this
theorem slOK_keep {H : qT} {σ : List Int} {C C' : qC} {K : qKd} {p j : Nat} {v : rV} (h : kf C' p j = kf C p j) (g : slOK H σ C K p j v) : slOK H σ C' K p j v := by
  unfold slOK at *
  rw [h]
  exact g
theorem hOK_cache {H : qT} {σ : List Int} {C : qC} {aw : List rC} (g : hOK H σ C aw) {p0 j0 : Nat} {a : qV} (hv : ∀ q v, aw[p0]? = some q → q.2[j0]? = some v → vOK H σ a v) : hOK H σ (((p0, j0), a) :: C) aw := by
  refine ⟨g.1, fun p q hq => ?_⟩
  obtain ⟨κ, K, h1, h2, h3, h4, h5⟩ := g.2 p q hq
  refine ⟨κ, K, h1, h2, h3, h4, fun j v hv' => ?_⟩
  by_cases e : p0 = p ∧ j0 = j
  · obtain ⟨rfl, rfl⟩ := e
    unfold slOK
    rw [kf_cons, bb2.mpr ⟨rfl, rfl⟩, cond_true]
    exact hv q v hq hv'
  · refine slOK_keep ?_ (h5 j v hv')
    rw [kf_cons, bb2f e, cond_false]
noncomputable def noC (H : qT) (C : qC) (κ : Nat) : Bool := lall (fun e => match rget H.2 e.1.1 with
  | some k => !(Nat.beq k κ)
  | none => true) C
theorem noC_ok {H : qT} {C : qC} {κ p j : Nat} (h : noC H C κ = true) (hp : H.2[p]? = some κ) : kf C p j = none := by
  cases hk : kf C p j with
  | none => rfl
  | some a =>
    have := lall_iff.mp h _ (kf_mem hk)
    dsimp only at this
    rw [rget_eq, hp] at this
    dsimp only at this
    rw [Nat.beq_refl] at this
    cases this
/-- a slot's value out of what lies in it -/
noncomputable def qfresh (E : qE) (s : qD) : qE × qV := match s with
  | .inl r => qval E r.1 r.2 (fun E x => (E, .inl x))
  | .inr none => qsym E 0 18446744073709551615 (fun E n => (E, .inr (.inl (n, 0))))
  | .inr (some κ) => (E, .inr (.inr (some κ)))
theorem qfresh_ok {H : qT} {σ : List Int} {E : qE} (h : eOK2 σ E) {s : qD} {v : rV} (hs : sOK H s v) : ∃ σ', xt σ σ' ∧ eOK2 σ' (qfresh E s).1 ∧ vOK H σ' (qfresh E s).2 v := by
  match s, hs with
  | .inl r, ⟨z, h1, h2, h3, h4⟩ =>
    obtain ⟨E', x, σ', g1, g2, g3, g4⟩ := qval_ok (β := qE × qV) h h3 h4
    refine ⟨σ', g1, ?_, ?_⟩
    · show eOK2 σ' (qval E r.1 r.2 (fun E x => ((E, .inl x) : qE × qV))).1
      rw [g4]; exact g2
    · show vOK H σ' (qval E r.1 r.2 (fun E x => ((E, .inl x) : qE × qV))).2 v
      rw [g4]; exact ⟨z, g3, h2, h1⟩
  | .inr none, ⟨n, h1, h2⟩ =>
    obtain ⟨g1, g2, g3⟩ := eOK2_new h (lo := 0) (hi := 18446744073709551615) (z := (n : Int)) (by omega) (by omega)
    refine ⟨_, g2, ?_, ?_⟩
    · show eOK2 _ (qsym E 0 18446744073709551615 (fun E n => ((E, .inr (.inl (n, 0))) : qE × qV))).1
      rw [qsym_eq]; exact g1
    · show vOK H _ (qsym E 0 18446744073709551615 (fun E n => ((E, .inr (.inl (n, 0))) : qE × qV))).2 v
      rw [qsym_eq]
      exact ⟨(n : Int), ⟨(n : Int), g3, by show (n : Int) = (n : Int) + 0; omega⟩, by omega, by omega, by rw [h1]; simp⟩
  | .inr (some κ), hs => exact ⟨σ, xt_refl σ, h, hs⟩
noncomputable def isRef (s : qD) : Bool := match s with
  | .inr (some _) => true
  | _ => false
noncomputable def qread (H : qT) (E : qE) (C : qC) (κ : Nat) (K : qKd) (j : Nat) : Option (qE × qC × qV) := bif Nat.blt j K.2.1 then (match K.2.2.1 with
  | some p0 => (match kf C p0 j with
    | some a => some (E, C, a)
    | none => (match sdAt K j with
      | some s => (match qfresh E s with
        | (E', a) => some (E', (bif isRef s then C else ((p0, j), a) :: C), a))
      | none => none))
  | none => bif noC H C κ then (match sdAt K j with
    | some s => (match qfresh E s with
      | (E', a) => some (E', C, a))
    | none => none) else none) else none
theorem qread_ok {H : qT} {σ : List Int} {E E' : qE} {C C' : qC} {aw : List rC} {κ p j : Nat} {K : qKd} {a : qV} (hw : HW H) (h : eOK2 σ E) (g : hOK H σ C aw) (hK : H.1[κ]? = some K) (hp : H.2[p]? = some κ) (hr : qread H E C κ K j = some (E', C', a)) : ∃ (q : rC) (v : rV) (σ' : List Int), aw[p]? = some q ∧ q.1 = K.1 ∧ q.2.length = K.2.1 ∧ q.2[j]? = some v ∧ xt σ σ' ∧ eOK2 σ' E' ∧ hOK H σ' C' aw ∧ vOK H σ' a v := by
  obtain ⟨q, q1, q2, q3, q4⟩ := hOK_at g hp hK
  unfold qread at hr
  cases hj : Nat.blt j K.2.1 with
  | false => rw [hj] at hr; cases hr
  | true =>
    rw [hj, cond_true] at hr
    have hlt : j < q.2.length := by rw [q3]; exact Nat.le_of_ble_eq_true hj
    have hv := List.getElem?_eq_getElem hlt
    have hs := q4 j _ hv
    refine ⟨q, q.2[j], ?_⟩
    split at hr
    · next p0 hp0 =>
      have e := hw κ K p0 hK hp0 p hp
      subst e
      unfold slOK at hs
      split at hr
      · next b hb =>
        rw [hb] at hs
        cases hr
        exact ⟨σ, q1, q2, q3, hv, xt_refl σ, h, g, hs⟩
      · next hb =>
        rw [hb] at hs
        obtain ⟨s, s1, s2⟩ := hs
        rw [s1] at hr
        dsimp only at hr
        obtain ⟨σ', f1, f2, f3⟩ := qfresh_ok h s2
        cases hr
        refine ⟨σ', q1, q2, q3, hv, f1, f2, ?_, f3⟩
        cases isRef s with
        | true => exact hOK_xt f1 g
        | false =>
          refine hOK_cache (hOK_xt f1 g) (fun q' v' h1 h2 => ?_)
          rw [q1] at h1
          cases h1
          rw [hv] at h2
          cases h2
          exact f3
    · cases hn : noC H C κ with
      | false => rw [hn] at hr; cases hr
      | true =>
        rw [hn, cond_true] at hr
        unfold slOK at hs
        rw [noC_ok hn hp] at hs
        obtain ⟨s, s1, s2⟩ := hs
        rw [s1] at hr
        dsimp only at hr
        obtain ⟨σ', f1, f2, f3⟩ := qfresh_ok h s2
        cases hr
        exact ⟨σ', q1, q2, q3, hv, f1, f2, hOK_xt f1 g, f3⟩
/-! what a method may change -/
noncomputable def mdin (md : List (Nat × Nat)) (κ j : Nat) : Bool := lany (fun e => Nat.beq e.1 κ && (Nat.beq e.2 j || Nat.beq e.2 9999)) md
def sl (aw : List rC) (p j : Nat) : Option rV := match aw[p]? with
  | some q => q.2[j]?
  | none => none
def ag (H : qT) (md : List (Nat × Nat)) (aw aw' : List rC) : Prop := aw'.length = aw.length ∧ ∀ (p κ j : Nat), H.2[p]? = some κ → mdin md κ j = false → sl aw' p j = sl aw p j
theorem ag_refl (H : qT) (md : List (Nat × Nat)) (aw : List rC) : ag H md aw aw := ⟨rfl, fun _ _ _ _ _ => rfl⟩
theorem ag_trans {H : qT} {md : List (Nat × Nat)} {a b c : List rC} (h : ag H md a b) (g : ag H md b c) : ag H md a c := ⟨g.1.trans h.1, fun p κ j h1 h2 => (g.2 p κ j h1 h2).trans (h.2 p κ j h1 h2)⟩
theorem ag_set {H : qT} {md : List (Nat × Nat)} {aw : List rC} {p κ : Nat} {q q' : rC} (hq : aw[p]? = some q) (hp : H.2[p]? = some κ) (hs : ∀ j, mdin md κ j = false → q'.2[j]? = q.2[j]?) : ag H md aw (aw.set p q') := by
  refine ⟨by simp, fun p' κ' j h1 h2 => ?_⟩
  unfold sl
  rw [List.getElem?_set]
  by_cases e : p = p'
  · subst e
    rw [hp] at h1
    cases h1
    have hl := (List.getElem?_eq_some_iff.mp hq).1
    rw [if_pos rfl, if_pos hl, hq]
    exact hs j h2
  · rw [if_neg e]
theorem hOK_set {H : qT} {σ : List Int} {C C' : qC} {aw : List rC} (g : hOK H σ C aw) {p κ : Nat} {K : qKd} {q : rC} {l : List rV} (hq : aw[p]? = some q) (hp : H.2[p]? = some κ) (hK : H.1[κ]? = some K) (hl : l.length = q.2.length) (hn : ∀ (j : Nat) (v : rV), l[j]? = some v → slOK H σ C' K p j v) (ho : ∀ p' j, p' ≠ p → kf C' p' j = kf C p' j) : hOK H σ C' (aw.set p (q.1, l)) := by
  refine ⟨by simp [g.1], fun p' q' hq' => ?_⟩
  rw [List.getElem?_set] at hq'
  obtain ⟨q0, a1, a2, a3, a4⟩ := hOK_at g hp hK
  rw [hq] at a1
  cases a1
  by_cases e : p = p'
  · subst e
    rw [if_pos rfl] at hq'
    split at hq'
    · cases hq'
      exact ⟨κ, K, hp, hK, a2, by show l.length = _; rw [hl]; exact a3, hn⟩
    · cases hq'
  · rw [if_neg e] at hq'
    obtain ⟨κ', K', h1, h2, h3, h4, h5⟩ := g.2 p' q' hq'
    exact ⟨κ', K', h1, h2, h3, h4, fun j v hv => slOK_keep (ho p' j (fun x => e x.symm)) (h5 j v hv)⟩
/-- does the sort of v fit the slot -/
noncomputable def sfit (s : qD) (a : qV) : Bool := match s with
  | .inl _ => (match a with
    | .inl _ => true
    | _ => false)
  | .inr none => (match a with
    | .inr (.inl _) => true
    | _ => false)
  | _ => false
noncomputable def qwrite (H : qT) (md : List (Nat × Nat)) (E : qE) (C : qC) (κ : Nat) (K : qKd) (j : Nat) (a : qV) : Option qC := bif (Nat.blt j K.2.1 && mdin md κ j) then (match sdAt K j with
  | some s => (match K.2.2.1 with
    | some p0 => bif sfit s a then cfil (fun p i => !(Nat.beq p p0 && Nat.beq i j)) C (fun C => some (((p0, j), a) :: C)) else none
    | none => bif (noC H C κ && sclean E s a) then some C else none)
  | none => none) else none
theorem qwrite_ok {H : qT} {md : List (Nat × Nat)} {σ : List Int} {E : qE} {C C' : qC} {aw : List rC} {κ p j : Nat} {K : qKd} {a : qV} {v : rV} (hw : HW H) (h : eOK2 σ E) (g : hOK H σ C aw) (hK : H.1[κ]? = some K) (hp : H.2[p]? = some κ) (hv : vOK H σ a v) (hr : qwrite H md E C κ K j a = some C') : ∃ q : rC, aw[p]? = some q ∧ q.1 = K.1 ∧ j < q.2.length ∧ hOK H σ C' (aw.set p (q.1, q.2.set j v)) ∧ ag H md aw (aw.set p (q.1, q.2.set j v)) := by
  obtain ⟨q, q1, q2, q3, q4⟩ := hOK_at g hp hK
  unfold qwrite at hr
  cases hj : (Nat.blt j K.2.1 && mdin md κ j) with
  | false => rw [hj] at hr; cases hr
  | true =>
    rw [hj, cond_true] at hr
    rw [Bool.and_eq_true] at hj
    have hlt : j < q.2.length := by rw [q3]; exact Nat.le_of_ble_eq_true hj.1
    refine ⟨q, q1, q2, hlt, ?_, ag_set q1 hp (fun i hi => ?_)⟩
    · split at hr
      · next s hs =>
        split at hr
        · next p0 hp0 =>
          have e := hw κ K p0 hK hp0 p hp
          subst e
          cases hf : sfit s a with
          | false => rw [hf] at hr; cases hr
          | true =>
            rw [hf, cond_true, cfil_eq] at hr
            cases hr
            refine hOK_set g q1 hp hK (by simp) (fun i w hw' => ?_) (fun p' i hne => ?_)
            · unfold slOK
              by_cases ei : j = i
              · subst ei
                rw [kf_cons, bb2.mpr ⟨rfl, rfl⟩, cond_true]
                rw [List.getElem?_set, if_pos rfl, if_pos hlt] at hw'
                cases hw'
                exact hv
              · rw [kf_cons, bb2f (fun x => ei x.2), cond_false]
                rw [List.getElem?_set, if_neg ei] at hw'
                have := q4 i w hw'
                unfold slOK at this
                rw [kf_filter (fun a b => !(Nat.beq a p && Nat.beq b j)) C, bb2f (fun x => ei x.2.symm)]
                exact this
            · rw [kf_cons, bb2f (fun x => hne x.1.symm), cond_false, kf_filter (fun a b => !(Nat.beq a p && Nat.beq b j)) C, bb2f (fun x => hne x.1)]
              rfl
        · cases hf : (noC H C κ && sclean E s a) with
          | false => rw [hf] at hr; cases hr
          | true =>
            rw [hf, cond_true] at hr
            cases hr
            rw [Bool.and_eq_true] at hf
            refine hOK_set g q1 hp hK (by simp) (fun i w hw' => ?_) (fun _ _ _ => rfl)
            by_cases ei : j = i
            · subst ei
              rw [List.getElem?_set, if_pos rfl, if_pos hlt] at hw'
              cases hw'
              unfold slOK
              rw [noC_ok hf.1 hp]
              exact ⟨s, hs, sclean_ok h hf.2 hv⟩
            · rw [List.getElem?_set, if_neg ei] at hw'
              exact q4 i w hw'
      · cases hr
    · show (q.2.set j v)[i]? = q.2[i]?
      rw [List.getElem?_set]
      by_cases ei : j = i
      · subst ei
        rw [hj.2] at hi
        cases hi
      · rw [if_neg ei]
