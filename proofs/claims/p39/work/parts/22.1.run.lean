/-! the plain machine comes to an end -/
def Ev (L : List Nat) (d : Nat) (M : rM) (x : rX) (P : Option rV → rD → Prop) : Prop := ∃ (N : Nat) (v : Option rV) (D : rD), P v D ∧ ∀ n, N ≤ n → run tT mT L n d M [] x = some [([], v, D)]
theorem run_s (L : List Nat) (n d : Nat) (M : rM) (pc : Nat) (lw : rK) (sw : List rV) (D : rD) (c z : Nat) : run tT mT L (n + 1) d M [] (pc, lw, sw, D, c, z) = runB tT mT L (run tT mT L n) d M [] pc lw sw D c z := by
  show fN pc (fun pc => runB tT mT L (run tT mT L n) d M [] pc lw sw D c z) = _
  rw [fN_eq]
theorem Ev_mono {L : List Nat} {d : Nat} {M : rM} {x : rX} {P Q : Option rV → rD → Prop} (h : Ev L d M x P) (g : ∀ v D, P v D → Q v D) : Ev L d M x Q := by
  obtain ⟨N, v, D, h1, h2⟩ := h
  exact ⟨N, v, D, g v D h1, h2⟩
theorem Ev_step {L : List Nat} {d : Nat} {M : rM} {pc : Nat} {lw : rK} {sw : List rV} {D : rD} {c z : Nat} {x' : rX} {P : Option rV → rD → Prop} (hs : step tT L M [] pc lw sw D c z = some (.inl x')) (h : Ev L d M x' P) : Ev L d M (pc, lw, sw, D, c, z) P := by
  obtain ⟨N, v, D', h1, h2⟩ := h
  refine ⟨N + 1, v, D', h1, fun n hn => ?_⟩
  match n, hn with
  | n + 1, hn =>
    rw [run_s]
    unfold runB
    rw [hs]
    exact h2 n (by omega)
theorem Ev_ret {L : List Nat} {d : Nat} {M : rM} {pc : Nat} {lw : rK} {sw : List rV} {D : rD} {c z : Nat} {v : Option rV} {P : Option rV → rD → Prop} (hs : step tT L M [] pc lw sw D c z = some (.inr (.inr (.inr (.inl v))))) (h : P v D) : Ev L d M (pc, lw, sw, D, c, z) P := by
  refine ⟨1, v, D, h, fun n hn => ?_⟩
  match n, hn with
  | n + 1, hn =>
    rw [run_s]
    unfold runB
    rw [hs]
theorem Ev_call {L : List Nat} {d : Nat} {M M' : rM} {pc mi : Nat} {lw : rK} {sw As r : List rV} {D : rD} {c z : Nat} {P Q : Option rV → rD → Prop} (hs : step tT L M [] pc lw sw D c z = some (.inr (.inr (.inr (.inr (mi, As, r)))))) (hm : mT mi = some M') (h1 : asum As ≤ mLoc M') (h2 : mLoc M' ≤ 80) (h3 : c + mC M' ≤ mC M) (h4 : z + mS M' ≤ mS M) (h : Ev L d M' (0, argsL As 0, [], D, 0, 0) Q) (k : ∀ v D', Q v D' → Ev L (d + 1) M (Nat.add pc 3, lw, v.toList ++ r, D', Nat.add c (mC M'), Nat.add z (mS M')) P) : Ev L (d + 1) M (pc, lw, sw, D, c, z) P := by
  obtain ⟨N1, v1, D1, a1, a2⟩ := h
  obtain ⟨N2, v2, D2, b1, b2⟩ := k v1 D1 a1
  refine ⟨N1 + N2 + 1, v2, D2, b1, fun n hn => ?_⟩
  match n, hn with
  | n + 1, hn =>
    rw [run_s]
    unfold runB
    rw [hs]
    dsimp only
    rw [hm]
    dsimp only
    show (bif (Nat.ble (asum As) (mLoc M') && (Nat.ble (mLoc M') 80 && (Nat.ble (Nat.add c (mC M')) (mC M) && Nat.ble (Nat.add z (mS M')) (mS M)))) then (match run tT mT L n d M' [] (0, argsL As 0, [], D, 0, 0) with
      | none => none
      | some ls => runL (run tT mT L n) (d + 1) M (Nat.add pc 3) lw r (Nat.add c (mC M')) (Nat.add z (mS M')) ls) else none) = _
    rw [Nat.ble_eq_true_of_le h1, Nat.ble_eq_true_of_le h2, Nat.ble_eq_true_of_le (show Nat.add c (mC M') ≤ mC M from h3), Nat.ble_eq_true_of_le (show Nat.add z (mS M') ≤ mS M from h4), Bool.and_self, Bool.and_self, Bool.and_self, cond_true, a2 n (by omega)]
    show cat2 (run tT mT L n (d + 1) M [] (Nat.add pc 3, lw, v1.toList ++ r, D1, Nat.add c (mC M'), Nat.add z (mS M'))) (some []) = _
    rw [b2 n (by omega)]
    rfl
/-! frames -/
abbrev cF : Type := rM × Nat × rK × List rV × Nat × Nat
abbrev qF : Type := Nat × rM × Nat × qK × List qV
def EvF (L : List Nat) : List cF → Nat → rM → rX → (Option rV → rD → Prop) → Prop
  | [], d, M, x, P => Ev L d M x P
  | f :: fs, d, M, x, P => Ev L d M x (fun v D => EvF L fs (d + 1) f.1 (f.2.1, f.2.2.1, v.toList ++ f.2.2.2.1, D, f.2.2.2.2.1, f.2.2.2.2.2) P)
theorem EvF_step {L : List Nat} {fs : List cF} {d : Nat} {M : rM} {pc : Nat} {lw : rK} {sw : List rV} {D : rD} {c z : Nat} {x' : rX} {P : Option rV → rD → Prop} (hs : step tT L M [] pc lw sw D c z = some (.inl x')) (h : EvF L fs d M x' P) : EvF L fs d M (pc, lw, sw, D, c, z) P := by
  match fs, h with
  | [], h => exact Ev_step hs h
  | _ :: _, h => exact Ev_step hs h
theorem EvF_call {L : List Nat} {fs : List cF} {d : Nat} {M M' : rM} {pc mi : Nat} {lw : rK} {sw As r : List rV} {D : rD} {c z : Nat} {P Q : Option rV → rD → Prop} (hs : step tT L M [] pc lw sw D c z = some (.inr (.inr (.inr (.inr (mi, As, r)))))) (hm : mT mi = some M') (h1 : asum As ≤ mLoc M') (h2 : mLoc M' ≤ 80) (h3 : c + mC M' ≤ mC M) (h4 : z + mS M' ≤ mS M) (h : Ev L d M' (0, argsL As 0, [], D, 0, 0) Q) (k : ∀ v D', Q v D' → EvF L fs (d + 1) M (Nat.add pc 3, lw, v.toList ++ r, D', Nat.add c (mC M'), Nat.add z (mS M')) P) : EvF L fs (d + 1) M (pc, lw, sw, D, c, z) P := by
  match fs, k with
  | [], k => exact Ev_call hs hm h1 h2 h3 h4 h k
  | _ :: _, k => exact Ev_call hs hm h1 h2 h3 h4 h k
def frB (H : qT) (σ : List Int) (Mb : rM) (cb zb db : Nat) : List qF → List cF → rM → Nat → Nat → Nat → Prop
  | [], [], M, c, z, d => M = Mb ∧ c = cb ∧ z = zb ∧ d = db
  | f :: fs, g :: gs, _, _, _, d => f.2.1 = g.1 ∧ f.2.2.1 = g.2.1 ∧ lvOK H σ f.2.2.2.1 g.2.2.1 ∧ stOK2 H σ f.2.2.2.2 g.2.2.2.1 ∧ (g.2.2.2.2.1 ≤ mC g.1 ∧ g.2.2.2.2.2 ≤ mS g.1) ∧ frB H σ Mb cb zb db fs gs g.1 g.2.2.2.2.1 g.2.2.2.2.2 (d + 1)
  | _, _, _, _, _, _ => False
theorem frB_xt {H : qT} {σ σ' : List Int} (hx : xt σ σ') {Mb : rM} {cb zb db : Nat} : ∀ {fs : List qF} {gs : List cF} {M : rM} {c z d : Nat}, frB H σ Mb cb zb db fs gs M c z d → frB H σ' Mb cb zb db fs gs M c z d
  | [], [], _, _, _, _, h => h
  | _ :: _, _ :: _, _, _, _, _, ⟨h1, h2, h3, h4, h5, h6⟩ => ⟨h1, h2, lvOK_xt hx h3, stOK2_xt hx h4, h5, frB_xt hx h6⟩
  | [], _ :: _, _, _, _, _, h => h.elim
  | _ :: _, [], _, _, _, _, h => h.elim
/-! contracts -/
noncomputable def kargs (As : List qV) : Nat → qK := List.rec (motive := fun _ => Nat → qK) (fun _ => []) (fun v _ ih i => (i, v) :: ih (Nat.add i (kct v))) As
theorem kargs_ok {H : qT} {σ : List Int} : ∀ {As : List qV} {Aw : List rV} (i : Nat), stOK2 H σ As Aw → lvOK H σ (kargs As i) (argsL Aw i)
  | [], [], _, _ => fun j a h => by cases h
  | v :: t, w :: u, i, h => by
    intro j a ha
    have e1 : kargs (v :: t) i = (i, v) :: kargs t (Nat.add i (kct v)) := rfl
    have e2 : argsL (w :: u) i = (i, w) :: argsL u (Nat.add i (ct w)) := rfl
    rw [e1, kget_cons] at ha
    rw [e2, lget_cons]
    dsimp only at ha ⊢
    cases hb : Nat.beq i j with
    | true =>
      rw [hb, cond_true] at ha
      cases ha
      exact ⟨w, rfl, h.1⟩
    | false =>
      rw [hb, cond_false] at ha
      rw [cond_false, ct_k h.1]
      exact kargs_ok (Nat.add i (kct v)) h.2 j a ha
  | [], _ :: _, _, h => h.elim
  | _ :: _, [], _, h => h.elim
noncomputable def kasum (As : List qV) : Nat := List.rec (motive := fun _ => Nat) 0 (fun v _ ih => Nat.add (kct v) ih) As
theorem kasum_ok {H : qT} {σ : List Int} : ∀ {As : List qV} {Aw : List rV}, stOK2 H σ As Aw → asum Aw = kasum As
  | [], [], _ => rfl
  | v :: t, w :: u, h => by
    have ih := kasum_ok h.2
    show (ct w :: u.map ct).sum = Nat.add (kct v) (kasum t)
    rw [List.sum_cons, ct_k h.1]
    show kct v + asum u = kct v + kasum t
    rw [ih]
  | [], _ :: _, h => h.elim
  | _ :: _, [], h => h.elim
def CtOK (H : qT) (Q : List rC → Prop) (L : List Nat) (ct : qCt) : Prop := ∀ (M : rM) (d : Nat) (τ : List Int) (Aw : List rV) (D : rD) (aw : List rC), mT ct.1 = some M → ct.2.1 ≤ d → rep D aw → eOK2 τ ct.2.2.2.2.1.2.2.1 → hOK H τ ct.2.2.2.2.1.2.2.2 aw → lvOK H τ ct.2.2.2.2.1.2.1 (argsL Aw 0) → (ct.2.2.1 = true → Q aw) → Ev L d M (0, argsL Aw 0, [], D, 0, 0) (fun v D' => ∃ aw', rep D' aw' ∧ ag H ct.2.2.2.1 aw aw' ∧ ∃ o ∈ ct.2.2.2.2.2, ∃ τ1, xt τ τ1 ∧ eOK2 τ1 o.2.2.1 ∧ hOK H τ1 o.2.2.2 aw' ∧ resOK H τ1 o.2.1 v)
noncomputable def mdsub (a b : List (Nat × Nat)) : Bool := lall (fun e => mdin b e.1 e.2) a
theorem mdsub_ok {a b : List (Nat × Nat)} (h : mdsub a b = true) {κ j : Nat} (hb : mdin b κ j = false) : mdin a κ j = false := by
  cases ha : mdin a κ j with
  | false => rfl
  | true =>
    obtain ⟨e, e1, e2⟩ := lany_iff.mp ha
    have h1 := lall_iff.mp h e e1
    rw [Bool.and_eq_true, Bool.or_eq_true] at e2
    have hk := Nat.eq_of_beq_eq_true e2.1
    rw [hk] at h1
    rcases e2.2 with g | g
    · rw [Nat.eq_of_beq_eq_true g, hb] at h1
      cases h1
    · rw [Nat.eq_of_beq_eq_true g] at h1
      rw [mdin_all h1] at hb
      cases hb
theorem ag_sub {H : qT} {a b : List (Nat × Nat)} (h : mdsub a b = true) {aw aw' : List rC} (g : ag H a aw aw') : ag H b aw aw' := ⟨g.1, fun p κ j h1 h2 => g.2 p κ j h1 (mdsub_ok h h2)⟩
noncomputable def q_find (H : qT) (md : List (Nat × Nat)) (uq : Bool) (mi dep : Nat) (lv : qK) (E : qE) (C : qC) (cts : List qCt) : Option (qCt × qE × qC × List qI) := List.rec (motive := fun _ => Option (qCt × qE × qC × List qI)) none (fun ct _ ih => bif (Nat.beq ct.1 mi && (Nat.ble ct.2.1 dep && ((!ct.2.2.1 || uq) && mdsub ct.2.2.2.1 md))) then (match q_inst H [(0, 0)] ct.2.2.2.2.1 lv E C with
  | some (E', C', θ) => some (ct, E', C', θ)
  | none => ih) else ih) cts
theorem q_find_ok {H : qT} {md : List (Nat × Nat)} {uq : Bool} {mi dep : Nat} {lv : qK} {E E' : qE} {C C' : qC} {θ : List qI} {ct : qCt} : ∀ {cts : List qCt}, q_find H md uq mi dep lv E C cts = some (ct, E', C', θ) → ct ∈ cts ∧ ct.1 = mi ∧ ct.2.1 ≤ dep ∧ (ct.2.2.1 = true → uq = true) ∧ mdsub ct.2.2.2.1 md = true ∧ q_inst H [(0, 0)] ct.2.2.2.2.1 lv E C = some (E', C', θ) := by
  intro cts
  induction cts with
  | nil => intro h; cases h
  | cons c t ih =>
    intro h
    have e : q_find H md uq mi dep lv E C (c :: t) = bif (Nat.beq c.1 mi && (Nat.ble c.2.1 dep && ((!c.2.2.1 || uq) && mdsub c.2.2.2.1 md))) then (match q_inst H [(0, 0)] c.2.2.2.2.1 lv E C with
      | some (E', C', θ) => some (c, E', C', θ)
      | none => q_find H md uq mi dep lv E C t) else q_find H md uq mi dep lv E C t := rfl
    rw [e] at h
    have go : q_find H md uq mi dep lv E C t = some (ct, E', C', θ) → ct ∈ c :: t ∧ ct.1 = mi ∧ ct.2.1 ≤ dep ∧ (ct.2.2.1 = true → uq = true) ∧ mdsub ct.2.2.2.1 md = true ∧ q_inst H [(0, 0)] ct.2.2.2.2.1 lv E C = some (E', C', θ) := fun g => by
      obtain ⟨a, b⟩ := ih g
      exact ⟨List.mem_cons_of_mem _ a, b⟩
    cases hb : (Nat.beq c.1 mi && (Nat.ble c.2.1 dep && ((!c.2.2.1 || uq) && mdsub c.2.2.2.1 md))) with
    | false => rw [hb, cond_false] at h; exact go h
    | true =>
      rw [hb, cond_true] at h
      split at h
      · next E1 C1 θ1 hi =>
        cases h
        simp only [Bool.and_eq_true, Bool.or_eq_true] at hb
        obtain ⟨b1, b2, b3, b4⟩ := hb
        refine ⟨List.mem_cons_self, Nat.eq_of_beq_eq_true b1, Nat.le_of_ble_eq_true b2, fun g => ?_, b4, hi⟩
        rcases b3 with k | k
        · rw [g] at k; cases k
        · exact k
      · exact go h
/-! splitting by a hint -/
noncomputable def enums (E : qE) (x : qI) (n : Nat) : Int → List qE := Nat.rec (motive := fun _ => Int → List qE) (fun _ => []) (fun _ ih v => lmp (fun E => E) (refEq E x (0, v)).toList (fZ (v + 1) (fun v => ih v))) n
theorem enums_ok {σ : List Int} {E : qE} (h : eOK2 σ E) {x : qI} {u : Int} (hx : iOK σ x u) : ∀ (n : Nat) (v : Int), v ≤ u → u < v + n → ∃ E' ∈ enums E x n v, eOK2 σ E' := by
  intro n
  induction n with
  | zero => intro v h1 h2; omega
  | succ n ih =>
    intro v h1 h2
    have e : enums E x (n + 1) v = lmp (fun E => E) (refEq E x (0, v)).toList (fZ (v + 1) (fun v => enums E x n v)) := rfl
    rw [e, lmp_eq, fZ_eq]
    by_cases g : v = u
    · subst g
      obtain ⟨E', a1, a2⟩ := refEq_ok h hx (i0 h v)
      exact ⟨E', List.mem_append_left _ (by rw [a1]; exact List.mem_map.mpr ⟨E', List.mem_singleton.mpr rfl, rfl⟩), a2⟩
    · obtain ⟨E', a1, a2⟩ := ih (v + 1) (by omega) (by omega)
      exact ⟨E', List.mem_append_right _ a1, a2⟩
noncomputable def qspl (hint : Nat) (E : qE) (st : List qV) : List qE := match st with
  | .inl x :: _ => bif Nat.beq hint 2 then civ E x [E] (fun lo hi => fN (hi - lo + 1).toNat (fun n => enums E x n lo)) else bif Nat.beq hint 3 then civ E x [E] (fun lo _ => lmp (fun E => E) (refEq E x (0, lo)).toList (refLe E (0, lo) x 1).toList) else [E]
  | _ => [E]
theorem qspl_ok {H : qT} {σ : List Int} {hint : Nat} {E : qE} {st : List qV} {sw : List rV} (h : eOK2 σ E) (hs : stOK2 H σ st sw) : ∃ E' ∈ qspl hint E st, eOK2 σ E' := by
  unfold qspl
  split
  · next x r =>
    obtain ⟨v1, u1, e1, ⟨u, x1, x2, x3⟩, s1⟩ := stOK2_cons hs
    obtain ⟨lo, hi, b1, b2, b3⟩ := civ_ok (β := List qE) h x1 [E]
    cases h2 : Nat.beq hint 2 with
    | true =>
      rw [cond_true, b3, fN_eq]
      exact enums_ok h x1 _ lo b1 (by omega)
    | false =>
      rw [cond_false]
      cases h3 : Nat.beq hint 3 with
      | true =>
        rw [cond_true, b3, lmp_eq]
        by_cases g : lo = u
        · subst g
          obtain ⟨E', a1, a2⟩ := refEq_ok h x1 (i0 h lo)
          exact ⟨E', List.mem_append_left _ (by rw [a1]; exact List.mem_map.mpr ⟨E', List.mem_singleton.mpr rfl, rfl⟩), a2⟩
        · obtain ⟨E', a1, a2⟩ := refLe_ok h (i0 h lo) x1 (d := 1) (by omega)
          exact ⟨E', List.mem_append_right _ (by rw [a1]; exact List.mem_singleton.mpr rfl), a2⟩
      | false => exact ⟨E, List.mem_singleton.mpr rfl, h⟩
  · exact ⟨E, List.mem_singleton.mpr rfl, h⟩
/-! a run from a state to its ends: returns, and the places where it is cut -/
abbrev qU : Type := qE × qC × (Option qV ⊕ (Nat × qK × List qV))
noncomputable def lcat {α : Type} (f : α → Option (List qU)) (l : List α) : Option (List qU) := List.rec (motive := fun _ => Option (List qU)) (some []) (fun x _ ih => match f x with
  | none => none
  | some a => (match ih with
    | none => none
    | some b => lapp a b (fun t => some t))) l
theorem lcat_ok {α : Type} {f : α → Option (List qU)} : ∀ {l : List α} {us : List qU}, lcat f l = some us → ∀ x ∈ l, ∃ a, f x = some a ∧ ∀ u ∈ a, u ∈ us := by
  intro l
  induction l with
  | nil => intro us _ x hx; exact absurd hx List.not_mem_nil
  | cons y t ih =>
    intro us h x hx
    have h : (match f y with
      | none => none
      | some a => (match lcat f t with
        | none => none
        | some b => lapp a b (fun t => some t))) = some us := h
    split at h
    · cases h
    · next a ha =>
      split at h
      · cases h
      · next b hb =>
        rw [lapp_eq] at h
        cases h
        rcases List.mem_cons.mp hx with e | e
        · subst e
          exact ⟨a, ha, fun u hu => List.mem_append_left _ hu⟩
        · obtain ⟨a', a1, a2⟩ := ih hb x e
          exact ⟨a', a1, fun u hu => List.mem_append_right _ (a2 u hu)⟩
/-- what a run keeps to: cells, script?, what may change, the lasting fact?, contracts, hints, cuts -/
abbrev qP : Type := qT × Bool × List (Nat × Nat) × Bool × List qCt × List ((Nat × Nat) × Nat) × List Nat
abbrev qG : Type := Nat → List qF → Nat → rM → qE → qC → Nat → qK → List qV → Option (List qU)
/-- what an end tells of the entry's symbols, in the caller's words -/
noncomputable def qrefs (θ : List qI) : List qR → qE → Option qE := List.rec (motive := fun _ => List qR → qE → Option qE) (fun _ E => some E) (fun x _ ih rs E => match rs with
  | [] => some E
  | r :: rs => (match refLe E (0, r.1) x 0 with
    | some E => (match refLe E x (0, r.2) 0 with
      | some E => ih rs E
      | none => none)
    | none => none)) θ
theorem qrefs_ok {σ : List Int} : ∀ (θ : List qI) (rs : List qR) (E : qE), eOK2 σ E → (∀ (j : Nat) (x : qI) (r : qR), θ[j]? = some x → rs[j]? = some r → ∃ z, iOK σ x z ∧ r.1 ≤ z ∧ z ≤ r.2) → ∃ E', qrefs θ rs E = some E' ∧ eOK2 σ E' := by
  intro θ
  induction θ with
  | nil => intro rs E h _; exact ⟨E, rfl, h⟩
  | cons x t ih =>
    intro rs E h g
    match rs, g with
    | [], g => exact ⟨E, rfl, h⟩
    | r :: rs, g =>
      obtain ⟨z, z1, z2, z3⟩ := g 0 x r rfl rfl
      obtain ⟨E1, a1, a2⟩ := refLe_ok h (i0 h r.1) z1 (d := 0) (by omega)
      obtain ⟨E2, b1, b2⟩ := refLe_ok a2 z1 (i0 a2 r.2) (d := 0) (by omega)
      obtain ⟨E3, c1, c2⟩ := ih rs E2 b2 (fun j y s hy hs => g (j + 1) y s hy hs)
      refine ⟨E3, ?_, c2⟩
      have e : qrefs (x :: t) (r :: rs) E = (match refLe E (0, r.1) x 0 with
        | some E => (match refLe E x (0, r.2) 0 with
          | some E => qrefs t rs E
          | none => none)
        | none => none) := rfl
      rw [e, a1]
      dsimp only
      rw [b1]
      exact c1
noncomputable def qcall (P : qP) (ih : qG) (hint dep : Nat) (fs : List qF) (mi : Nat) (M : rM) (E : qE) (C : qC) (pc : Nat) (lv : qK) (mj : Nat) (As r : List qV) : Option (List qU) := match mT mj with
  | none => none
  | some M' => Nat.rec (motive := fun _ => Option (List qU)) none (fun dep' _ => bif (Nat.ble (kasum As) (mLoc M') && (Nat.ble (mLoc M') 80 && (Nat.beq (mC M') 0 && Nat.beq (mS M') 0))) then (match (bif Nat.beq hint 4 then none else q_find P.1 P.2.2.1 P.2.2.2.1 mj dep' (kargs As 0) E C P.2.2.2.2.1) with
      | some (ct, E', C', θ) => lcat (fun o => match qrefs θ o.2.2.1.1 E' with
        | none => some []
        | some E'' => (match q_post P.1 ct.2.2.2.1 E'' C' θ o with
          | some (E2, C2, v) => ih dep fs mi M E2 C2 (Nat.add pc 3) lv (v.toList ++ r)
          | none => none)) ct.2.2.2.2.2
      | none => ih dep' ((mi, M, Nat.add pc 3, lv, r) :: fs) mj M' E C 0 (kargs As 0) []) else none) dep
noncomputable def qgo (P : qP) (ih : qG) (dep : Nat) (fs : List qF) (mi : Nat) (M : rM) (E : qE) (C : qC) (pc : Nat) (lv : qK) (st : List qV) : Option (List qU) := match (match kf P.2.2.2.2.2.1 mi pc with
    | some h => h
    | none => 0) with
  | hint => lcat (fun E => match q_step P.1 P.2.1 P.2.2.1 hint M E C pc lv st with
    | none => none
    | some (.inl ss) => lcat (fun s => ih dep fs mi M s.1 s.2.1 s.2.2.1 s.2.2.2.1 s.2.2.2.2) ss
    | some (.inr (.inl v)) => (match fs with
      | [] => some [(E, C, .inl v)]
      | f :: fs => ih (Nat.succ dep) fs f.1 f.2.1 E C f.2.2.1 f.2.2.2.1 (v.toList ++ f.2.2.2.2))
    | some (.inr (.inr (mj, As, r))) => qcall P ih hint dep fs mi M E C pc lv mj As r) (qspl hint E st)
noncomputable def qrun (P : qP) (n : Nat) : qG := Nat.rec (motive := fun _ => qG) (fun _ _ _ _ _ _ _ _ _ => none) (fun _ ih dep fs mi M E C pc lv st => fN pc (fun pc => bif (nilB fs && lany (fun q => Nat.beq q pc) P.2.2.2.2.2.2) then some [(E, C, .inr (pc, lv, st))] else qgo P ih dep fs mi M E C pc lv st)) n
/-- what is asked of an end -/
def qgoal (H : qT) (L : List Nat) (Mb : rM) (cb zb db : Nat) (Post : Option rV → rD → Prop) (u : qU) (σ : List Int) (aw : List rC) : Prop := match u.2.2 with
  | .inl v => ∀ w D, rep D aw → eOK2 σ u.1 → hOK H σ u.2.1 aw → resOK H σ v w → Post w D
  | .inr x => ∀ lw sw D, qrl H σ u.1 u.2.1 x.2.1 x.2.2 lw sw D aw → Ev L db Mb (x.1, lw, sw, D, cb, zb) Post
theorem toL_ok {H : qT} {σ : List Int} {v : Option qV} {w : Option rV} (h : resOK H σ v w) {r : List qV} {rw' : List rV} (hr : stOK2 H σ r rw') : stOK2 H σ (v.toList ++ r) (w.toList ++ rw') := by
  match v, h with
  | none, h => have h : w = none := h; subst h; exact hr
  | some a, ⟨x, h1, h2⟩ => subst h1; exact ⟨h2, hr⟩
def qinv (P : qP) (Q : List rC → Prop) (L : List Nat) (aw0 : List rC) (Mb : rM) (cb zb db : Nat) (Post : Option rV → rD → Prop) (ih : qG) : Prop := ∀ (dep : Nat) (fs : List qF) (mi : Nat) (M : rM) (E : qE) (C : qC) (pc : Nat) (lv : qK) (st : List qV) (us : List qU), ih dep fs mi M E C pc lv st = some us → ∀ (σ : List Int) (lw : rK) (sw : List rV) (D : rD) (aw : List rC) (gs : List cF) (c z δ : Nat), qrl P.1 σ E C lv st lw sw D aw → frB P.1 σ Mb cb zb db fs gs M c z (dep + δ) → scOK P.2.1 L σ → (c ≤ mC M ∧ z ≤ mS M) → ag P.1 P.2.2.1 aw0 aw → (∀ u ∈ us, ∀ σ' aw', xt σ σ' → ag P.1 P.2.2.1 aw0 aw' → qgoal P.1 L Mb cb zb db Post u σ' aw') → EvF L gs (dep + δ) M (pc, lw, sw, D, c, z) Post
theorem qgo_ok {P : qP} {Q : List rC → Prop} {L : List Nat} (hw : HW P.1) (hct : ∀ ct ∈ P.2.2.2.2.1, CtOK P.1 Q L ct) {aw0 : List rC} (hQ : P.2.2.2.1 = true → ∀ aw, ag P.1 P.2.2.1 aw0 aw → Q aw) {Mb : rM} {cb zb db : Nat} {Post : Option rV → rD → Prop} {ih : qG} (hi : qinv P Q L aw0 Mb cb zb db Post ih) : qinv P Q L aw0 Mb cb zb db Post (qgo P ih) := by
  intro dep fs mi M E C pc lv st us h σ lw sw D aw gs c z δ hr hf hsc hcz hag hg
  unfold qgo at h
  dsimp only at h
  generalize (match kf P.2.2.2.2.2.1 mi pc with
    | some h => h
    | none => 0) = hint at h
  obtain ⟨r1, r2, r3, r4, r5⟩ := hr
  obtain ⟨E1, m1, m2⟩ := qspl_ok (hint := hint) r1 r4
  obtain ⟨us1, k1, k2⟩ := lcat_ok h E1 m1
  have hr1 : qrl P.1 σ E1 C lv st lw sw D aw := ⟨m2, r2, r3, r4, r5⟩
  split at k1
  · cases k1
  · next ss hs =>
    obtain ⟨s, s1, σ', lw', sw', D', aw', x1, x2, x3, x4⟩ := q_step_ok hw hr1 hsc hcz hs
    obtain ⟨us2, j1, j2⟩ := lcat_ok k1 s s1
    exact EvF_step x2 (hi dep fs mi M _ _ _ _ _ us2 j1 σ' lw' sw' D' aw' gs c z δ x4 (frB_xt x1 hf) (scOK_xt x1 hsc) hcz (ag_trans hag x3) (fun u hu σ2 aw2 a1 a2 => hg u (k2 u (j2 u hu)) σ2 aw2 (xt_trans x1 a1) a2))
  · next v hs =>
    have hsn := q_step_ok hw hr1 hsc hcz hs
    have hret : ∃ w, step tT L M [] pc lw sw D c z = some (.inr (.inr (.inr (.inl w)))) ∧ resOK P.1 σ v w := by
      match v, hsn with
      | none, hsn => exact ⟨none, hsn, rfl⟩
      | some a, ⟨x, y1, y2⟩ => exact ⟨some x, y1, x, rfl, y2⟩
    obtain ⟨w, w1, w2⟩ := hret
    match fs, gs, hf, k1 with
    | [], [], hf, k1 =>
      obtain ⟨f1, f2, f3, f4⟩ := hf
      cases k1
      exact Ev_ret w1 (hg _ (k2 _ (List.mem_singleton.mpr rfl)) σ aw (xt_refl σ) hag w D r5 m2 r2 w2)
    | f :: fs, g :: gs, hf, k1 =>
      obtain ⟨f1, f2, f3, f4, f5, f6⟩ := hf
      refine Ev_ret w1 ?_
      have := hi (Nat.succ dep) fs f.1 f.2.1 _ _ _ _ _ us1 k1 σ g.2.2.1 (w.toList ++ g.2.2.2.1) D aw gs g.2.2.2.2.1 g.2.2.2.2.2 δ ⟨m2, r2, f3, toL_ok w2 f4, r5⟩ (by rw [f1, show Nat.succ dep + δ = dep + δ + 1 by omega]; exact f6) hsc (by rw [f1]; exact f5) hag (fun u hu σ2 aw2 a1 a2 => hg u (k2 u hu) σ2 aw2 a1 a2)
      rw [f1, f2, show Nat.succ dep + δ = dep + δ + 1 by omega] at this
      exact this
  · next mj As r hs =>
    obtain ⟨Aw, rw', y1, y2, y3⟩ := q_step_ok hw hr1 hsc hcz hs
    unfold qcall at k1
    split at k1
    · cases k1
    · next M' hM =>
      match dep, k1, hf, hg with
      | dep + 1, k1, hf, hg =>
        have k1 : (bif (Nat.ble (kasum As) (mLoc M') && (Nat.ble (mLoc M') 80 && (Nat.beq (mC M') 0 && Nat.beq (mS M') 0))) then (match (bif Nat.beq hint 4 then none else q_find P.1 P.2.2.1 P.2.2.2.1 mj dep (kargs As 0) E1 C P.2.2.2.2.1) with
          | some (ct, E', C', θ) => lcat (fun o => match qrefs θ o.2.2.1.1 E' with
            | none => some []
            | some E'' => (match q_post P.1 ct.2.2.2.1 E'' C' θ o with
              | some (E2, C2, v) => ih (dep + 1) fs mi M E2 C2 (Nat.add pc 3) lv (v.toList ++ r)
              | none => none)) ct.2.2.2.2.2
          | none => ih dep ((mi, M, Nat.add pc 3, lv, r) :: fs) mj M' E1 C 0 (kargs As 0) []) else none) = some us1 := k1
        cases hb : (Nat.ble (kasum As) (mLoc M') && (Nat.ble (mLoc M') 80 && (Nat.beq (mC M') 0 && Nat.beq (mS M') 0))) with
        | false => rw [hb] at k1; cases k1
        | true =>
          rw [hb, cond_true] at k1
          simp only [Bool.and_eq_true] at hb
          obtain ⟨b1, b2, b3, b4⟩ := hb
          have b1' := Nat.le_of_ble_eq_true b1
          have b2' := Nat.le_of_ble_eq_true b2
          have b3' := Nat.eq_of_beq_eq_true b3
          have b4' := Nat.eq_of_beq_eq_true b4
          have hlv := kargs_ok 0 y2
          have hcc : c + mC M' ≤ mC M ∧ z + mS M' ≤ mS M := by rw [b3', b4']; exact hcz
          have e0 : Nat.add c (mC M') = c := by rw [b3']; rfl
          have e1 : Nat.add z (mS M') = z := by rw [b4']; rfl
          rw [show dep + 1 + δ = dep + δ + 1 by omega]
          split at k1
          · next ct E' C' θ hfd =>
            have hfd' : q_find P.1 P.2.2.1 P.2.2.2.1 mj dep (kargs As 0) E1 C P.2.2.2.2.1 = some (ct, E', C', θ) := by
              cases h4 : Nat.beq hint 4 with
              | true => rw [h4] at hfd; cases hfd
              | false => rw [h4] at hfd; exact hfd
            obtain ⟨t1, t2, t3, t4, t5, t6⟩ := q_find_ok hfd'
            have hth0 : thOK σ [(0, 0)] [0] := ⟨rfl, fun j x hx => by
              cases j with
              | zero =>
                simp at hx
                subst hx
                exact ⟨0, rfl, i0 m2 0⟩
              | succ j => simp at hx⟩
            obtain ⟨σ1, τ, v1, v2, v3, v4, v5, v6, v7, v8⟩ := q_inst_ok hw m2 r2 hlv hth0 rfl t6
            have hEv := hct ct t1 M' (dep + δ) τ Aw D aw (by rw [t2]; exact hM) (by omega) r5 v6 v7 v8 (fun g => hQ (t4 g) aw hag)
            refine EvF_call y1 hM (by rw [kasum_ok y2]; exact b1') b2' hcc.1 hcc.2 hEv ?_
            rintro v D' ⟨aw', z1, z2, o, z3, τ1, z4, z5, z6, z7⟩
            obtain ⟨us2, j1, j2⟩ := lcat_ok k1 o z3
            obtain ⟨Er, v9, v10⟩ := qrefs_ok θ o.2.2.1.1 E' v2 (fun j x r hx hr => by
              obtain ⟨z, y1, y2⟩ := v4.2 j x hx
              obtain ⟨z', y3, y4⟩ := z5.2.2.1 j r hr
              have y5 := z4 j z y1
              rw [y3] at y5
              have y6 := Option.some.inj y5
              rw [y6] at y4
              exact ⟨z, y2, y4⟩)
            rw [v9] at j1
            dsimp only at j1
            split at j1
            · next E2 C2 v' hp =>
              obtain ⟨σ2, w1, w2, w3, w4⟩ := q_post_ok v10 v3 v4 z4 z5 z6 z7 z2 hp
              have xx := xt_trans v1 w1
              have := hi (dep + 1) fs mi M _ _ _ _ _ us2 j1 σ2 lw (v.toList ++ rw') D' aw' gs c z δ ⟨w2, w3, lvOK_xt xx r3, toL_ok w4 (stOK2_xt xx y3), z1⟩ (frB_xt xx hf) (scOK_xt xx hsc) hcz (ag_trans hag (ag_sub t5 z2)) (fun u hu σ3 aw3 a1 a2 => hg u (k2 u (j2 u hu)) σ3 aw3 (xt_trans xx a1) a2)
              rw [show dep + 1 + δ = dep + δ + 1 by omega] at this
              rw [e0, e1]
              exact this
            · cases j1
          · have hpush : frB P.1 σ Mb cb zb db ((mi, M, Nat.add pc 3, lv, r) :: fs) ((M, Nat.add pc 3, lw, rw', c, z) :: gs) M' 0 0 (dep + δ) := ⟨rfl, rfl, r3, y3, hcz, by rw [show dep + δ + 1 = dep + 1 + δ by omega]; exact hf⟩
            have hin := hi dep ((mi, M, Nat.add pc 3, lv, r) :: fs) mj M' E1 C 0 (kargs As 0) [] us1 k1 σ (argsL Aw 0) [] D aw ((M, Nat.add pc 3, lw, rw', c, z) :: gs) 0 0 δ ⟨m2, r2, hlv, trivial, r5⟩ hpush hsc ⟨Nat.zero_le _, Nat.zero_le _⟩ hag (fun u hu σ3 aw3 a1 a2 => hg u (k2 u hu) σ3 aw3 a1 a2)
            refine EvF_call y1 hM (by rw [kasum_ok y2]; exact b1') b2' hcc.1 hcc.2 hin ?_
            intro v D' hv
            rw [e0, e1]
            exact hv
theorem qrun_ok {P : qP} {Q : List rC → Prop} {L : List Nat} (hw : HW P.1) (hct : ∀ ct ∈ P.2.2.2.2.1, CtOK P.1 Q L ct) {aw0 : List rC} (hQ : P.2.2.2.1 = true → ∀ aw, ag P.1 P.2.2.1 aw0 aw → Q aw) {Mb : rM} {cb zb db : Nat} {Post : Option rV → rD → Prop} : ∀ n, qinv P Q L aw0 Mb cb zb db Post (qrun P n) := by
  intro n
  induction n with
  | zero => intro dep fs mi M E C pc lv st us h; cases h
  | succ n ih =>
    intro dep fs mi M E C pc lv st us h σ lw sw D aw gs c z δ hr hf hsc hcz hag hg
    have e : qrun P (n + 1) dep fs mi M E C pc lv st = fN pc (fun pc => bif (nilB fs && lany (fun q => Nat.beq q pc) P.2.2.2.2.2.2) then some [(E, C, .inr (pc, lv, st))] else qgo P (qrun P n) dep fs mi M E C pc lv st) := rfl
    rw [e, fN_eq] at h
    cases hb : (nilB fs && lany (fun q => Nat.beq q pc) P.2.2.2.2.2.2) with
    | false =>
      rw [hb, cond_false] at h
      exact qgo_ok hw hct hQ ih dep fs mi M E C pc lv st us h σ lw sw D aw gs c z δ hr hf hsc hcz hag hg
    | true =>
      rw [hb, cond_true] at h
      cases h
      rw [Bool.and_eq_true] at hb
      match fs, gs, hf, hb with
      | [], [], hf, hb =>
        obtain ⟨f1, f2, f3, f4⟩ := hf
        subst f1
        subst f2
        subst f3
        subst f4
        exact hg _ (List.mem_singleton.mpr rfl) σ aw (xt_refl σ) hag lw sw D hr
      | _ :: _, _, hf, hb => exact absurd hb.1 (by simp [nilB])
