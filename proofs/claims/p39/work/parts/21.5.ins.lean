/-! differences, branches, switches, longs -/
noncomputable def leQ (E : qE) (n : Nat) : Nat → Nat → Int → Bool := Nat.rec (motive := fun _ => Nat → Nat → Int → Bool) (fun _ _ _ => false) (fun _ ih a b c => bif (Nat.beq a b && zle c 0) then true else (match rget E.1 a with
  | some ra => (match rget E.1 b with
    | some rb => bif zle (ra.2 + c) rb.1 then true else lany (fun f => bif Nat.beq f.1 a then fZ (c - f.2.2) (fun e => ih f.2.1 b e) else false) E.2.1
    | none => false)
  | none => false)) n
theorem leQ_ok {σ : List Int} {E : qE} (h : eOK2 σ E) : ∀ (n a b : Nat) (c x y : Int), leQ E n a b c = true → σ[a]? = some x → σ[b]? = some y → x + c ≤ y := by
  intro n
  induction n with
  | zero => intro a b c x y g; cases g
  | succ n ih =>
    intro a b c x y g hx hy
    have e : leQ E (n + 1) a b c = bif (Nat.beq a b && zle c 0) then true else (match rget E.1 a with
      | some ra => (match rget E.1 b with
        | some rb => bif zle (ra.2 + c) rb.1 then true else lany (fun f => bif Nat.beq f.1 a then fZ (c - f.2.2) (fun e => leQ E n f.2.1 b e) else false) E.2.1
        | none => false)
      | none => false) := rfl
    rw [e] at g
    cases h1 : (Nat.beq a b && zle c 0) with
    | true =>
      rw [Bool.and_eq_true, zle_iff] at h1
      have e1 := Nat.eq_of_beq_eq_true h1.1
      subst e1
      rw [hx] at hy
      cases hy
      omega
    | false =>
      rw [h1, cond_false, rget_eq, rget_eq] at g
      split at g
      · next ra hra =>
        split at g
        · next rb hrb =>
          obtain ⟨x', p1, p2, p3⟩ := h.2.2.1 a ra hra
          obtain ⟨y', s1, s2, s3⟩ := h.2.2.1 b rb hrb
          rw [hx] at p1
          cases p1
          rw [hy] at s1
          cases s1
          cases h2 : zle (ra.2 + c) rb.1 with
          | true => have := zle_iff.mp h2; omega
          | false =>
            rw [h2, cond_false] at g
            obtain ⟨f, f1, f2⟩ := lany_iff.mp g
            cases h3 : Nat.beq f.1 a with
            | false => rw [h3] at f2; cases f2
            | true =>
              rw [h3, cond_true, fZ_eq] at f2
              have e2 := Nat.eq_of_beq_eq_true h3
              obtain ⟨u, w, k1, k2, k3⟩ := h.2.2.2.1 f f1
              rw [e2, hx] at k1
              cases k1
              have := ih f.2.1 b (c - f.2.2) w y f2 k2 hy
              omega
        · cases g
      · cases g
noncomputable def lmp {α β : Type} (f : α → β) (l : List α) (t : List β) : List β := List.rec (motive := fun _ => List β) t (fun x _ ih => f x :: ih) l
theorem lmp_eq {α β : Type} (f : α → β) (l : List α) (t : List β) : lmp f l t = l.map f ++ t := by
  induction l with
  | nil => rfl
  | cons x u ih =>
    show f x :: lmp f u t = _
    rw [ih]
    rfl
noncomputable def q_if (hint : Nat) (q : ClassFile.Cond) (x y : qI) (off : Int) (E : qE) (C : qC) (pc : Nat) (lv : qK) (r : List qV) : Option (List qS) := match tg pc off with
  | some t => (match qcmp hint E q x y with
    | (a, b) => some (lmp (fun E => (E, C, t, lv, r)) a (lmp (fun E => (E, C, Nat.add pc 3, lv, r)) b [])))
  | none => none
theorem q_if_ok {H : qT} {md : List (Nat × Nat)} {σ : List Int} {E : qE} {C : qC} {lv : qK} {st : List qV} {lw : rK} {sw : List rV} {D : rD} {aw : List rC} (hr : qrl H σ E C lv st lw sw D aw) {hint : Nat} {q : ClassFile.Cond} {x y : qI} {off : Int} {pc c z : Nat} {ss : List qS} {u v : Int} (hx : iOK σ x u) (hy : iOK σ y v) (hu : inR u) (hv : inR v) (h : q_if hint q x y off E C pc lv st = some ss) : qnext H md σ aw c z ss (abr [] q (eI u) (eI v) off pc lw sw D c z) := by
  obtain ⟨r1, r2, r3, r4, r5⟩ := hr
  unfold q_if at h
  unfold abr
  split at h
  · next t ht =>
    rw [ht]
    dsimp only
    obtain ⟨w, w1, w2⟩ := cmpD_e hu hv q
    rw [w1]
    dsimp only
    rw [w2]
    obtain ⟨k1, k2⟩ := qcmp_ok (hint := hint) r1 hx hy q
    have h := Option.some.inj h
    subst h
    cases hc : q_cnd q u v with
    | true =>
      rw [cond_true]
      obtain ⟨E', m1, m2⟩ := k1 hc
      refine ⟨(E', C, t, lv, st), ?_, σ, lw, sw, D, aw, xt_refl σ, rfl, ag_refl H md aw, m2, r2, r3, r4, r5⟩
      rw [lmp_eq]
      exact List.mem_append_left _ (List.mem_map.mpr ⟨E', m1, rfl⟩)
    | false =>
      rw [cond_false]
      obtain ⟨E', m1, m2⟩ := k2 hc
      refine ⟨(E', C, Nat.add pc 3, lv, st), ?_, σ, lw, sw, D, aw, xt_refl σ, rfl, ag_refl H md aw, m2, r2, r3, r4, r5⟩
      rw [lmp_eq, lmp_eq]
      exact List.mem_append_right _ (List.mem_append_left _ (List.mem_map.mpr ⟨E', m1, rfl⟩))
  · cases h
/-! switches -/
noncomputable def q_keys (x : qI) (E : qE) (C : qC) (pc : Nat) (lv : qK) (r : List qV) (ps : List (Int × Int)) (base : List qS) : Option (List qS) := List.rec (motive := fun _ => Option (List qS)) (some base) (fun p _ ih => match ih with
  | none => none
  | some ss => (match tg pc p.2 with
    | none => none
    | some t => (match refEq E x (0, p.1) with
      | some E' => some ((E', C, t, lv, r) :: ss)
      | none => some ss))) ps
theorem q_keys_ok {σ : List Int} {E : qE} (h : eOK2 σ E) {x : qI} {u : Int} (hx : iOK σ x u) {C : qC} {pc : Nat} {lv : qK} {r : List qV} {base : List qS} : ∀ (ps : List (Int × Int)) (ss : List qS), q_keys x E C pc lv r ps base = some ss → (∀ s ∈ base, s ∈ ss) ∧ (∀ p ∈ ps, ∃ t, tg pc p.2 = some t ∧ (p.1 = u → ∃ E', (E', C, t, lv, r) ∈ ss ∧ eOK2 σ E')) := by
  intro ps
  induction ps with
  | nil =>
    intro ss g
    have g : some base = some ss := g
    cases g
    exact ⟨fun _ h => h, fun p hp => absurd hp List.not_mem_nil⟩
  | cons p t ih =>
    intro ss g
    have e : q_keys x E C pc lv r (p :: t) base = match q_keys x E C pc lv r t base with
      | none => none
      | some ss => (match tg pc p.2 with
        | none => none
        | some t => (match refEq E x (0, p.1) with
          | some E' => some ((E', C, t, lv, r) :: ss)
          | none => some ss)) := rfl
    rw [e] at g
    split at g
    · cases g
    · next s1 hs1 =>
      obtain ⟨i1, i2⟩ := ih s1 hs1
      split at g
      · cases g
      · next tt htt =>
        have sub : ∀ s ∈ s1, s ∈ ss := by
          split at g
          · cases g; exact fun s hs => List.mem_cons_of_mem _ hs
          · cases g; exact fun s hs => hs
        refine ⟨fun s hs => sub s (i1 s hs), fun p' hp' => ?_⟩
        rcases List.mem_cons.mp hp' with e1 | e1
        · subst e1
          refine ⟨tt, htt, fun hu => ?_⟩
          have h0 : iOK σ (0, p'.1) u := by rw [hu]; exact i0 h u
          obtain ⟨E', k1, k2⟩ := refEq_ok h hx h0
          rw [k1] at g
          cases g
          exact ⟨E', List.mem_cons_self, k2⟩
        · obtain ⟨t', j1, j2⟩ := i2 p' e1
          refine ⟨t', j1, fun hu => ?_⟩
          obtain ⟨E', k1, k2⟩ := j2 hu
          exact ⟨E', sub _ k1, k2⟩
noncomputable def nkeys (lo : Int) (l : List Int) : List (Int × Int) := List.rec (motive := fun _ => Int → List (Int × Int)) (fun _ => []) (fun o _ ih k => fZ k (fun k => (k, o) :: ih (k + 1))) l lo
theorem nkeys_mem : ∀ (l : List Int) (lo : Int) (i : Nat) (o : Int), l[i]? = some o → (lo + i, o) ∈ nkeys lo l := by
  intro l
  induction l with
  | nil => intro lo i o h; simp at h
  | cons a t ih =>
    intro lo i o h
    have e : nkeys lo (a :: t) = fZ lo (fun k => (k, a) :: nkeys (k + 1) t) := rfl
    rw [e, fZ_eq]
    cases i with
    | zero =>
      simp at h
      subst h
      rw [show lo + ((0 : Nat) : Int) = lo by omega]
      exact List.mem_cons_self
    | succ i =>
      rw [List.getElem?_cons_succ] at h
      have := ih (lo + 1) i o h
      rw [show lo + ((i + 1 : Nat) : Int) = lo + 1 + (i : Int) by omega]
      exact List.mem_cons_of_mem _ this
noncomputable def q_tsw (d lo hi : Int) (offs : Array Int) (E : qE) (C : qC) (pc : Nat) (lv : qK) (st : List qV) : Option (List qS) := match st with
  | .inl x :: r => bif (zle (-2147483648) lo && (zle hi 2147483647 && (zle lo hi && zeq (hi - lo + 1) (Int.ofNat offs.toList.length)))) then (match tg pc d with
    | some t => q_keys x E C pc lv r (nkeys lo offs.toList) (lmp (fun E => (E, C, t, lv, r)) (refLe E x (0, lo) 1).toList (lmp (fun E => (E, C, t, lv, r)) (refLe E (0, hi) x 1).toList []))
    | none => none) else none
  | _ => none
theorem q_tsw_ok {H : qT} {md : List (Nat × Nat)} {σ : List Int} {E : qE} {C : qC} {lv : qK} {st : List qV} {lw : rK} {sw : List rV} {D : rD} {aw : List rC} (hr : qrl H σ E C lv st lw sw D aw) {T : rT} {own : Nat} {ret : Option FieldType} {ini : Bool} {mc ms : Nat} {L : List Nat} {d lo hi : Int} {offs : Array Int} {pc c z : Nat} {ss : List qS} (h : q_tsw d lo hi offs E C pc lv st = some ss) : qnext H md σ aw c z ss (h_tsw d lo hi offs T own ret ini mc ms L [] pc lw sw D c z) := by
  obtain ⟨r1, r2, r3, r4, r5⟩ := hr
  unfold q_tsw at h
  split at h
  · next x r =>
    obtain ⟨v1, u1, e1, ⟨u, x1, x2, x3⟩, s1⟩ := stOK2_cons r4
    subst e1
    subst x3
    cases hc : (zle (-2147483648) lo && (zle hi 2147483647 && (zle lo hi && zeq (hi - lo + 1) (Int.ofNat offs.toList.length)))) with
    | false => rw [hc] at h; cases h
    | true =>
      rw [hc, cond_true] at h
      simp only [Bool.and_eq_true, zle_iff, zeq_iff] at hc
      obtain ⟨c1, c2, c4, c3⟩ := hc
      have c3' : hi - lo + 1 = (offs.toList.length : Int) := c3
      split at h
      · next t ht =>
        obtain ⟨k1, k2⟩ := q_keys_ok r1 x1 _ ss h
        have hlo : inR lo := ⟨c1, by omega⟩
        have hhi : inR hi := ⟨by omega, c2⟩
        unfold h_tsw
        dsimp only
        rw [iv_e]
        dsimp only
        have bl : (bz (Int32.ofInt lo) : Int) = lo + 2147483648 := by rw [bz_in, ofInt_in hlo]
        have bh : (bz (Int32.ofInt hi) : Int) = hi + 2147483648 := by rw [bz_in, ofInt_in hhi]
        have bu := un_eI x2
        have fin : ∀ E', eOK2 σ E' → (E', C, t, lv, r) ∈ ss → qnext H md σ aw c z ss (some (.inl (t, lw, u1, D, c, z))) := fun E' g1 g2 => ⟨_, g2, σ, lw, u1, D, aw, xt_refl σ, rfl, ag_refl H md aw, g1, r2, r3, s1, r5⟩
        by_cases g1 : u < lo
        · rw [blt_of (show un (eI u) < bz (Int32.ofInt lo) by omega), Bool.true_or, cond_true, ht]
          dsimp only
          rw [ofInt_in hlo, ofInt_in hhi, decide_eq_true rfl, decide_eq_true rfl, Bool.and_self, cond_true]
          obtain ⟨E', m1, m2⟩ := refLe_ok r1 x1 (i0 r1 lo) (d := 1) (by omega)
          refine fin E' m2 (k1 _ ?_)
          rw [lmp_eq, m1]
          exact List.mem_append_left _ List.mem_cons_self
        · by_cases g2 : hi < u
          · rw [blt_of (show bz (Int32.ofInt hi) < un (eI u) by omega), Bool.or_true, cond_true, ht]
            dsimp only
            rw [ofInt_in hlo, ofInt_in hhi, decide_eq_true rfl, decide_eq_true rfl, Bool.and_self, cond_true]
            obtain ⟨E', m1, m2⟩ := refLe_ok r1 (i0 r1 hi) x1 (d := 1) (by omega)
            refine fin E' m2 (k1 _ ?_)
            rw [lmp_eq, lmp_eq, m1]
            exact List.mem_append_right _ (List.mem_append_left _ List.mem_cons_self)
          · rw [blt_not (show ¬ un (eI u) < bz (Int32.ofInt lo) by omega), blt_not (show ¬ bz (Int32.ofInt hi) < un (eI u) by omega), Bool.or_self, cond_false, nd_eI]
            dsimp only
            rw [nI_eI, ofInt_in x2]
            have hlen : (u - lo).toNat < offs.toList.length := by omega
            have hget : offs[(u - lo).toNat]? = some (offs.toList[(u - lo).toNat]) := by rw [← Array.getElem?_toList, List.getElem?_eq_getElem hlen]
            rw [hget]
            dsimp only
            have hm := nkeys_mem offs.toList lo (u - lo).toNat _ (List.getElem?_eq_getElem hlen)
            obtain ⟨t', t1, t2⟩ := k2 _ hm
            obtain ⟨E', m1, m2⟩ := t2 (by dsimp only; omega)
            dsimp only at t1
            rw [t1]
            dsimp only
            rw [decide_eq_true (show lo ≤ u by omega), decide_eq_true (show u ≤ hi by omega), Bool.and_self, cond_true]
            exact ⟨_, m1, σ, lw, u1, D, aw, xt_refl σ, rfl, ag_refl H md aw, m2, r2, r3, s1, r5⟩
      · cases h
  · cases h
noncomputable def q_lsw (d : Int) (ps : Array (Int × Int)) (E : qE) (C : qC) (pc : Nat) (lv : qK) (st : List qV) : Option (List qS) := match st with
  | .inl x :: r => bif (ps.toList.zip (ps.toList.drop 1)).all (fun (a, next) => a.1 < next.1) then (match tg pc d with
    | some t => q_keys x E C pc lv r ps.toList [(E, C, t, lv, r)]
    | none => none) else none
  | _ => none
theorem lsw_off (d u : Int) : ∀ (l : List (Int × Int)), Op.lookupswitch.offset l d u = d ∨ ∃ p ∈ l, p.1 = u ∧ Op.lookupswitch.offset l d u = p.2 := by
  intro l
  induction l with
  | nil => exact Or.inl rfl
  | cons p t ih =>
    obtain ⟨a, o⟩ := p
    rw [Op.lookupswitch.offset_cons]
    by_cases e : a = u
    · rw [if_pos e]
      exact Or.inr ⟨(a, o), List.mem_cons_self, e, rfl⟩
    · rw [if_neg e]
      rcases ih with g | ⟨p, g1, g2⟩
      · exact Or.inl g
      · exact Or.inr ⟨p, List.mem_cons_of_mem _ g1, g2⟩
theorem q_lsw_ok {H : qT} {md : List (Nat × Nat)} {σ : List Int} {E : qE} {C : qC} {lv : qK} {st : List qV} {lw : rK} {sw : List rV} {D : rD} {aw : List rC} (hr : qrl H σ E C lv st lw sw D aw) {T : rT} {own : Nat} {ret : Option FieldType} {ini : Bool} {mc ms : Nat} {L : List Nat} {d : Int} {ps : Array (Int × Int)} {pc c z : Nat} {ss : List qS} (h : q_lsw d ps E C pc lv st = some ss) : qnext H md σ aw c z ss (h_lsw d ps T own ret ini mc ms L [] pc lw sw D c z) := by
  obtain ⟨r1, r2, r3, r4, r5⟩ := hr
  unfold q_lsw at h
  split at h
  · next x r =>
    obtain ⟨v1, u1, e1, ⟨u, x1, x2, x3⟩, s1⟩ := stOK2_cons r4
    subst e1
    subst x3
    unfold h_lsw
    dsimp only
    cases hc : (ps.toList.zip (ps.toList.drop 1)).all (fun (a, next) => a.1 < next.1) with
    | false => rw [hc] at h; cases h
    | true =>
      rw [hc, cond_true] at h
      rw [cond_true, nd_eI]
      dsimp only
      rw [nI_eI, ofInt_in x2]
      split at h
      · next t ht =>
        obtain ⟨k1, k2⟩ := q_keys_ok r1 x1 _ ss h
        rcases lsw_off d u ps.toList with g | ⟨p, g1, g2, g3⟩
        · rw [g, ht]
          dsimp only
          exact ⟨_, k1 _ List.mem_cons_self, σ, lw, u1, D, aw, xt_refl σ, rfl, ag_refl H md aw, r1, r2, r3, s1, r5⟩
        · obtain ⟨t', t1, t2⟩ := k2 p g1
          obtain ⟨E', m1, m2⟩ := t2 g2
          rw [g3, t1]
          dsimp only
          exact ⟨_, m1, σ, lw, u1, D, aw, xt_refl σ, rfl, ag_refl H md aw, m2, r2, r3, s1, r5⟩
      · cases h
  · cases h
/-! longs -/
theorem lN_cLn {n : Nat} (h : n < 18446744073709551616) : cL (lN n) = n := by
  unfold cL lN
  show (Int64.ofNat n).toUInt64.toNat = n
  simp
  omega
noncomputable def q_lcmp (E : qE) (C : qC) (pc : Nat) (lv : qK) (st : List qV) : Option (List qS) := match st with
  | .inr (.inl y) :: .inr (.inl x) :: r => bif (Nat.beq y.1 0 && (zeq y.2 0 && !(Nat.beq x.1 0))) then
      some (lmp (fun E => (E, C, Nat.add pc 1, lv, .inl (0, 0) :: r)) (refEq E x y).toList (lmp (fun E => (E, C, Nat.add pc 1, lv, .inl (0, 1) :: r)) (refLe E y x 1).toList (lmp (fun E => (E, C, Nat.add pc 1, lv, .inl (0, -1) :: r)) (refLe E y x 1).toList [])))
    else some (q_pI (-1) 1 E C (Nat.add pc 1) lv r)
  | _ => none
theorem q_lcmp_ok {H : qT} {md : List (Nat × Nat)} {σ : List Int} {E : qE} {C : qC} {lv : qK} {st : List qV} {lw : rK} {sw : List rV} {D : rD} {aw : List rC} (hr : qrl H σ E C lv st lw sw D aw) {T : rT} {own : Nat} {ret : Option FieldType} {ini : Bool} {mc ms : Nat} {L : List Nat} {pc c z : Nat} {ss : List qS} (h : q_lcmp E C pc lv st = some ss) : qnext H md σ aw c z ss (h_lcmp T own ret ini mc ms L [] pc lw sw D c z) := by
  obtain ⟨r1, r2, r3, r4, r5⟩ := hr
  unfold q_lcmp at h
  split at h
  · next y x r =>
    obtain ⟨v1, u1, e1, ⟨yz, y1, y2, y3, y4⟩, s1⟩ := stOK2_cons r4
    obtain ⟨v2, u2, e2, ⟨xz, x1, x2, x3, x4⟩, s2⟩ := stOK2_cons s1
    subst e1
    subst e2
    subst y4
    subst x4
    unfold h_lcmp
    dsimp only
    rw [fN_eq]
    cases hc : (Nat.beq y.1 0 && (zeq y.2 0 && !(Nat.beq x.1 0))) with
    | true =>
      rw [hc, cond_true] at h
      have h := Option.some.inj h
      simp only [Bool.and_eq_true, zeq_iff] at hc
      obtain ⟨c1, c2, c3⟩ := hc
      have ey : yz = 0 := by
        obtain ⟨b, b1, b2⟩ := y1
        rw [Nat.eq_of_beq_eq_true c1, r1.2.1] at b1
        cases b1
        omega
      subst ey
      subst h
      have hz : lN (0 : Int).toNat = 0 := rfl
      rw [hz]
      by_cases g : xz = 0
      · subst g
        have e0 : lg_cmp (lN (0 : Int).toNat) 0 = 0 := rfl
        rw [e0]
        obtain ⟨E', m1, m2⟩ := refEq_ok r1 x1 y1
        refine ⟨(E', C, Nat.add pc 1, lv, .inl (0, 0) :: r), ?_, σ, lw, _, D, aw, xt_refl σ, rfl, ag_refl H md aw, m2, r2, r3, ⟨⟨0, i0 r1 0, ⟨by decide, by decide⟩, rfl⟩, s2⟩, r5⟩
        rw [lmp_eq, m1]
        exact List.mem_append_left _ List.mem_cons_self
      · have hne : ¬ lN xz.toNat = 0 := fun e => by
          have e1 := congrArg cL e
          rw [lN_cLn (by omega)] at e1
          have e2 : cL 0 = 0 := rfl
          omega
        obtain ⟨E', m1, m2⟩ := refLe_ok r1 y1 x1 (d := 1) (by omega)
        unfold lg_cmp
        by_cases k : lN xz.toNat > 0
        · rw [if_pos k]
          refine ⟨(E', C, Nat.add pc 1, lv, .inl (0, 1) :: r), ?_, σ, lw, _, D, aw, xt_refl σ, rfl, ag_refl H md aw, m2, r2, r3, ⟨⟨1, i0 r1 1, ⟨by decide, by decide⟩, rfl⟩, s2⟩, r5⟩
          rw [lmp_eq, lmp_eq, m1]
          exact List.mem_append_right _ (List.mem_append_left _ List.mem_cons_self)
        · rw [if_neg k, if_neg hne]
          refine ⟨(E', C, Nat.add pc 1, lv, .inl (0, -1) :: r), ?_, σ, lw, _, D, aw, xt_refl σ, rfl, ag_refl H md aw, m2, r2, r3, ⟨⟨-1, i0 r1 (-1), ⟨by decide, by decide⟩, rfl⟩, s2⟩, r5⟩
          rw [lmp_eq, lmp_eq, lmp_eq, m1]
          exact List.mem_append_right _ (List.mem_append_right _ (List.mem_append_left _ List.mem_cons_self))
    | false =>
      rw [hc, cond_false] at h
      cases h
      have hb : -1 ≤ (lg_cmp (lN xz.toNat) (lN yz.toNat)).toInt ∧ (lg_cmp (lN xz.toNat) (lN yz.toNat)).toInt ≤ 1 := by
        unfold lg_cmp
        split
        · decide
        · split
          · decide
          · decide
      exact q_pI_ok ⟨r1, r2, r3, s2, r5⟩ hb.1 hb.2
  · cases h
noncomputable def q_aopD (E : qE) (C : qC) (pc : Nat) (lv : qK) (st : List qV) : Option (List qS) := match st with
  | .inr (.inl y) :: .inr (.inl _) :: r => civ E y none (fun lo _ => bif zle 1 lo then some (q_pL E C (Nat.add pc 1) lv r) else none)
  | _ => none
theorem q_aopD_ok {H : qT} {md : List (Nat × Nat)} {σ : List Int} {E : qE} {C : qC} {lv : qK} {st : List qV} {lw : rK} {sw : List rV} {D : rD} {aw : List rC} (hr : qrl H σ E C lv st lw sw D aw) {T : rT} {own : Nat} {ret : Option FieldType} {ini : Bool} {mc ms : Nat} {L : List Nat} {k pc c z : Nat} {ss : List qS} (h : q_aopD E C pc lv st = some ss) : qnext H md σ aw c z ss (h_aopD k T own ret ini mc ms L [] pc lw sw D c z) := by
  obtain ⟨r1, r2, r3, r4, r5⟩ := hr
  unfold q_aopD at h
  split at h
  · next y x r =>
    obtain ⟨v1, u1, e1, ⟨yz, y1, y2, y3, y4⟩, s1⟩ := stOK2_cons r4
    obtain ⟨v2, u2, e2, ⟨xz, x1, x2, x3, x4⟩, s2⟩ := stOK2_cons s1
    subst e1
    subst e2
    subst y4
    subst x4
    obtain ⟨lo, hi, a1, a2, a3⟩ := civ_ok (β := Option (List qS)) r1 y1 none
    rw [a3] at h
    cases hc : zle 1 lo with
    | false => rw [hc] at h; cases h
    | true =>
      rw [hc, cond_true] at h
      cases h
      have := zle_iff.mp hc
      unfold h_aopD
      dsimp only
      rw [lN_cLn (by omega), beq_ne (show yz.toNat ≠ 0 by omega), cond_false, fN_eq]
      exact q_pL_ok ⟨r1, r2, r3, s2, r5⟩
  · cases h
