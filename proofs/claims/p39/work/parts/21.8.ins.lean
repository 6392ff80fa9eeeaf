/-! the rest, and all instructions together -/
noncomputable def q_ildI (i w : Nat) (E : qE) (C : qC) (pc : Nat) (lv : qK) (st : List qV) : Option (List qS) := match kget lv i with
  | some (.inl x) => some [(E, C, Nat.add pc w, lv, .inl x :: st)]
  | _ => none
noncomputable def q_ildL (i w : Nat) (E : qE) (C : qC) (pc : Nat) (lv : qK) (st : List qV) : Option (List qS) := match kget lv i with
  | some (.inr (.inl x)) => some [(E, C, Nat.add pc w, lv, .inr (.inl x) :: st)]
  | _ => none
noncomputable def q_ildA (i w : Nat) (E : qE) (C : qC) (pc : Nat) (lv : qK) (st : List qV) : Option (List qS) := match kget lv i with
  | some (.inr (.inr x)) => some [(E, C, Nat.add pc w, lv, .inr (.inr x) :: st)]
  | _ => none
theorem q_ildI_ok {H : qT} {md : List (Nat × Nat)} {σ : List Int} {E : qE} {C : qC} {lv : qK} {st : List qV} {lw : rK} {sw : List rV} {D : rD} {aw : List rC} (hr : qrl H σ E C lv st lw sw D aw) {T : rT} {own : Nat} {ret : Option FieldType} {ini : Bool} {mc ms : Nat} {L : List Nat} {i w pc c z : Nat} {ss : List qS} (h : q_ildI i w E C pc lv st = some ss) : qnext H md σ aw c z ss (h_ildI i w T own ret ini mc ms L [] pc lw sw D c z) := by
  obtain ⟨r1, r2, r3, r4, r5⟩ := hr
  unfold q_ildI at h
  split at h
  · next x hx =>
    cases h
    obtain ⟨v, v1, v2⟩ := r3 i _ hx
    have v2' := v2
    obtain ⟨y, y1, y2, y3⟩ := v2
    subst y3
    unfold h_ildI
    rw [v1]
    exact qn_one rfl (xt_refl σ) (ag_refl H md aw) ⟨r1, r2, r3, ⟨v2', r4⟩, r5⟩
  · cases h
theorem q_ildL_ok {H : qT} {md : List (Nat × Nat)} {σ : List Int} {E : qE} {C : qC} {lv : qK} {st : List qV} {lw : rK} {sw : List rV} {D : rD} {aw : List rC} (hr : qrl H σ E C lv st lw sw D aw) {T : rT} {own : Nat} {ret : Option FieldType} {ini : Bool} {mc ms : Nat} {L : List Nat} {i w pc c z : Nat} {ss : List qS} (h : q_ildL i w E C pc lv st = some ss) : qnext H md σ aw c z ss (h_ildL i w T own ret ini mc ms L [] pc lw sw D c z) := by
  obtain ⟨r1, r2, r3, r4, r5⟩ := hr
  unfold q_ildL at h
  split at h
  · next x hx =>
    cases h
    obtain ⟨v, v1, v2⟩ := r3 i _ hx
    have v2' := v2
    obtain ⟨y, y1, y2, y3, y4⟩ := v2
    subst y4
    unfold h_ildL
    rw [v1]
    exact qn_one rfl (xt_refl σ) (ag_refl H md aw) ⟨r1, r2, r3, ⟨v2', r4⟩, r5⟩
  · cases h
theorem ref_of {H : qT} {σ : List Int} {o : Option Nat} {v : rV} (h : vOK H σ (.inr (.inr o)) v) : ∃ k, v = .inr (.inr (some k)) := by
  match o, h with
  | none, h => exact ⟨0, h⟩
  | some κ, ⟨p, h1, _⟩ => exact ⟨p + 1, h1⟩
theorem q_ildA_ok {H : qT} {md : List (Nat × Nat)} {σ : List Int} {E : qE} {C : qC} {lv : qK} {st : List qV} {lw : rK} {sw : List rV} {D : rD} {aw : List rC} (hr : qrl H σ E C lv st lw sw D aw) {T : rT} {own : Nat} {ret : Option FieldType} {ini : Bool} {mc ms : Nat} {L : List Nat} {i w pc c z : Nat} {ss : List qS} (h : q_ildA i w E C pc lv st = some ss) : qnext H md σ aw c z ss (h_ildA i w T own ret ini mc ms L [] pc lw sw D c z) := by
  obtain ⟨r1, r2, r3, r4, r5⟩ := hr
  unfold q_ildA at h
  split at h
  · next x hx =>
    cases h
    obtain ⟨v, v1, v2⟩ := r3 i _ hx
    obtain ⟨k, hk⟩ := ref_of v2
    subst hk
    unfold h_ildA
    rw [v1]
    exact qn_one rfl (xt_refl σ) (ag_refl H md aw) ⟨r1, r2, r3, ⟨v2, r4⟩, r5⟩
  · cases h
noncomputable def q_istI (i w : Nat) (E : qE) (C : qC) (pc : Nat) (lv : qK) (st : List qV) : Option (List qS) := match st with
  | .inl x :: r => kput lv i (.inl x) (fun lv => some [(E, C, Nat.add pc w, lv, r)])
  | _ => none
noncomputable def q_istA (i w : Nat) (E : qE) (C : qC) (pc : Nat) (lv : qK) (st : List qV) : Option (List qS) := match st with
  | .inr (.inr x) :: r => kput lv i (.inr (.inr x)) (fun lv => some [(E, C, Nat.add pc w, lv, r)])
  | _ => none
noncomputable def q_istL (i w : Nat) (E : qE) (C : qC) (pc : Nat) (lv : qK) (st : List qV) : Option (List qS) := match st with
  | .inr (.inl x) :: r => kput2 lv i (.inr (.inl x)) (fun lv => some [(E, C, Nat.add pc w, lv, r)])
  | _ => none
theorem q_istI_ok {H : qT} {md : List (Nat × Nat)} {σ : List Int} {E : qE} {C : qC} {lv : qK} {st : List qV} {lw : rK} {sw : List rV} {D : rD} {aw : List rC} (hr : qrl H σ E C lv st lw sw D aw) {T : rT} {own : Nat} {ret : Option FieldType} {ini : Bool} {mc ms : Nat} {L : List Nat} {i w pc c z : Nat} {ss : List qS} (h : q_istI i w E C pc lv st = some ss) : qnext H md σ aw c z ss (h_istI i w T own ret ini mc ms L [] pc lw sw D c z) := by
  obtain ⟨r1, r2, r3, r4, r5⟩ := hr
  unfold q_istI at h
  split at h
  · next x r =>
    obtain ⟨v1, u1, e1, a1, s1⟩ := stOK2_cons r4
    have a1' := a1
    obtain ⟨y, y1, y2, y3⟩ := a1
    subst e1
    subst y3
    obtain ⟨lv', lw', k1, k2, k3⟩ := kput_ok (β := Option (List qS)) (γ := Option rO) r3 (i := i) a1'
    rw [k2] at h
    cases h
    unfold h_istI
    dsimp only
    rw [k3]
    exact qn_one rfl (xt_refl σ) (ag_refl H md aw) ⟨r1, r2, k1, s1, r5⟩
  · cases h
theorem q_istA_ok {H : qT} {md : List (Nat × Nat)} {σ : List Int} {E : qE} {C : qC} {lv : qK} {st : List qV} {lw : rK} {sw : List rV} {D : rD} {aw : List rC} (hr : qrl H σ E C lv st lw sw D aw) {T : rT} {own : Nat} {ret : Option FieldType} {ini : Bool} {mc ms : Nat} {L : List Nat} {i w pc c z : Nat} {ss : List qS} (h : q_istA i w E C pc lv st = some ss) : qnext H md σ aw c z ss (h_istA i w T own ret ini mc ms L [] pc lw sw D c z) := by
  obtain ⟨r1, r2, r3, r4, r5⟩ := hr
  unfold q_istA at h
  split at h
  · next x r =>
    obtain ⟨v1, u1, e1, a1, s1⟩ := stOK2_cons r4
    obtain ⟨k, hk⟩ := ref_of a1
    subst e1
    subst hk
    obtain ⟨lv', lw', k1, k2, k3⟩ := kput_ok (β := Option (List qS)) (γ := Option rO) r3 (i := i) a1
    rw [k2] at h
    cases h
    unfold h_istA
    dsimp only
    rw [k3]
    exact qn_one rfl (xt_refl σ) (ag_refl H md aw) ⟨r1, r2, k1, s1, r5⟩
  · cases h
theorem q_istL_ok {H : qT} {md : List (Nat × Nat)} {σ : List Int} {E : qE} {C : qC} {lv : qK} {st : List qV} {lw : rK} {sw : List rV} {D : rD} {aw : List rC} (hr : qrl H σ E C lv st lw sw D aw) {T : rT} {own : Nat} {ret : Option FieldType} {ini : Bool} {mc ms : Nat} {L : List Nat} {i w pc c z : Nat} {ss : List qS} (h : q_istL i w E C pc lv st = some ss) : qnext H md σ aw c z ss (h_istL i w T own ret ini mc ms L [] pc lw sw D c z) := by
  obtain ⟨r1, r2, r3, r4, r5⟩ := hr
  unfold q_istL at h
  split at h
  · next x r =>
    obtain ⟨v1, u1, e1, a1, s1⟩ := stOK2_cons r4
    have a1' := a1
    obtain ⟨y, y1, y2, y3, y4⟩ := a1
    subst e1
    subst y4
    obtain ⟨lv', lw', k1, k2, k3⟩ := kput2_ok (β := Option (List qS)) (γ := Option rO) r3 (i := i) a1'
    rw [k2] at h
    cases h
    unfold h_istL
    dsimp only
    rw [k3]
    exact qn_one rfl (xt_refl σ) (ag_refl H md aw) ⟨r1, r2, k1, s1, r5⟩
  · cases h
noncomputable def q_iinc (i : Nat) (k : Int) (E : qE) (C : qC) (pc : Nat) (lv : qK) (st : List qV) : Option (List qS) := match kget lv i with
  | some (.inl x) => civ E x none (fun lo hi => bif (zle (-2147483648) k && zle k 2147483647) then (bif (zle (-2147483648) (lo + k) && zle (hi + k) 2147483647) then fZ (x.2 + k) (fun e => kput lv i (.inl (x.1, e)) (fun lv => some [(E, C, Nat.add pc 3, lv, st)])) else qval E (-2147483648) 2147483647 (fun E y => kput lv i (.inl y) (fun lv => some [(E, C, Nat.add pc 3, lv, st)]))) else none)
  | _ => none
theorem q_iinc_ok {H : qT} {md : List (Nat × Nat)} {σ : List Int} {E : qE} {C : qC} {lv : qK} {st : List qV} {lw : rK} {sw : List rV} {D : rD} {aw : List rC} (hr : qrl H σ E C lv st lw sw D aw) {T : rT} {own : Nat} {ret : Option FieldType} {ini : Bool} {mc ms : Nat} {L : List Nat} {i pc c z : Nat} {k : Int} {ss : List qS} (h : q_iinc i k E C pc lv st = some ss) : qnext H md σ aw c z ss (h_iinc i k T own ret ini mc ms L [] pc lw sw D c z) := by
  obtain ⟨r1, r2, r3, r4, r5⟩ := hr
  unfold q_iinc at h
  split at h
  · next x hx =>
    obtain ⟨v, v1, y, y1, y2, y3⟩ := r3 i _ hx
    subst y3
    obtain ⟨lo, hi, b1, b2, b3⟩ := civ_ok (β := Option (List qS)) r1 y1 none
    rw [b3] at h
    unfold h_iinc
    rw [v1]
    dsimp only
    rw [nd_eI]
    dsimp only
    rw [fN_eq, nI_eI]
    have hop : Int32.ofInt y + Int32.ofInt k = op 0 (Int32.ofInt y) (Int32.ofInt k) := rfl
    cases hk : (zle (-2147483648) k && zle k 2147483647) with
    | false => rw [hk] at h; cases h
    | true =>
      rw [hk, cond_true] at h
      rw [Bool.and_eq_true, zle_iff, zle_iff] at hk
      cases hc : (zle (-2147483648) (lo + k) && zle (hi + k) 2147483647) with
      | true =>
        rw [hc, cond_true, fZ_eq] at h
        rw [Bool.and_eq_true, zle_iff, zle_iff] at hc
        have hin : inR (y + k) := ⟨by omega, by omega⟩
        rw [hop, cN_eI, op0 y2 ⟨hk.1, hk.2⟩ hin]
        obtain ⟨yb, y11, y12⟩ := y1
        obtain ⟨lv', lw', k1, k2, k3⟩ := kput_ok (β := Option (List qS)) (γ := Option rO) r3 (i := i) (a := .inl (x.1, x.2 + k)) (v := .inl (eI (y + k))) ⟨y + k, ⟨yb, y11, by dsimp only; omega⟩, hin, rfl⟩
        rw [k2] at h
        cases h
        rw [k3]
        exact qn_one rfl (xt_refl σ) (ag_refl H md aw) ⟨r1, r2, k1, r4, r5⟩
      | false =>
        rw [hc, cond_false] at h
        have hb := toInt_in (Int32.ofInt y + Int32.ofInt k)
        obtain ⟨E', x', σ', g1, g2, g3, g4⟩ := qval_ok (β := Option (List qS)) r1 hb.1 hb.2
        rw [g4] at h
        obtain ⟨lv', lw', k1, k2, k3⟩ := kput_ok (β := Option (List qS)) (γ := Option rO) (lvOK_xt g1 r3) (i := i) (a := .inl x') (v := .inl (cN (Int32.ofInt y + Int32.ofInt k))) ⟨_, g3, hb, by rw [cN_eI]⟩
        rw [k2] at h
        cases h
        rw [k3]
        exact qn_one rfl g1 (ag_refl H md aw) ⟨g2, hOK_xt g1 r2, k1, stOK2_xt g1 r4, r5⟩
  · cases h
/-- a long against a number: which side -/
noncomputable def q_lcmpC (E : qE) (C : qC) (pc : Nat) (lv : qK) (st : List qV) : Option (List qS) := match st with
  | .inr (.inl y) :: .inr (.inl x) :: r => bif (Nat.beq y.1 0 && zle y.2 9223372036854775807) then
      some (lmp (fun E => (E, C, Nat.add pc 1, lv, .inl (0, 0) :: r)) (refEq E x y).toList (lmp (fun E => (E, C, Nat.add pc 1, lv, .inl (0, -1) :: r)) (refLe E x y 1).toList (lmp (fun E => (E, C, Nat.add pc 1, lv, .inl (0, 1) :: r)) (match refLe E y x 1 with
        | some E => (refLe E x (0, 9223372036854775807) 0).toList
        | none => []) (lmp (fun E => (E, C, Nat.add pc 1, lv, .inl (0, -1) :: r)) (refLe E (0, 9223372036854775808) x 0).toList []))))
    else none
  | _ => none
theorem lN_int {n : Nat} (h : n < 18446744073709551616) : (lN n).toInt = if n < 9223372036854775808 then (n : Int) else (n : Int) - 18446744073709551616 := by
  have e : (lN n).toInt = (n : Int).bmod 18446744073709551616 := by
    unfold lN
    simp [Int64.toInt_ofNat']
  rw [e, Int.bmod_def]
  split <;> split <;> omega
theorem q_lcmpC_ok {H : qT} {md : List (Nat × Nat)} {σ : List Int} {E : qE} {C : qC} {lv : qK} {st : List qV} {lw : rK} {sw : List rV} {D : rD} {aw : List rC} (hr : qrl H σ E C lv st lw sw D aw) {T : rT} {own : Nat} {ret : Option FieldType} {ini : Bool} {mc ms : Nat} {L : List Nat} {pc c z : Nat} {ss : List qS} (h : q_lcmpC E C pc lv st = some ss) : qnext H md σ aw c z ss (h_lcmp T own ret ini mc ms L [] pc lw sw D c z) := by
  obtain ⟨r1, r2, r3, r4, r5⟩ := hr
  unfold q_lcmpC at h
  split at h
  · next y x r =>
    obtain ⟨v1, u1, e1, ⟨yz, y1, y2, y3, y4⟩, s1⟩ := stOK2_cons r4
    obtain ⟨v2, u2, e2, ⟨xz, x1, x2, x3, x4⟩, s2⟩ := stOK2_cons s1
    subst e1
    subst e2
    subst y4
    subst x4
    unfold h_lcmp
    dsimp only
    rw [fN_eq]
    cases hc : (Nat.beq y.1 0 && zle y.2 9223372036854775807) with
    | false => rw [hc] at h; cases h
    | true =>
      rw [hc, cond_true] at h
      have h := Option.some.inj h
      rw [Bool.and_eq_true, zle_iff] at hc
      obtain ⟨c1, c2⟩ := hc
      have ey : yz = y.2 := by
        obtain ⟨b, b1, b2⟩ := y1
        rw [Nat.eq_of_beq_eq_true c1, r1.2.1] at b1
        cases b1
        omega
      subst h
      have hy : (lN yz.toNat).toInt = yz := by
        rw [lN_int (by omega), if_pos (by omega)]
        omega
      have hx := lN_int (n := xz.toNat) (by omega)
      have hgt : lN xz.toNat > lN yz.toNat ↔ yz < (lN xz.toNat).toInt := by
        show lN yz.toNat < lN xz.toNat ↔ _
        rw [Int64.lt_iff_toInt_lt, hy]
      have heq : lN xz.toNat = lN yz.toNat ↔ (lN xz.toNat).toInt = yz := by
        rw [← Int64.toInt_inj, hy]
      unfold lg_cmp
      rcases Int.lt_trichotomy xz yz with g | g | g
      · rw [if_pos (show xz.toNat < 9223372036854775808 by omega)] at hx
        rw [if_neg (fun q => by have := hgt.mp q; omega), if_neg (fun q => by have := heq.mp q; omega)]
        obtain ⟨E', m1, m2⟩ := refLe_ok r1 x1 y1 (d := 1) (by omega)
        refine ⟨(E', C, Nat.add pc 1, lv, .inl (0, -1) :: r), ?_, σ, lw, _, D, aw, xt_refl σ, rfl, ag_refl H md aw, m2, r2, r3, ⟨⟨-1, i0 r1 (-1), ⟨by decide, by decide⟩, rfl⟩, s2⟩, r5⟩
        rw [lmp_eq, lmp_eq, m1]
        exact List.mem_append_right _ (List.mem_append_left _ List.mem_cons_self)
      · subst g
        rw [if_pos (show xz.toNat < 9223372036854775808 by omega)] at hx
        rw [if_neg (fun q => by have := hgt.mp q; omega), if_pos (heq.mpr (by omega))]
        obtain ⟨E', m1, m2⟩ := refEq_ok r1 x1 y1
        refine ⟨(E', C, Nat.add pc 1, lv, .inl (0, 0) :: r), ?_, σ, lw, _, D, aw, xt_refl σ, rfl, ag_refl H md aw, m2, r2, r3, ⟨⟨0, i0 r1 0, ⟨by decide, by decide⟩, rfl⟩, s2⟩, r5⟩
        rw [lmp_eq, m1]
        exact List.mem_append_left _ List.mem_cons_self
      · by_cases k : xz ≤ 9223372036854775807
        · rw [if_pos (show xz.toNat < 9223372036854775808 by omega)] at hx
          rw [if_pos (hgt.mpr (by omega))]
          obtain ⟨E1, m1, m2⟩ := refLe_ok r1 y1 x1 (d := 1) (by omega)
          obtain ⟨E', m3, m4⟩ := refLe_ok m2 x1 (i0 m2 9223372036854775807) (d := 0) (by omega)
          refine ⟨(E', C, Nat.add pc 1, lv, .inl (0, 1) :: r), ?_, σ, lw, _, D, aw, xt_refl σ, rfl, ag_refl H md aw, m4, r2, r3, ⟨⟨1, i0 r1 1, ⟨by decide, by decide⟩, rfl⟩, s2⟩, r5⟩
          rw [lmp_eq, lmp_eq, lmp_eq, m1]
          dsimp only
          rw [m3]
          exact List.mem_append_right _ (List.mem_append_right _ (List.mem_append_left _ List.mem_cons_self))
        · rw [if_neg (show ¬ xz.toNat < 9223372036854775808 by omega)] at hx
          rw [if_neg (fun q => by have := hgt.mp q; omega), if_neg (fun q => by have := heq.mp q; omega)]
          obtain ⟨E', m1, m2⟩ := refLe_ok r1 (i0 r1 9223372036854775808) x1 (d := 0) (by omega)
          refine ⟨(E', C, Nat.add pc 1, lv, .inl (0, -1) :: r), ?_, σ, lw, _, D, aw, xt_refl σ, rfl, ag_refl H md aw, m2, r2, r3, ⟨⟨-1, i0 r1 (-1), ⟨by decide, by decide⟩, rfl⟩, s2⟩, r5⟩
          rw [lmp_eq, lmp_eq, lmp_eq, lmp_eq, m1]
          exact List.mem_append_right _ (List.mem_append_right _ (List.mem_append_right _ (List.mem_append_left _ List.mem_cons_self)))
  · cases h
noncomputable def q_ins (H : qT) (scr : Bool) (md : List (Nat × Nat)) (hint own : Nat) (ret : Option FieldType) (ins : Instr) (E : qE) (C : qC) (pc : Nat) (lv : qK) (st : List qV) : Option qO :=
  (match ins with
  | .iload_n i => (q_ildI i.val 1 E C pc lv st).map .inl
  | .iload i => (q_ildI i 2 E C pc lv st).map .inl
  | .aload_n i => (q_ildA i.val 1 E C pc lv st).map .inl
  | .aload i => (q_ildA i 2 E C pc lv st).map .inl
  | .lload_n i => (q_ildL i.val 1 E C pc lv st).map .inl
  | .lload i => (q_ildL i 2 E C pc lv st).map .inl
  | .istore_n i => (q_istI i.val 1 E C pc lv st).map .inl
  | .istore i => (q_istI i 2 E C pc lv st).map .inl
  | .astore_n i => (q_istA i.val 1 E C pc lv st).map .inl
  | .astore i => (q_istA i 2 E C pc lv st).map .inl
  | .lstore_n i => (q_istL i.val 1 E C pc lv st).map .inl
  | .lstore i => (q_istL i 2 E C pc lv st).map .inl
  | .iconst i => (q_con (cN (Int32.ofInt i)) 1 E C pc lv st).map .inl
  | .bipush i => (q_con (cN (Int8.ofInt i).toInt32) 2 E C pc lv st).map .inl
  | .sipush i => (q_con (cN (Int16.ofInt i).toInt32) 3 E C pc lv st).map .inl
  | .lconst i => (q_conL i.val 1 E C pc lv st).map .inl
  | .ldc_w i => (match kf tK own i with
    | some n => bif Nat.ble n 4294967295 then (q_con n 3 E C pc lv st).map .inl else none
    | none => none)
  | .ldc2_w i => (match kf tK (Nat.add 100 own) i with
    | some n => (q_conL n 3 E C pc lv st).map .inl
    | none => none)
  | .iinc i k => (q_iinc i k E C pc lv st).map .inl
  | .goto off => (match tg pc off with
    | some t => some (.inl [(E, C, t, lv, st)])
    | none => none)
  | .dup => (match st with
    | v :: r => bif Nat.beq (kct v) 1 then some (.inl [(E, C, Nat.add pc 1, lv, v :: v :: r)]) else none
    | _ => none)
  | .dup2 => (match st with
    | v :: w :: r => bif (Nat.beq (kct v) 1 && Nat.beq (kct w) 1) then some (.inl [(E, C, Nat.add pc 1, lv, v :: w :: v :: w :: r)]) else none
    | _ => none)
  | .pop => (match st with
    | v :: r => bif Nat.beq (kct v) 1 then some (.inl [(E, C, Nat.add pc 1, lv, r)]) else none
    | _ => none)
  | .iadd => (q_aop 0 E C pc lv st).map .inl
  | .isub => (q_aop 1 E C pc lv st).map .inl
  | .imul => (q_aop 2 E C pc lv st).map .inl
  | .iand => (q_aop 3 E C pc lv st).map .inl
  | .ior => (q_aop 4 E C pc lv st).map .inl
  | .ixor => (q_aop 5 E C pc lv st).map .inl
  | .ishl => (q_aop 6 E C pc lv st).map .inl
  | .ishr => (q_aop 7 E C pc lv st).map .inl
  | .idiv => (q_aop 8 E C pc lv st).map .inl
  | .irem => (q_aop 9 E C pc lv st).map .inl
  | .iushr => (match st with
    | .inl _ :: .inl _ :: r => some (.inl (q_pI (-2147483648) 2147483647 E C (Nat.add pc 1) lv r))
    | _ => none)
  | .ladd => (match st with
    | .inr (.inl _) :: .inr (.inl _) :: r => some (.inl (q_pL E C (Nat.add pc 1) lv r))
    | _ => none)
  | .lsub => (match st with
    | .inr (.inl _) :: .inr (.inl _) :: r => some (.inl (q_pL E C (Nat.add pc 1) lv r))
    | _ => none)
  | .land => (match st with
    | .inr (.inl _) :: .inr (.inl _) :: r => some (.inl (q_pL E C (Nat.add pc 1) lv r))
    | _ => none)
  | .lor => (match st with
    | .inr (.inl _) :: .inr (.inl _) :: r => some (.inl (q_pL E C (Nat.add pc 1) lv r))
    | _ => none)
  | .lmul => (match st with
    | .inr (.inl _) :: .inr (.inl _) :: r => some (.inl (q_pL E C (Nat.add pc 1) lv r))
    | _ => none)
  | .lshl => (match st with
    | .inl _ :: .inr (.inl _) :: r => some (.inl (q_pL E C (Nat.add pc 1) lv r))
    | _ => none)
  | .lshr => (match st with
    | .inl _ :: .inr (.inl _) :: r => some (.inl (q_pL E C (Nat.add pc 1) lv r))
    | _ => none)
  | .lushr => (match st with
    | .inl _ :: .inr (.inl _) :: r => some (.inl (q_pL E C (Nat.add pc 1) lv r))
    | _ => none)
  | .ldiv => (q_aopD E C pc lv st).map .inl
  | .lrem => (q_aopD E C pc lv st).map .inl
  | .lcmp => (bif Nat.beq hint 5 then q_lcmpC E C pc lv st else q_lcmp E C pc lv st).map .inl
  | .l2i => (match st with
    | .inr (.inl _) :: r => some (.inl (q_pI (-2147483648) 2147483647 E C (Nat.add pc 1) lv r))
    | _ => none)
  | .i2l => (match st with
    | .inl _ :: r => some (.inl (q_pL E C (Nat.add pc 1) lv r))
    | _ => none)
  | .i2b => (match st with
    | .inl _ :: r => some (.inl (q_pI (-128) 127 E C (Nat.add pc 1) lv r))
    | _ => none)
  | .ifCond q off => (match st with
    | .inl x :: r => (q_if hint q x (0, 0) off E C pc lv r).map .inl
    | _ => none)
  | .if_icmp q off => (match st with
    | .inl y :: .inl x :: r => (q_if hint q x y off E C pc lv r).map .inl
    | _ => none)
  | .tableswitch d lo hi offs => (q_tsw d lo hi offs E C pc lv st).map .inl
  | .lookupswitch d ps => (q_lsw d ps E C pc lv st).map .inl
  | .iaload => (q_ald H scr 14 14 E C pc lv st).map .inl
  | .baload => (q_ald H scr 13 16 E C pc lv st).map .inl
  | .laload => (q_ald H scr 15 15 E C pc lv st).map .inl
  | .aaload => (q_aald H E C pc lv st).map .inl
  | .iastore => (q_ast H md 14 14 E C pc lv st).map .inl
  | .bastore => (q_ast H md 13 16 E C pc lv st).map .inl
  | .lastore => (q_ast H md 15 15 E C pc lv st).map .inl
  | .arraylength => (q_alen H scr E C pc lv st).map .inl
  | .getfield i => (q_getf H own i E C pc lv st).map .inl
  | .putfield i => (q_putf H md own i E C pc lv st).map .inl
  | .invokevirtual i => q_call H md own i 0 E C pc lv st
  | .invokestatic i => q_call H md own i 1 E C pc lv st
  | .ireturn => (match st with
    | .inl x :: [] => (match ret with
      | some .int => some (.inr (.inl (some (.inl x))))
      | some .boolean => bif civ E x false (fun lo hi => zle 0 lo && zle hi 1) then some (.inr (.inl (some (.inl x)))) else none
      | _ => none)
    | _ => none)
  | .lreturn => (match st with
    | .inr (.inl x) :: [] => (match ret with
      | some .long => some (.inr (.inl (some (.inr (.inl x)))))
      | _ => none)
    | _ => none)
  | .areturn => (match st with
    | .inr (.inr x) :: [] => (match ret with
      | some (.object _) => some (.inr (.inl (some (.inr (.inr x)))))
      | _ => none)
    | _ => none)
  | .return_ => (match st with
    | [] => bif no_rt ret then some (.inr (.inl none)) else none
    | _ => none)
  | _ => none)
theorem mapL {α β : Type} {x : Option α} {f : α → β} {o : β} (h : x.map f = some o) : ∃ a, x = some a ∧ o = f a := by
  cases x with
  | none => cases h
  | some a => cases h; exact ⟨a, rfl, rfl⟩
