/-! arrays, fields -/
def scOK (scr : Bool) (L : List Nat) (σ : List Int) : Prop := scr = true → σ[1]? = some (L.length : Int) ∧ L.length ≤ 3072 ∧ ∀ v ∈ L, v < 4294967296
theorem scOK_xt {scr : Bool} {L : List Nat} {σ σ' : List Int} (h : xt σ σ') (g : scOK scr L σ) : scOK scr L σ' := fun e => ⟨h _ _ (g e).1, (g e).2⟩
def qvt (t : Nat) (a : qV) : Bool := match a with
  | .inl _ => Nat.ble t 14 || Nat.beq t 16
  | .inr (.inl _) => Nat.beq t 15
  | .inr (.inr _) => Nat.ble 17 t
theorem vt_k {H : qT} {σ : List Int} {a : qV} {v : rV} (h : vOK H σ a v) (t : Nat) : vt t v = qvt t a := by
  match a, h with
  | .inl x, ⟨z, _, _, h3⟩ => rw [h3]; rfl
  | .inr (.inl x), ⟨z, _, _, _, h4⟩ => rw [h4]; rfl
  | .inr (.inr none), h => have h : v = _ := h; rw [h]; rfl
  | .inr (.inr (some κ)), ⟨p, h1, _⟩ => rw [h1]; rfl
/-- what is known of a kind's cells lies within what lies in them -/
noncomputable def qcl (H : qT) (E : qE) (C : qC) (κ : Nat) (K : qKd) : Bool := match K.2.2.1 with
  | some p0 => lall (fun e => bif Nat.beq e.1.1 p0 then eclean H E e else true) C
  | none => noC H C κ
theorem qcl_ok {H : qT} {E : qE} {C : qC} {κ p j : Nat} {K : qKd} {a : qV} (hw : HW H) (hK : H.1[κ]? = some K) (hp : H.2[p]? = some κ) (h : qcl H E C κ K = true) (ha : kf C p j = some a) : eclean H E ((p, j), a) = true := by
  unfold qcl at h
  split at h
  · next p0 hp0 =>
    have e := hw κ K p0 hK hp0 p hp
    subst e
    have := lall_iff.mp h _ (kf_mem ha)
    dsimp only at this
    rw [Nat.beq_refl, cond_true] at this
    exact this
  · rw [noC_ok h hp] at ha
    cases ha
theorem qcl_sl {H : qT} {σ : List Int} {E : qE} {C : qC} {κ p j : Nat} {K : qKd} {v : rV} (he : eOK2 σ E) (hw : HW H) (hK : H.1[κ]? = some K) (hp : H.2[p]? = some κ) (h : qcl H E C κ K = true) (hs : slOK H σ C K p j v) : ∃ s, sdAt K j = some s ∧ sOK H s v := by
  unfold slOK at hs
  cases hk : kf C p j with
  | none => rw [hk] at hs; exact hs
  | some a =>
    rw [hk] at hs
    have hcl := qcl_ok hw hK hp h hk
    unfold eclean at hcl
    dsimp only at hcl
    rw [rget_eq, hp] at hcl
    dsimp only at hcl
    rw [rget_eq, hK] at hcl
    dsimp only at hcl
    split at hcl
    · next s hs1 => exact ⟨s, hs1, sclean_ok he hcl hs⟩
    · cases hcl
noncomputable def q_elem (H : qT) (E : qE) (C : qC) (κ : Nat) (K : qKd) (lo hi : Int) : Option (qE × qC × qV) := bif zeq lo hi then fN lo.toNat (fun n => qread H E C κ K n) else bif (Nat.ble 13 K.1 && qcl H E C κ K) then (match rget K.2.2.2 0 with
  | some s => (match qfresh E s with
    | (E', a) => some (E', C, a))
  | none => none) else none
theorem sd_arr {K : qKd} {j : Nat} (h : Nat.ble 13 K.1 = true) (hj : j < K.2.1) : sdAt K j = rget K.2.2.2 0 := by
  unfold sdAt
  have h1 := Nat.le_of_ble_eq_true h
  rw [blt_not (show ¬ K.1 < 13 by omega), cond_false, blt_of hj, cond_true]
theorem q_elem_ok {H : qT} {σ : List Int} {E E' : qE} {C C' : qC} {aw : List rC} {κ p : Nat} {K : qKd} {a : qV} {lo hi z : Int} (hw : HW H) (h : eOK2 σ E) (g : hOK H σ C aw) (hK : H.1[κ]? = some K) (hp : H.2[p]? = some κ) (h1 : lo ≤ z) (h2 : z ≤ hi) (h3 : z.toNat < K.2.1) (hr : q_elem H E C κ K lo hi = some (E', C', a)) : ∃ (q : rC) (v : rV) (σ' : List Int), aw[p]? = some q ∧ q.1 = K.1 ∧ q.2.length = K.2.1 ∧ q.2[z.toNat]? = some v ∧ xt σ σ' ∧ eOK2 σ' E' ∧ hOK H σ' C' aw ∧ vOK H σ' a v := by
  unfold q_elem at hr
  cases hc : zeq lo hi with
  | true =>
    have := zeq_iff.mp hc
    rw [hc, cond_true, fN_eq, show lo = z by omega] at hr
    exact qread_ok hw h g hK hp hr
  | false =>
    rw [hc, cond_false] at hr
    obtain ⟨q, q1, q2, q3, q4⟩ := hOK_at g hp hK
    have hlt : z.toNat < q.2.length := by rw [q3]; exact h3
    have hv := List.getElem?_eq_getElem hlt
    have hs := q4 z.toNat _ hv
    cases hb : (Nat.ble 13 K.1 && qcl H E C κ K) with
    | false => rw [hb] at hr; cases hr
    | true =>
      rw [hb, cond_true] at hr
      rw [Bool.and_eq_true] at hb
      obtain ⟨s, s1, s2⟩ := qcl_sl h hw hK hp hb.2 hs
      rw [sd_arr hb.1 h3] at s1
      rw [s1] at hr
      dsimp only at hr
      obtain ⟨σ', f1, f2, f3⟩ := qfresh_ok h s2
      cases hr
      exact ⟨q, q.2[z.toNat], σ', q1, q2, q3, hv, f1, f2, hOK_xt f1 g, f3⟩
theorem eI_nn {z : Int} (h : 0 ≤ z) (h2 : inR z) : eI z = z.toNat := by
  have := eI_cast z
  obtain ⟨a, b⟩ := h2
  omega
noncomputable def q_ald (H : qT) (scr : Bool) (t1 t2 : Nat) (E : qE) (C : qC) (pc : Nat) (lv : qK) (st : List qV) : Option (List qS) := match st with
  | .inl i :: .inr (.inr none) :: r => bif (scr && Nat.beq t1 14) then civ E i none (fun lo _ => bif (zle 0 lo && leQ E 6 i.1 1 (i.2 + 1)) then some (q_pI (-2147483648) 2147483647 E C (Nat.add pc 1) lv r) else none) else none
  | .inl i :: .inr (.inr (some κ)) :: r => (match rget H.1 κ with
    | some K => bif (Nat.beq K.1 t1 || Nat.beq K.1 t2) then civ E i none (fun lo hi => bif (zle 0 lo && zle (hi + 1) (Int.ofNat K.2.1)) then (match q_elem H E C κ K lo hi with
      | some (E', C', a) => bif qvt K.1 a then some [(E', C', Nat.add pc 1, lv, a :: r)] else none
      | none => none) else none) else none
    | none => none)
  | _ => none
theorem q_ald_ok {H : qT} {md : List (Nat × Nat)} {σ : List Int} {E : qE} {C : qC} {lv : qK} {st : List qV} {lw : rK} {sw : List rV} {D : rD} {aw : List rC} (hw : HW H) (hr : qrl H σ E C lv st lw sw D aw) {scr : Bool} {L : List Nat} (hsc : scOK scr L σ) {t1 t2 pc c z : Nat} {ss : List qS} (h : q_ald H scr t1 t2 E C pc lv st = some ss) : qnext H md σ aw c z ss (ald t1 t2 L [] pc lw sw D c z) := by
  obtain ⟨r1, r2, r3, r4, r5⟩ := hr
  unfold q_ald at h
  split at h
  · next i r =>
    obtain ⟨v1, u1, e1, ⟨iz, x1, x2, x3⟩, s1⟩ := stOK2_cons r4
    obtain ⟨v2, u2, e2, a2, s2⟩ := stOK2_cons s1
    subst e1
    subst e2
    subst x3
    have a2 : v2 = .inr (.inr (some 0)) := a2
    subst a2
    cases hc : (scr && Nat.beq t1 14) with
    | false => rw [hc] at h; cases h
    | true =>
      rw [hc, cond_true] at h
      rw [Bool.and_eq_true] at hc
      obtain ⟨lo, hi, b1, b2, b3⟩ := civ_ok (β := Option (List qS)) r1 x1 none
      rw [b3] at h
      cases hd : (zle 0 lo && leQ E 6 i.1 1 (i.2 + 1)) with
      | false => rw [hd] at h; cases h
      | true =>
        rw [hd, cond_true] at h
        cases h
        rw [Bool.and_eq_true, zle_iff] at hd
        obtain ⟨l1, l2, l3⟩ := hsc hc.1
        obtain ⟨y, y1, y2⟩ := x1
        have := leQ_ok r1 6 i.1 1 (i.2 + 1) y _ hd.2 y1 l1
        have hlt : iz.toNat < L.length := by omega
        unfold ald
        dsimp only
        rw [nd_eI, eI_nn (by omega) x2]
        dsimp only
        rw [rget_eq, List.getElem?_eq_getElem hlt]
        dsimp only
        have hv := l3 _ (List.getElem_mem hlt)
        have hn : iz.toNat ≤ 2147483647 := by omega
        rw [hc.2, Nat.ble_eq_true_of_le hn, Nat.ble_eq_true_of_le (Nat.le_of_lt_succ hv), Bool.and_self, Bool.and_self, cond_true]
        have hin := toInt_in (nI (L[iz.toNat]))
        have hcode : cN (nI (L[iz.toNat])) = L[iz.toNat] := by
          obtain ⟨g1, g2⟩ := sgn_in hv
          rw [← g2, nI_eI, cN_eI, ofInt_in g1]
        rw [← hcode]
        exact q_pI_ok ⟨r1, r2, r3, s2, r5⟩ hin.1 hin.2
  · next i κ r =>
    obtain ⟨v1, u1, e1, ⟨iz, x1, x2, x3⟩, s1⟩ := stOK2_cons r4
    obtain ⟨v2, u2, e2, ⟨p, p1, p2⟩, s2⟩ := stOK2_cons s1
    subst e1
    subst e2
    subst x3
    subst p1
    split at h
    · next K hK =>
      rw [rget_eq] at hK
      cases hc : (Nat.beq K.1 t1 || Nat.beq K.1 t2) with
      | false => rw [hc] at h; cases h
      | true =>
        rw [hc, cond_true] at h
        obtain ⟨lo, hi, b1, b2, b3⟩ := civ_ok (β := Option (List qS)) r1 x1 none
        rw [b3] at h
        cases hd : (zle 0 lo && zle (hi + 1) (Int.ofNat K.2.1)) with
        | false => rw [hd] at h; cases h
        | true =>
          rw [hd, cond_true] at h
          rw [Bool.and_eq_true, zle_iff, zle_iff] at hd
          have hd2 : hi + 1 ≤ (K.2.1 : Int) := hd.2
          split at h
          · next E' C' a hel =>
            obtain ⟨q, v, σ', q1, q2, q3, q4, q5, q6, q7, q8⟩ := q_elem_ok hw r1 r2 hK p2 b1 b2 (by omega) hel
            cases hv : qvt K.1 a with
            | false => rw [hv] at h; cases h
            | true =>
              rw [hv, cond_true] at h
              cases h
              unfold ald
              dsimp only
              rw [nd_eI, eI_nn (by omega) x2]
              dsimp only
              rw [r5.2 p, q1]
              dsimp only
              rw [q2, hc, cond_true, rget_eq, q4]
              dsimp only
              have hn : iz.toNat ≤ 2147483647 := by have := x2.2; omega
              rw [Nat.ble_eq_true_of_le hn, vt_k q8, hv, Bool.and_self, cond_true]
              exact qn_one rfl q5 (ag_refl H md aw) ⟨q6, q7, lvOK_xt q5 r3, ⟨q8, stOK2_xt q5 s2⟩, r5⟩
          · cases h
    · cases h
  · cases h
theorem ald_e {t1 t2 pc c z p : Nat} {L : List Nat} {lw : rK} {r : List rV} {D : rD} {aw : List rC} {iz : Int} {q : rC} {v : rV} (hr : rep D aw) (h0 : 0 ≤ iz) (hi : inR iz) (hq : aw[p]? = some q) (hv : q.2[iz.toNat]? = some v) (hvt : vt q.1 v = true) : ald t1 t2 L [] pc lw (.inl (eI iz) :: .inr (.inr (some (p + 1))) :: r) D c z = bif (Nat.beq q.1 t1 || Nat.beq q.1 t2) then some (.inl (Nat.add pc 1, lw, v :: r, D, c, z)) else none := by
  unfold ald
  dsimp only
  rw [nd_eI, eI_nn h0 hi]
  dsimp only
  rw [hr.2 p, hq]
  dsimp only
  rw [rget_eq, hv]
  dsimp only
  have hn : iz.toNat ≤ 2147483647 := by have := hi.2; omega
  rw [Nat.ble_eq_true_of_le hn, hvt, Bool.and_self, cond_true]
noncomputable def q_aald (H : qT) (E : qE) (C : qC) (pc : Nat) (lv : qK) (st : List qV) : Option (List qS) := match st with
  | .inl i :: .inr (.inr (some κ)) :: r => (match rget H.1 κ with
    | some K => bif (Nat.beq K.1 17 || Nat.beq K.1 18 || Nat.beq K.1 19) then civ E i none (fun lo hi => bif (zle 0 lo && zle (hi + 1) (Int.ofNat K.2.1)) then (match q_elem H E C κ K lo hi with
      | some (E', C', .inr (.inr (some κ'))) => some [(E', C', Nat.add pc 1, lv, .inr (.inr (some κ')) :: r)]
      | _ => none) else none) else none
    | none => none)
  | _ => none
theorem q_aald_ok {H : qT} {md : List (Nat × Nat)} {σ : List Int} {E : qE} {C : qC} {lv : qK} {st : List qV} {lw : rK} {sw : List rV} {D : rD} {aw : List rC} (hw : HW H) (hr : qrl H σ E C lv st lw sw D aw) {T : rT} {own : Nat} {ret : Option FieldType} {ini : Bool} {mc ms : Nat} {L : List Nat} {pc c z : Nat} {ss : List qS} (h : q_aald H E C pc lv st = some ss) : qnext H md σ aw c z ss (h_aald T own ret ini mc ms L [] pc lw sw D c z) := by
  obtain ⟨r1, r2, r3, r4, r5⟩ := hr
  unfold q_aald at h
  split at h
  · next i κ r =>
    obtain ⟨v1, u1, e1, ⟨iz, x1, x2, x3⟩, s1⟩ := stOK2_cons r4
    obtain ⟨v2, u2, e2, ⟨p, p1, p2⟩, s2⟩ := stOK2_cons s1
    subst e1
    subst e2
    subst x3
    subst p1
    split at h
    · next K hK =>
      rw [rget_eq] at hK
      cases hc : (Nat.beq K.1 17 || Nat.beq K.1 18 || Nat.beq K.1 19) with
      | false => rw [hc] at h; cases h
      | true =>
        rw [hc, cond_true] at h
        obtain ⟨lo, hi, b1, b2, b3⟩ := civ_ok (β := Option (List qS)) r1 x1 none
        rw [b3] at h
        cases hd : (zle 0 lo && zle (hi + 1) (Int.ofNat K.2.1)) with
        | false => rw [hd] at h; cases h
        | true =>
          rw [hd, cond_true] at h
          rw [Bool.and_eq_true, zle_iff, zle_iff] at hd
          have hd2 : hi + 1 ≤ (K.2.1 : Int) := hd.2
          split at h
          · next E' C' κ' hel =>
            cases h
            obtain ⟨q, v, σ', q1, q2, q3, q4, q5, q6, q7, p', v1', v2'⟩ := q_elem_ok hw r1 r2 hK p2 b1 b2 (by omega) hel
            subst v1'
            have hvt : vt q.1 (.inr (.inr (some (p' + 1)))) = true := by
              rw [q2]
              show Nat.ble 17 K.1 = true
              apply Nat.ble_eq_true_of_le
              simp only [Bool.or_eq_true] at hc
              rcases hc with (g | g) | g
              · have := Nat.eq_of_beq_eq_true g; omega
              · have := Nat.eq_of_beq_eq_true g; omega
              · have := Nat.eq_of_beq_eq_true g; omega
            have hgo : h_aald T own ret ini mc ms L [] pc lw (.inl (eI iz) :: .inr (.inr (some (p + 1))) :: u2) D c z = some (.inl (Nat.add pc 1, lw, .inr (.inr (some (p' + 1))) :: u2, D, c, z)) := by
              unfold h_aald
              rw [ald_e r5 (by omega) x2 q1 q4 hvt, ald_e r5 (by omega) x2 q1 q4 hvt]
              cases h17 : (Nat.beq q.1 17 || Nat.beq q.1 19) with
              | true => rfl
              | false =>
                have h18 : Nat.beq q.1 18 = true := by
                  rw [← q2] at hc
                  cases g1 : Nat.beq q.1 18 with
                  | true => rfl
                  | false =>
                    rw [g1, Bool.or_false] at hc
                    rw [h17] at hc
                    cases hc
                rw [h18]
                rfl
            rw [hgo]
            exact qn_one rfl q5 (ag_refl H md aw) ⟨q6, q7, lvOK_xt q5 r3, ⟨⟨p', rfl, v2'⟩, stOK2_xt q5 s2⟩, r5⟩
          · cases h
    · cases h
  · cases h
noncomputable def qokel (t : Nat) (E : qE) (a : qV) : Bool := match a with
  | .inl x => Nat.beq t 14 || (Nat.beq t 16 && civ E x false (fun lo hi => zle 0 lo && zle hi 1)) || (Nat.beq t 13 && civ E x false (fun lo hi => zle (-128) lo && zle hi 127))
  | .inr (.inl _) => Nat.beq t 15
  | _ => false
theorem qokel_ok {H : qT} {σ : List Int} {E : qE} (h : eOK2 σ E) {t : Nat} {a : qV} {v : rV} (hv : vOK H σ a v) (ho : qokel t E a = true) : ok_el t v = true := by
  match a, hv, ho with
  | .inl x, ⟨z, z1, z2, z3⟩, ho =>
    subst z3
    have ho : (Nat.beq t 14 || (Nat.beq t 16 && civ E x false (fun lo hi => zle 0 lo && zle hi 1)) || (Nat.beq t 13 && civ E x false (fun lo hi => zle (-128) lo && zle hi 127))) = true := ho
    obtain ⟨lo, hi, b1, b2, b3⟩ := civ_ok h z1 false
    rw [b3, b3] at ho
    simp only [Bool.or_eq_true, Bool.and_eq_true, zle_iff] at ho
    show (Nat.beq t 14 || (Nat.beq t 16 && Nat.ble (eI z) 1) || (Nat.beq t 13 && (Nat.ble (eI z) 127 || (Nat.ble 4294967168 (eI z) && Nat.ble (eI z) 4294967295)))) = true
    have hc := eI_cast z
    rcases ho with (g | ⟨g1, g2, g3⟩) | ⟨g1, g2, g3⟩
    · rw [g]; rfl
    · rw [g1, Nat.ble_eq_true_of_le (show eI z ≤ 1 by omega)]; simp
    · rw [g1]
      by_cases hz : 0 ≤ z
      · rw [Nat.ble_eq_true_of_le (show eI z ≤ 127 by omega)]; simp
      · rw [eI_le, Nat.ble_eq_true_of_le (show 4294967168 ≤ eI z by omega)]; simp
  | .inr (.inl x), ⟨z, _, _, _, z3⟩, ho => subst z3; exact ho
noncomputable def q_ast (H : qT) (md : List (Nat × Nat)) (t1 t2 : Nat) (E : qE) (C : qC) (pc : Nat) (lv : qK) (st : List qV) : Option (List qS) := match st with
  | a :: .inl i :: .inr (.inr (some κ)) :: r => (match rget H.1 κ with
    | some K => bif ((Nat.beq K.1 t1 || Nat.beq K.1 t2) && qokel K.1 E a) then civ E i none (fun lo hi => bif (zle 0 lo && zle (hi + 1) (Int.ofNat K.2.1)) then (bif zeq lo hi then (match fN lo.toNat (fun n => qwrite H md E C κ K n a) with
        | some C' => some [(E, C', Nat.add pc 1, lv, r)]
        | none => none) else (match rget K.2.2.2 0 with
        | some s => bif (Nat.ble 13 K.1 && (sclean E s a && mdin md κ 9999)) then (match K.2.2.1 with
          | some p0 => (match cdrop H E (fun p j => !(Nat.beq p p0 && (zle lo (Int.ofNat j) && zle (Int.ofNat j) hi))) C with
            | some C' => some [(E, C', Nat.add pc 1, lv, r)]
            | none => none)
          | none => bif noC H C κ then some [(E, C, Nat.add pc 1, lv, r)] else none) else none
        | none => none)) else none) else none
    | none => none)
  | _ => none
theorem mdin_all {md : List (Nat × Nat)} {κ j : Nat} (h : mdin md κ 9999 = true) : mdin md κ j = true := by
  obtain ⟨e, e1, e2⟩ := lany_iff.mp h
  rw [Bool.or_self] at e2
  have := bb2.mp e2
  exact lany_iff.mpr ⟨e, e1, by rw [this.1, this.2, Nat.beq_refl, Nat.beq_refl]; simp⟩
theorem ast_e {t1 t2 pc c z p : Nat} {lw : rK} {r : List rV} {D : rD} {aw : List rC} {iz : Int} {q : rC} {v : rV} (hr : rep D aw) (h0 : 0 ≤ iz) (hi : inR iz) (hq : aw[p]? = some q) (hl : iz.toNat < q.2.length) (ht : (Nat.beq q.1 t1 || Nat.beq q.1 t2) = true) (ho : ok_el q.1 v = true) : ∃ D', rep D' (aw.set p (q.1, q.2.set iz.toNat v)) ∧ ast t1 t2 [] pc lw (v :: .inl (eI iz) :: .inr (.inr (some (p + 1))) :: r) D c z = some (.inl (Nat.add pc 1, lw, r, D', c, z)) := by
  obtain ⟨D', d1, d2⟩ := rep_set (β := Option rO) hr (List.getElem?_eq_some_iff.mp hq).1 (q.1, q.2.set iz.toNat v)
  refine ⟨D', d1, ?_⟩
  unfold ast
  dsimp only
  rw [nd_eI, eI_nn h0 hi]
  dsimp only
  rw [hr.2 p, hq]
  dsimp only
  have hn : iz.toNat ≤ 2147483647 := by have := hi.2; omega
  rw [ht, ho, blt_of hl, Nat.ble_eq_true_of_le hn, Bool.and_self, Bool.and_self, Bool.and_self, cond_true, rset_eq, d2]
theorem q_ast_ok {H : qT} {md : List (Nat × Nat)} {σ : List Int} {E : qE} {C : qC} {lv : qK} {st : List qV} {lw : rK} {sw : List rV} {D : rD} {aw : List rC} (hw : HW H) (hr : qrl H σ E C lv st lw sw D aw) {t1 t2 pc c z : Nat} {ss : List qS} (h : q_ast H md t1 t2 E C pc lv st = some ss) : qnext H md σ aw c z ss (ast t1 t2 [] pc lw sw D c z) := by
  obtain ⟨r1, r2, r3, r4, r5⟩ := hr
  unfold q_ast at h
  split at h
  · next a i κ r =>
    obtain ⟨v0, u0, e0, a0, s0⟩ := stOK2_cons r4
    obtain ⟨v1, u1, e1, ⟨iz, x1, x2, x3⟩, s1⟩ := stOK2_cons s0
    obtain ⟨v2, u2, e2, ⟨p, p1, p2⟩, s2⟩ := stOK2_cons s1
    subst e0
    subst e1
    subst e2
    subst x3
    subst p1
    split at h
    · next K hK =>
      rw [rget_eq] at hK
      cases hc : ((Nat.beq K.1 t1 || Nat.beq K.1 t2) && qokel K.1 E a) with
      | false => rw [hc] at h; cases h
      | true =>
        rw [hc, cond_true] at h
        rw [Bool.and_eq_true] at hc
        obtain ⟨lo, hi, b1, b2, b3⟩ := civ_ok (β := Option (List qS)) r1 x1 none
        rw [b3] at h
        cases hd : (zle 0 lo && zle (hi + 1) (Int.ofNat K.2.1)) with
        | false => rw [hd] at h; cases h
        | true =>
          rw [hd, cond_true] at h
          rw [Bool.and_eq_true, zle_iff, zle_iff] at hd
          have hd2 : hi + 1 ≤ (K.2.1 : Int) := hd.2
          have hel := qokel_ok r1 a0 hc.2
          cases hz : zeq lo hi with
          | true =>
            rw [hz, cond_true, fN_eq] at h
            have hz' := zeq_iff.mp hz
            have hlz : lo = iz := by omega
            rw [hlz] at h
            split at h
            · next C' hC =>
              cases h
              obtain ⟨q, q1, q2, q3, q4, q5⟩ := qwrite_ok hw r1 r2 hK p2 a0 hC
              obtain ⟨D', d1, d2⟩ := ast_e (t1 := t1) (t2 := t2) (pc := pc) (c := c) (z := z) (lw := lw) (r := u2) r5 (by omega) x2 q1 q3 (by rw [q2]; exact hc.1) (by rw [q2]; exact hel)
              rw [d2]
              exact qn_one rfl (xt_refl σ) q5 ⟨r1, q4, r3, s2, d1⟩
            · cases h
          | false =>
            rw [hz, cond_false] at h
            split at h
            · next s hs =>
              cases hf : (Nat.ble 13 K.1 && (sclean E s a && mdin md κ 9999)) with
              | false => rw [hf] at h; cases h
              | true =>
                rw [hf, cond_true] at h
                rw [Bool.and_eq_true, Bool.and_eq_true] at hf
                obtain ⟨f1, f2, f3⟩ := hf
                obtain ⟨q, q1, q2, q3, q4⟩ := hOK_at r2 p2 hK
                have hlt : iz.toNat < q.2.length := by rw [q3]; omega
                obtain ⟨D', d1, d2⟩ := ast_e (t1 := t1) (t2 := t2) (pc := pc) (c := c) (z := z) (lw := lw) (r := u2) r5 (by omega) x2 q1 hlt (by rw [q2]; exact hc.1) (by rw [q2]; exact hel)
                rw [d2]
                have hag : ag H md aw (aw.set p (q.1, q.2.set iz.toNat v0)) := ag_set q1 p2 (fun j hj => by rw [mdin_all f3] at hj; cases hj)
                have hsv : ∃ s', sdAt K iz.toNat = some s' ∧ sOK H s' v0 := ⟨s, by rw [sd_arr f1 (by omega)]; exact hs, sclean_ok r1 f2 a0⟩
                split at h
                · next p0 hp0 =>
                  have e := hw κ K p0 hK hp0 p p2
                  subst e
                  split at h
                  · next C' hC =>
                    cases h
                    obtain ⟨c1, c2⟩ := cdrop_ok r1 r2 hC
                    refine qn_one rfl (xt_refl σ) hag ⟨r1, hOK_set c1 q1 p2 hK (by simp) (fun j v hv => ?_) (fun _ _ _ => rfl), r3, s2, d1⟩
                    rw [List.getElem?_set] at hv
                    by_cases ej : iz.toNat = j
                    · subst ej
                      rw [if_pos rfl, if_pos hlt] at hv
                      cases hv
                      unfold slOK
                      have hk : kf C' p iz.toNat = none := by
                        have hzl : (Int.ofNat iz.toNat : Int) = iz := by show (iz.toNat : Int) = iz; omega
                        rw [c2, Nat.beq_refl, hzl, zle_iff.mpr b1, zle_iff.mpr b2]
                        rfl
                      rw [hk]
                      exact hsv
                    · rw [if_neg ej] at hv
                      obtain ⟨q', a1', a2', a3', a4'⟩ := hOK_at c1 p2 hK
                      rw [q1] at a1'
                      cases a1'
                      exact a4' j v hv
                  · cases h
                · cases hn : noC H C κ with
                  | false => rw [hn] at h; cases h
                  | true =>
                    rw [hn, cond_true] at h
                    cases h
                    refine qn_one rfl (xt_refl σ) hag ⟨r1, hOK_set r2 q1 p2 hK (by simp) (fun j v hv => ?_) (fun _ _ _ => rfl), r3, s2, d1⟩
                    rw [List.getElem?_set] at hv
                    by_cases ej : iz.toNat = j
                    · subst ej
                      rw [if_pos rfl, if_pos hlt] at hv
                      cases hv
                      unfold slOK
                      rw [noC_ok hn p2]
                      exact hsv
                    · rw [if_neg ej] at hv
                      exact q4 j v hv
            · cases h
    · cases h
  · cases h
