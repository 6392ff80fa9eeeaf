/-! fields, lengths, copies, calls, returns -/
def qsnd (H : qT) (md : List (Nat × Nat)) (σ : List Int) (aw : List rC) (c z : Nat) (o : qO) (r : Option rO) : Prop := match o with
  | .inl ss => qnext H md σ aw c z ss r
  | .inr (.inl none) => r = some (.inr (.inr (.inr (.inl none))))
  | .inr (.inl (some a)) => ∃ v, r = some (.inr (.inr (.inr (.inl (some v))))) ∧ vOK H σ a v
  | .inr (.inr (mi, As, rest)) => ∃ Aw rw, r = some (.inr (.inr (.inr (.inr (mi, Aw, rw))))) ∧ stOK2 H σ As Aw ∧ stOK2 H σ rest rw
noncomputable def q_alen (H : qT) (scr : Bool) (E : qE) (C : qC) (pc : Nat) (lv : qK) (st : List qV) : Option (List qS) := match st with
  | .inr (.inr none) :: r => bif scr then some [(E, C, Nat.add pc 1, lv, .inl (1, 0) :: r)] else none
  | .inr (.inr (some κ)) :: r => (match rget H.1 κ with
    | some K => bif (Nat.ble 13 K.1 && (Nat.ble K.1 19 && Nat.ble K.2.1 2147483647)) then some [(E, C, Nat.add pc 1, lv, .inl (0, Int.ofNat K.2.1) :: r)] else none
    | none => none)
  | _ => none
theorem q_alen_ok {H : qT} {md : List (Nat × Nat)} {σ : List Int} {E : qE} {C : qC} {lv : qK} {st : List qV} {lw : rK} {sw : List rV} {D : rD} {aw : List rC} (hr : qrl H σ E C lv st lw sw D aw) {scr : Bool} {T : rT} {own : Nat} {ret : Option FieldType} {ini : Bool} {mc ms : Nat} {L : List Nat} (hsc : scOK scr L σ) {pc c z : Nat} {ss : List qS} (h : q_alen H scr E C pc lv st = some ss) : qnext H md σ aw c z ss (h_alen T own ret ini mc ms L [] pc lw sw D c z) := by
  obtain ⟨r1, r2, r3, r4, r5⟩ := hr
  unfold q_alen at h
  split at h
  · next r =>
    obtain ⟨v1, u1, e1, a1, s1⟩ := stOK2_cons r4
    subst e1
    have a1 : v1 = .inr (.inr (some 0)) := a1
    subst a1
    cases hb : scr with
    | false => rw [hb] at h; cases h
    | true =>
      rw [hb, cond_true] at h
      cases h
      obtain ⟨l1, l2, l3⟩ := hsc hb
      unfold h_alen
      dsimp only
      rw [fN_eq]
      have hin : inR (L.length : Int) := ⟨by omega, by omega⟩
      refine qn_one rfl (xt_refl σ) (ag_refl H md aw) ⟨r1, r2, r3, ⟨⟨(L.length : Int), ⟨_, l1, (Int.add_zero _).symm⟩, hin, ?_⟩, s1⟩, r5⟩
      rw [eI_nn (by omega) hin]
      simp
  · next κ r =>
    obtain ⟨v1, u1, e1, ⟨p, p1, p2⟩, s1⟩ := stOK2_cons r4
    subst e1
    subst p1
    split at h
    · next K hK =>
      rw [rget_eq] at hK
      cases hc : (Nat.ble 13 K.1 && (Nat.ble K.1 19 && Nat.ble K.2.1 2147483647)) with
      | false => rw [hc] at h; cases h
      | true =>
        rw [hc, cond_true] at h
        cases h
        rw [Bool.and_eq_true, Bool.and_eq_true] at hc
        obtain ⟨c1, c2, c3⟩ := hc
        have c3' := Nat.le_of_ble_eq_true c3
        obtain ⟨q, q1, q2, q3, q4⟩ := hOK_at r2 p2 hK
        unfold h_alen
        dsimp only
        rw [r5.2 p, q1]
        dsimp only
        rw [q2, q3, c1, c2, Nat.ble_eq_true_of_le (show K.2.1 ≤ 4294967295 by omega), Bool.and_self, Bool.and_self, cond_true, fN_eq]
        have hin : inR (Int.ofNat K.2.1) := ⟨by show _ ≤ (K.2.1 : Int); omega, by show (K.2.1 : Int) ≤ _; omega⟩
        refine qn_one rfl (xt_refl σ) (ag_refl H md aw) ⟨r1, r2, r3, ⟨⟨_, i0 r1 _, hin, ?_⟩, s1⟩, r5⟩
        rw [eI_nn (by show 0 ≤ (K.2.1 : Int); omega) hin]
        rfl
    · cases h
  · cases h
noncomputable def q_getf (H : qT) (own i : Nat) (E : qE) (C : qC) (pc : Nat) (lv : qK) (st : List qV) : Option (List qS) := match st with
  | .inr (.inr (some κ)) :: r => (match kf tF own i with
    | some (ci, k, _) => (match rget H.1 κ with
      | some K => bif Nat.beq K.1 ci then (match qread H E C κ K k with
        | some (E', C', a) => some [(E', C', Nat.add pc 3, lv, a :: r)]
        | none => none) else none
      | none => none)
    | none => none)
  | _ => none
theorem q_getf_ok {H : qT} {md : List (Nat × Nat)} {σ : List Int} {E : qE} {C : qC} {lv : qK} {st : List qV} {lw : rK} {sw : List rV} {D : rD} {aw : List rC} (hw : HW H) (hr : qrl H σ E C lv st lw sw D aw) {own : Nat} {ret : Option FieldType} {ini : Bool} {mc ms : Nat} {L : List Nat} {i pc c z : Nat} {ss : List qS} (h : q_getf H own i E C pc lv st = some ss) : qnext H md σ aw c z ss (h_getf i tT own ret ini mc ms L [] pc lw sw D c z) := by
  obtain ⟨r1, r2, r3, r4, r5⟩ := hr
  unfold q_getf at h
  split at h
  · next κ r =>
    obtain ⟨v1, u1, e1, ⟨p, p1, p2⟩, s1⟩ := stOK2_cons r4
    subst e1
    subst p1
    split at h
    · next ci k fx hk =>
      split at h
      · next K hK =>
        rw [rget_eq] at hK
        cases hc : Nat.beq K.1 ci with
        | false => rw [hc] at h; cases h
        | true =>
          rw [hc, cond_true] at h
          split at h
          · next E' C' a hrd =>
            cases h
            obtain ⟨q, v, σ', q1, q2, q3, q4, q5, q6, q7, q8⟩ := qread_ok hw r1 r2 hK p2 hrd
            unfold h_getf
            dsimp only
            rw [show kf tT.1 own i = some (ci, k, fx) from hk]
            dsimp only
            rw [r5.2 p, q1]
            dsimp only
            rw [q2, hc, cond_true, rget_eq, q4]
            dsimp only
            exact qn_one rfl q5 (ag_refl H md aw) ⟨q6, q7, lvOK_xt q5 r3, ⟨q8, stOK2_xt q5 s1⟩, r5⟩
          · cases h
      · cases h
    · cases h
  · cases h
noncomputable def qokfi (t : Nat) (E : qE) (a : qV) : Bool := match a with
  | .inl x => Nat.beq t 0 || (Nat.beq t 1 && civ E x false (fun lo hi => zle 0 lo && zle hi 1))
  | .inr (.inl _) => Nat.beq t 2
  | _ => false
theorem qokfi_ok {H : qT} {σ : List Int} {E : qE} (h : eOK2 σ E) {t : Nat} {a : qV} {v : rV} (hv : vOK H σ a v) (ho : qokfi t E a = true) : ok_fi t v = true := by
  match a, hv, ho with
  | .inl x, ⟨z, z1, z2, z3⟩, ho =>
    subst z3
    have ho : (Nat.beq t 0 || (Nat.beq t 1 && civ E x false (fun lo hi => zle 0 lo && zle hi 1))) = true := ho
    obtain ⟨lo, hi, b1, b2, b3⟩ := civ_ok h z1 false
    rw [b3] at ho
    simp only [Bool.or_eq_true, Bool.and_eq_true, zle_iff] at ho
    show (Nat.beq t 0 || (Nat.beq t 1 && Nat.ble (eI z) 1)) = true
    have hc := eI_cast z
    rcases ho with g | ⟨g1, g2, g3⟩
    · rw [g]; rfl
    · rw [g1, Nat.ble_eq_true_of_le (show eI z ≤ 1 by omega)]; simp
  | .inr (.inl x), ⟨z, _, _, _, z3⟩, ho => subst z3; exact ho
noncomputable def q_putf (H : qT) (md : List (Nat × Nat)) (own i : Nat) (E : qE) (C : qC) (pc : Nat) (lv : qK) (st : List qV) : Option (List qS) := match st with
  | a :: .inr (.inr (some κ)) :: r => (match kf tF own i with
    | some (ci, k, fi, kd) => (match rget H.1 κ with
      | some K => bif (Nat.beq K.1 ci && (qokfi kd E a && Nat.beq fi 0)) then (match qwrite H md E C κ K k a with
        | some C' => some [(E, C', Nat.add pc 3, lv, r)]
        | none => none) else none
      | none => none)
    | none => none)
  | _ => none
theorem q_putf_ok {H : qT} {md : List (Nat × Nat)} {σ : List Int} {E : qE} {C : qC} {lv : qK} {st : List qV} {lw : rK} {sw : List rV} {D : rD} {aw : List rC} (hw : HW H) (hr : qrl H σ E C lv st lw sw D aw) {own : Nat} {ret : Option FieldType} {ini : Bool} {mc ms : Nat} {L : List Nat} {i pc c z : Nat} {ss : List qS} (h : q_putf H md own i E C pc lv st = some ss) : qnext H md σ aw c z ss (h_putf i tT own ret ini mc ms L [] pc lw sw D c z) := by
  obtain ⟨r1, r2, r3, r4, r5⟩ := hr
  unfold q_putf at h
  split at h
  · next a κ r =>
    obtain ⟨v0, u0, e0, a0, s0⟩ := stOK2_cons r4
    obtain ⟨v1, u1, e1, ⟨p, p1, p2⟩, s1⟩ := stOK2_cons s0
    subst e0
    subst e1
    subst p1
    split at h
    · next ci k fi kd hk =>
      split at h
      · next K hK =>
        rw [rget_eq] at hK
        cases hc : (Nat.beq K.1 ci && (qokfi kd E a && Nat.beq fi 0)) with
        | false => rw [hc] at h; cases h
        | true =>
          rw [hc, cond_true] at h
          rw [Bool.and_eq_true, Bool.and_eq_true] at hc
          obtain ⟨c1, c2, c3⟩ := hc
          split at h
          · next C' hC =>
            cases h
            obtain ⟨q, q1, q2, q3, q4, q5⟩ := qwrite_ok hw r1 r2 hK p2 a0 hC
            obtain ⟨D', d1, d2⟩ := rep_set (β := Option rO) r5 (List.getElem?_eq_some_iff.mp q1).1 (q.1, q.2.set k v0)
            unfold h_putf
            dsimp only
            rw [show kf tT.1 own i = some (ci, k, fi, kd) from hk]
            dsimp only
            rw [r5.2 p, q1]
            dsimp only
            rw [q2, c1, qokfi_ok r1 a0 c2, blt_of q3, c3, Bool.true_or, Bool.and_self, Bool.and_self, Bool.and_self, cond_true, rset_eq, ← q2, d2]
            exact qn_one rfl (xt_refl σ) q5 ⟨r1, q4, r3, s1, d1⟩
          · cases h
      · cases h
    · cases h
  · cases h
def qcsum (st : List qV) : Nat := (st.map kct).sum
theorem csum_k {H : qT} {σ : List Int} : ∀ {st : List qV} {sw : List rV}, stOK2 H σ st sw → csum sw = qcsum st
  | [], [], _ => rfl
  | a :: s, v :: t, h => by
    have ih := csum_k h.2
    unfold csum qcsum at *
    rw [List.map_cons, List.map_cons, List.sum_cons, List.sum_cons, ih, ct_k h.1]
  | [], _ :: _, h => h.elim
  | _ :: _, [], h => h.elim
noncomputable def q_copy (H : qT) (md : List (Nat × Nat)) (E : qE) (C : qC) (pc : Nat) (lv : qK) (st : List qV) : Option (List qS) := match st with
  | .inl n :: .inl dp :: .inr (.inr (some κd)) :: .inl sp :: .inr (.inr (some κs)) :: r => (match rget H.1 κd with
    | some Kd => (match rget H.1 κs with
      | some Ks => (match rget Kd.2.2.2 0 with
        | some (.inl rd) => (match rget Ks.2.2.2 0 with
          | some (.inl rs) => civ E n none (fun ln hn => civ E dp none (fun ld hd => civ E sp none (fun ls hs => bif (Nat.beq Kd.1 14 && (Nat.beq Ks.1 14 && (zeq ln hn && (zeq ln (Int.ofNat Kd.2.1) && (Nat.beq Kd.2.1 Ks.2.1 && (zeq ld 0 && (zeq hd 0 && (zeq ls 0 && (zeq hs 0 && (Nat.ble (qcsum r) 8 && (mdin md κd 9999 && (qcl H E C κs Ks && (zle rd.1 rs.1 && zle rs.2 rd.2))))))))))))) then (match Kd.2.2.1 with
              | some p0 => cfil (fun p _ => !(Nat.beq p p0)) C (fun C' => some [(E, C', Nat.add pc 3, lv, r)])
              | none => bif noC H C κd then some [(E, C, Nat.add pc 3, lv, r)] else none) else none)))
          | _ => none)
        | _ => none)
      | none => none)
    | none => none)
  | _ => none
theorem q_copy_ok {H : qT} {md : List (Nat × Nat)} {σ : List Int} {E : qE} {C : qC} {lv : qK} {st : List qV} {lw : rK} {sw : List rV} {D : rD} {aw : List rC} (hw : HW H) (hr : qrl H σ E C lv st lw sw D aw) {pc c z : Nat} {ss : List qS} (h : q_copy H md E C pc lv st = some ss) : qnext H md σ aw c z ss (acopy [] pc lw sw D c z) := by
  obtain ⟨r1, r2, r3, r4, r5⟩ := hr
  unfold q_copy at h
  split at h
  · next n dp κd sp κs r =>
    obtain ⟨v0, u0, e0, ⟨nz, n1, n2, n3⟩, s0⟩ := stOK2_cons r4
    obtain ⟨v1, u1, e1, ⟨dz, d1, d2, d3⟩, s1⟩ := stOK2_cons s0
    obtain ⟨v2, u2, e2, ⟨pd, pd1, pd2⟩, s2⟩ := stOK2_cons s1
    obtain ⟨v3, u3, e3, ⟨sz, sz1, sz2, sz3⟩, s3⟩ := stOK2_cons s2
    obtain ⟨v4, u4, e4, ⟨ps, ps1, ps2⟩, s4⟩ := stOK2_cons s3
    subst e0
    subst e1
    subst e2
    subst e3
    subst e4
    subst n3
    subst d3
    subst pd1
    subst sz3
    subst ps1
    split at h
    · next Kd hKd =>
      rw [rget_eq] at hKd
      split at h
      · next Ks hKs =>
        rw [rget_eq] at hKs
        split at h
        · next rd hrd =>
          split at h
          · next rs hrs =>
            obtain ⟨ln, hn, a1, a2, a3⟩ := civ_ok (β := Option (List qS)) r1 n1 none
            obtain ⟨ld, hd, b1, b2, b3⟩ := civ_ok (β := Option (List qS)) r1 d1 none
            obtain ⟨ls, hs, c1, c2, c3⟩ := civ_ok (β := Option (List qS)) r1 sz1 none
            rw [a3, b3, c3] at h
            cases hc : (Nat.beq Kd.1 14 && (Nat.beq Ks.1 14 && (zeq ln hn && (zeq ln (Int.ofNat Kd.2.1) && (Nat.beq Kd.2.1 Ks.2.1 && (zeq ld 0 && (zeq hd 0 && (zeq ls 0 && (zeq hs 0 && (Nat.ble (qcsum r) 8 && (mdin md κd 9999 && (qcl H E C κs Ks && (zle rd.1 rs.1 && zle rs.2 rd.2))))))))))))) with
            | false => rw [hc] at h; cases h
            | true =>
              rw [hc, cond_true] at h
              simp only [Bool.and_eq_true, zle_iff, zeq_iff] at hc
              obtain ⟨k1, k2, k3, k4, k5, k6, k7, k8, k9, k10, k11, k12, k13, k14⟩ := hc
              have k1' := Nat.eq_of_beq_eq_true k1
              have k2' := Nat.eq_of_beq_eq_true k2
              have k5' := Nat.eq_of_beq_eq_true k5
              have k4' : ln = (Kd.2.1 : Int) := k4
              obtain ⟨q, q1, q2, q3, q4⟩ := hOK_at r2 pd2 hKd
              obtain ⟨o, o1, o2, o3, o4⟩ := hOK_at r2 ps2 hKs
              obtain ⟨D', g1, g2⟩ := rep_set (β := Option rO) r5 (List.getElem?_eq_some_iff.mp q1).1 (14, o.2)
              have hag : ag H md aw (aw.set pd (14, o.2)) := ag_set q1 pd2 (fun j hj => by rw [mdin_all k11] at hj; cases hj)
              have hgo : acopy [] pc lw (.inl (eI nz) :: .inl (eI dz) :: .inr (.inr (some (pd + 1))) :: .inl (eI sz) :: .inr (.inr (some (ps + 1))) :: u4) D c z = some (.inl (Nat.add pc 3, lw, u4, D', c, z)) := by
                unfold acopy
                dsimp only
                rw [nd_eI, nd_eI, nd_eI, eI_nn (show 0 ≤ nz by omega) n2, eI_nn (show 0 ≤ dz by omega) d2, eI_nn (show 0 ≤ sz by omega) sz2]
                dsimp only
                rw [r5.2 pd, r5.2 ps, q1, o1]
                dsimp only
                rw [q2, o2, k1, k2, q3, o3, show nz.toNat = Kd.2.1 by omega, ← k5', csum_k s4, k10, show sz.toNat = 0 by omega, show dz.toNat = 0 by omega, Nat.beq_refl, Nat.ble_eq_true_of_le (show Kd.2.1 ≤ 2147483647 by have := n2.2; omega)]
                simp only [Nat.beq_refl, Bool.and_self, cond_true]
                rw [g2]
              rw [hgo]
              have hel : ∀ (j : Nat) (v : rV), o.2[j]? = some v → ∃ s, sdAt Kd j = some s ∧ sOK H s v := by
                intro j v hv
                have hj : j < Kd.2.1 := by
                  have := (List.getElem?_eq_some_iff.mp hv).1
                  omega
                obtain ⟨s, t1, t2⟩ := qcl_sl r1 hw hKs ps2 k12 (o4 j v hv)
                rw [sd_arr (by rw [k2']; rfl) (by omega), hrs] at t1
                cases t1
                obtain ⟨w, w1, w2, w3, w4⟩ := t2
                exact ⟨.inl rd, by rw [sd_arr (by rw [k1']; rfl) hj]; exact hrd, w, w1, w2, by omega, by omega⟩
              have e14 : (14, o.2) = (q.1, o.2) := by rw [q2, k1']
              rw [e14] at hag g1
              split at h
              · next p0 hp0 =>
                have e := hw κd Kd p0 hKd hp0 pd pd2
                subst e
                rw [cfil_eq] at h
                cases h
                refine qn_one rfl (xt_refl σ) hag ⟨r1, hOK_set r2 q1 pd2 hKd (by omega) (fun j v hv => ?_) (fun p' j hne => ?_), r3, s4, g1⟩
                · unfold slOK
                  rw [kf_filter (fun p _ => !(Nat.beq p pd)) C, Nat.beq_refl]
                  exact hel j v hv
                · rw [kf_filter (fun p _ => !(Nat.beq p pd)) C, beq_ne hne]
                  rfl
              · cases hn : noC H C κd with
                | false => rw [hn] at h; cases h
                | true =>
                  rw [hn, cond_true] at h
                  cases h
                  refine qn_one rfl (xt_refl σ) hag ⟨r1, hOK_set r2 q1 pd2 hKd (by omega) (fun j v hv => ?_) (fun _ _ _ => rfl), r3, s4, g1⟩
                  unfold slOK
                  rw [noC_ok hn pd2]
                  exact hel j v hv
          · cases h
        · cases h
      · cases h
    · cases h
  · cases h
/-! calls -/
noncomputable def qcut (n : Nat) (st : List qV) (acc : List qV) : Option (List qV × List qV) := Nat.rec (motive := fun _ => List qV → List qV → Option (List qV × List qV)) (fun st acc => some (acc, st)) (fun _ ih st acc => match st with
  | v :: r => ih r (v :: acc)
  | [] => none) n st acc
theorem qcut_ok {H : qT} {σ : List Int} : ∀ (n : Nat) {st acc As r : List qV} {sw aw : List rV}, stOK2 H σ st sw → stOK2 H σ acc aw → qcut n st acc = some (As, r) → ∃ Aw rw, cut n sw aw = some (Aw, rw) ∧ stOK2 H σ As Aw ∧ stOK2 H σ r rw := by
  intro n
  induction n with
  | zero =>
    intro st acc As r sw aw h1 h2 h
    have h : some (acc, st) = some (As, r) := h
    cases h
    exact ⟨aw, sw, rfl, h2, h1⟩
  | succ n ih =>
    intro st acc As r sw aw h1 h2 h
    match st, sw, h1, h with
    | v :: t, w :: u, h1, h => exact ih (acc := v :: acc) (aw := w :: aw) h1.2 ⟨h1.1, h2⟩ h
noncomputable def q_call (H : qT) (md : List (Nat × Nat)) (own idx kind : Nat) (E : qE) (C : qC) (pc : Nat) (lv : qK) (st : List qV) : Option qO := match kf tA own idx with
  | some (k, mi, np, rc) => (match k with
    | 0 => bif Nat.beq kind 0 then (match qcut np st [] with
      | some (As, .inr (.inr (some κ)) :: r) => (match rget H.1 κ with
        | some K => bif (Nat.beq K.1 rc && Nat.ble (qcsum r) 8) then some (.inr (.inr (mi, .inr (.inr (some κ)) :: As, r))) else none
        | none => none)
      | _ => none) else none
    | 1 => bif Nat.beq kind 1 then (match qcut np st [] with
      | some (As, r) => bif Nat.ble (qcsum r) 8 then some (.inr (.inr (mi, As, r))) else none
      | none => none) else none
    | 5 => bif Nat.beq kind 1 then (match q_copy H md E C pc lv st with
      | some ss => some (.inl ss)
      | none => none) else none
    | _ => none)
  | none => none
theorem q_call_ok {H : qT} {md : List (Nat × Nat)} {σ : List Int} {E : qE} {C : qC} {lv : qK} {st : List qV} {lw : rK} {sw : List rV} {D : rD} {aw : List rC} (hw : HW H) (hr : qrl H σ E C lv st lw sw D aw) {own idx kind pc c z : Nat} {o : qO} (h : q_call H md own idx kind E C pc lv st = some o) : qsnd H md σ aw c z o (acall tT own idx kind [] pc lw sw D c z) := by
  unfold q_call at h
  unfold acall
  split at h
  · next k mi np rc hk =>
    rw [show kf tT.2.2.2 own idx = some (k, mi, np, rc) from hk]
    dsimp only
    split at h
    · cases hb : Nat.beq kind 0 with
      | false => rw [hb] at h; cases h
      | true =>
        rw [hb, cond_true] at h
        rw [cond_true]
        split at h
        · next As κ r hcut =>
          split at h
          · next K hK =>
            rw [rget_eq] at hK
            cases hc : (Nat.beq K.1 rc && Nat.ble (qcsum r) 8) with
            | false => rw [hc] at h; cases h
            | true =>
              rw [hc, cond_true] at h
              cases h
              rw [Bool.and_eq_true] at hc
              obtain ⟨Aw, rw', g1, g2, g3⟩ := qcut_ok np hr.2.2.2.1 (acc := []) (aw := []) trivial hcut
              obtain ⟨v1, u1, e1, ⟨p, p1, p2⟩, s1⟩ := stOK2_cons g3
              subst e1
              subst p1
              rw [g1]
              dsimp only
              obtain ⟨q, q1, q2, q3, q4⟩ := hOK_at hr.2.1 p2 hK
              rw [hr.2.2.2.2.2 p, q1]
              dsimp only
              rw [q2, hc.1, cond_true, csum_k s1, hc.2, cond_true]
              exact ⟨_, _, rfl, ⟨⟨p, rfl, p2⟩, g2⟩, s1⟩
          · cases h
        · cases h
    · cases hb : Nat.beq kind 1 with
      | false => rw [hb] at h; cases h
      | true =>
        rw [hb, cond_true] at h
        rw [cond_true]
        split at h
        · next As r hcut =>
          cases hc : Nat.ble (qcsum r) 8 with
          | false => rw [hc] at h; cases h
          | true =>
            rw [hc, cond_true] at h
            cases h
            obtain ⟨Aw, rw', g1, g2, g3⟩ := qcut_ok np hr.2.2.2.1 (acc := []) (aw := []) trivial hcut
            rw [g1]
            dsimp only
            rw [csum_k g3, hc, cond_true]
            exact ⟨_, _, rfl, g2, g3⟩
        · cases h
    · cases hb : Nat.beq kind 1 with
      | false => rw [hb] at h; cases h
      | true =>
        rw [hb, cond_true] at h
        rw [cond_true]
        split at h
        · next ss hss =>
          cases h
          exact q_copy_ok hw hr hss
        · cases h
    · cases h
  · cases h
