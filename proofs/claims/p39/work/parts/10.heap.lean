/-! rules: writes, fields, new cells -/
theorem ast_inv {t1 t2 : Nat} {E : rE} {pc : Nat} {lv : rK} {st : List rV} {aw : rD} {cn z : Nat} {o : rO} (h : ast t1 t2 E pc lv st aw cn z = some o) : (∃ s', o = .inr (.inl s')) ∨ ∃ (v : rV) (i k n : Nat) (r : List rV) (q : rC), st = v :: .inl i :: .inr (.inr (some (k + 1))) :: r ∧ nd E i = some n ∧ wget aw k = some q ∧ (q.1 = t1 ∨ q.1 = t2) ∧ ok_el q.1 v = true ∧ n < q.2.length ∧ n ≤ 2147483647 ∧ o = .inl (Nat.add pc 1, lv, r, wset (q.1, q.2.set n v) aw k (fun d => d), cn, z) := by
  unfold ast at h
  split at h
  · next v i k r =>
    split at h
    · next n hn =>
      split at h
      · next q hq =>
        cases h1 : ((Nat.beq q.1 t1 || Nat.beq q.1 t2) && (ok_el q.1 v && (Nat.blt n q.2.length && Nat.ble n 2147483647))) with
        | false => rw [h1] at h; cases h
        | true =>
          rw [h1, cond_true, rset_eq, wset_k] at h
          cases h
          rw [Bool.and_eq_true, Bool.and_eq_true, Bool.and_eq_true, Bool.or_eq_true] at h1
          exact Or.inr ⟨v, i, k, n, r, q, rfl, hn, hq, h1.1.imp Nat.eq_of_beq_eq_true Nat.eq_of_beq_eq_true, h1.2.1, Nat.le_of_ble_eq_true h1.2.2.1, Nat.le_of_ble_eq_true h1.2.2.2, rfl⟩
      · cases h
    · unfold spl at h
      cases hb : (Nat.ble 4294967296 i && Nat.ble (Nat.sub (iv E i).2 (iv E i).1) 64) with
      | false => rw [hb] at h; cases h
      | true => rw [hb, cond_true] at h; cases h; exact Or.inl ⟨_, rfl⟩
  · cases h
theorem s_ast {p : Program} {l : Launch} {e : Env} {R : Room} {s : State} {m : MethodId} {args : Array Value} {below : List Frame} {meth : Method} {c : Code} {Q : State → Prop} {sg : Nat → Int32} {b B : Nat} {L : List Nat} {xs : Nat → Int32} {dC : Nat → ClassId} {dI : Nat → Nat → Nat} {cy : Nat → ClassId} {cc : ByteArray} {nL own : Nat} {ini : Bool} {ret : Option FieldType} {mc ms : Nat} {E : rE} {pc : Nat} {lv : rK} {st : List rV} {aw : rD} {cn z : Nat} {o : rO} {t1 t2 : Nat} (F : FF p s m args meth c cc nL own ini b B L xs dC dI cy) (hE : eOK sg E) (h13 : 13 ≤ t1 ∧ t1 ≤ 19 ∧ 13 ≤ t2 ∧ t2 ≤ 19) (hrow : ∀ (t k n : Nat) (la : List rV) (v : rV) (H : Heap) (locs : List Loc) (ls : Array Slot) (rest : List Value), (t = t1 ∨ t = t2) → ok_el t v = true → H[B + k]? = some (arrV (cy t) la.length (fun j => aV sg b B t (la.getD j rd))) → ¬ (nI n < 0 ∨ la.length ≤ (nI n).toNatClampNeg) → (∀ (H1 : Heap) (w : Value), w = aV sg b B t v → H1[B + k]? = some ((arrV (cy t) la.length (fun j => aV sg b B t (la.getD j rd))).setSlot (nI n).toNatClampNeg w) → H1.size = H.size → (∀ q, q ≠ B + k → H1[q]? = H[q]?) → W p l e R s m args below meth c H1 (locs ++ [⟨B + k, (nI n).toNatClampNeg⟩]) cn z Q (F0 m (pc + 1) ls rest)) → W p l e R s m args below meth c H locs cn z Q (F0 m pc ls (rv sg b B v :: .int (nI n) :: .ref (B + k) :: rest))) (h : ast t1 t2 E pc lv st aw cn z = some o) : Sem p l e R s m args below meth c Q sg b B cy dC dI nL cc own ret mc ms o (pc, lv, st, aw, cn, z) := by
  obtain ⟨hx, hb, hml, ho, hts, hsf, hin⟩ := F
  rcases ast_inv h with ⟨s', rfl⟩ | ⟨v, i, k, n, r, q, rfl, hn, hq, ht, hv, hlt, hn31, rfl⟩
  · exact True.intro
  · have en := nd_ok hE hn
    have ht13 : 13 ≤ q.1 ∧ q.1 ≤ 19 := by omega
    intro kk aw' H locs ls hr hP hH hS hl
    have hq' := rep_get hr hq
    have hc := at_arr hP hq' ht13.1
    have key := hrow q.1 k n q.2 v H locs ls (r.map (rv sg b B)) ht hv hc (ix_ok hlt hn31) (fun H1 w hw e z' oq => by
      rw [nI_clamp (by omega)] at e ⊢
      obtain ⟨p1, p2, p3⟩ := fin_st (i := n) hP hH hS hq' (at_st ht13.1 hlt hw e) z' oq
      exact kk (aw'.set k (q.1, q.2.set n v)) H1 _ ls (wset_rep hr hq' _) p1 p2 p3 hl)
    rw [← en.2] at key
    exact key
theorem s_iast {p : Program} {l : Launch} {e : Env} {R : Room} {s : State} {m : MethodId} {args : Array Value} {below : List Frame} {meth : Method} {c : Code} {Q : State → Prop} {sg : Nat → Int32} {b B : Nat} {L : List Nat} {xs : Nat → Int32} {dC : Nat → ClassId} {dI : Nat → Nat → Nat} {cy : Nat → ClassId} {cc : ByteArray} {nL own : Nat} {ini : Bool} {ret : Option FieldType} {mc ms : Nat} {E : rE} {pc : Nat} {lv : rK} {st : List rV} {aw : rD} {cn z : Nat} {o : rO} (F : FF p s m args meth c cc nL own ini b B L xs dC dI cy) (hs : SG sg L xs) (hE : eOK sg E) (hdg : decode cc pc = .ok (.iastore, 1)) (h : h_ast 14 14 tT own ret ini mc ms L E pc lv st aw cn z = some o) : Sem p l e R s m args below meth c Q sg b B cy dC dI nL cc own ret mc ms o (pc, lv, st, aw, cn, z) := by
  refine s_ast F hE (by decide) ?_ h
  intro t k n la v H locs ls rest ht hv hc hin kk
  obtain ⟨hx, hb, hml, ho, hts, hsf, -⟩ := F
  have e : t = 14 := by omega
  subst e
  match v, hv with
  | .inl a, hv => exact W.iast hx hb hc (isA hsf.1 (by decide) (by decide) _ _) cyq (by rw [arrV_size]; exact hin) rfl rfl hdg (fun H1 e z' oq => kk H1 _ rfl e z' oq)
  | .inr (.inl a), hv => cases hv
  | .inr (.inr a), hv => cases hv
theorem s_last {p : Program} {l : Launch} {e : Env} {R : Room} {s : State} {m : MethodId} {args : Array Value} {below : List Frame} {meth : Method} {c : Code} {Q : State → Prop} {sg : Nat → Int32} {b B : Nat} {L : List Nat} {xs : Nat → Int32} {dC : Nat → ClassId} {dI : Nat → Nat → Nat} {cy : Nat → ClassId} {cc : ByteArray} {nL own : Nat} {ini : Bool} {ret : Option FieldType} {mc ms : Nat} {E : rE} {pc : Nat} {lv : rK} {st : List rV} {aw : rD} {cn z : Nat} {o : rO} (F : FF p s m args meth c cc nL own ini b B L xs dC dI cy) (hs : SG sg L xs) (hE : eOK sg E) (hdg : decode cc pc = .ok (.lastore, 1)) (h : h_ast 15 15 tT own ret ini mc ms L E pc lv st aw cn z = some o) : Sem p l e R s m args below meth c Q sg b B cy dC dI nL cc own ret mc ms o (pc, lv, st, aw, cn, z) := by
  refine s_ast F hE (by decide) ?_ h
  intro t k n la v H locs ls rest ht hv hc hin kk
  obtain ⟨hx, hb, hml, ho, hts, hsf, -⟩ := F
  have e : t = 15 := by omega
  subst e
  match v, hv with
  | .inl a, hv => exact absurd (el_ok (b := b) (B := B) hs hv) (by omega)
  | .inr (.inl a), hv => exact W.last hx hb hc (isA hsf.1 (by decide) (by decide) _ _) cyq (by rw [arrV_size]; exact hin) rfl rfl hdg (fun H1 e z' oq => kk H1 _ rfl e z' oq)
  | .inr (.inr a), hv => cases hv
theorem s_bast {p : Program} {l : Launch} {e : Env} {R : Room} {s : State} {m : MethodId} {args : Array Value} {below : List Frame} {meth : Method} {c : Code} {Q : State → Prop} {sg : Nat → Int32} {b B : Nat} {L : List Nat} {xs : Nat → Int32} {dC : Nat → ClassId} {dI : Nat → Nat → Nat} {cy : Nat → ClassId} {cc : ByteArray} {nL own : Nat} {ini : Bool} {ret : Option FieldType} {mc ms : Nat} {E : rE} {pc : Nat} {lv : rK} {st : List rV} {aw : rD} {cn z : Nat} {o : rO} (F : FF p s m args meth c cc nL own ini b B L xs dC dI cy) (hs : SG sg L xs) (hE : eOK sg E) (hdg : decode cc pc = .ok (.bastore, 1)) (h : h_ast 13 16 tT own ret ini mc ms L E pc lv st aw cn z = some o) : Sem p l e R s m args below meth c Q sg b B cy dC dI nL cc own ret mc ms o (pc, lv, st, aw, cn, z) := by
  refine s_ast F hE (by decide) ?_ h
  intro t k n la v H locs ls rest ht hv hc hin kk
  obtain ⟨hx, hb, hml, ho, hts, hsf, -⟩ := F
  match v, hv with
  | .inl a, hv =>
    rcases el_ok (b := b) (B := B) hs hv with g | ⟨g, hg⟩ | ⟨g, hg⟩
    · omega
    · subst g
      exact W.zast hx hb hc (isA hsf.1 (by decide) (by decide) _ _) cyq (by rw [arrV_size]; exact hin) rfl rfl hdg (fun H1 e z' oq => kk H1 _ hg e z' oq)
    · subst g
      exact W.bast hx hb hc (isA hsf.1 (by decide) (by decide) _ _) cyq (by rw [arrV_size]; exact hin) rfl rfl hdg (fun H1 e z' oq => kk H1 _ hg e z' oq)
  | .inr (.inl a), hv =>
    have := Nat.eq_of_beq_eq_true (show Nat.beq t 15 = true from hv)
    omega
  | .inr (.inr a), hv => cases hv
theorem s_aasr {p : Program} {l : Launch} {e : Env} {R : Room} {s : State} {m : MethodId} {args : Array Value} {below : List Frame} {meth : Method} {c : Code} {Q : State → Prop} {sg : Nat → Int32} {b B : Nat} {L : List Nat} {xs : Nat → Int32} {dC : Nat → ClassId} {dI : Nat → Nat → Nat} {cy : Nat → ClassId} {cc : ByteArray} {nL own : Nat} {ini : Bool} {ret : Option FieldType} {mc ms : Nat} {E : rE} {pc : Nat} {lv : rK} {st : List rV} {aw : rD} {cn z : Nat} {o : rO} (F : FF p s m args meth c cc nL own ini b B L xs dC dI cy) (hE : eOK sg E) (hdg : decode cc pc = .ok (.aastore, 1)) (h : h_aasr tT own ret ini mc ms L E pc lv st aw cn z = some o) : Sem p l e R s m args below meth c Q sg b B cy dC dI nL cc own ret mc ms o (pc, lv, st, aw, cn, z) := by
  obtain ⟨hx, hb, hml, ho, hts, hsf, hin⟩ := F
  unfold h_aasr aasr at h
  split at h
  · next j i k r =>
    split at h
    · next n hn =>
      split at h
      · next q hq =>
        split at h
        · next w hw =>
          cases h1 : (((Nat.beq q.1 17 && Nat.beq w.1 6) || (Nat.beq q.1 18 && Nat.beq w.1 10)) && (Nat.blt n q.2.length && Nat.ble n 2147483647)) with
          | false => rw [h1] at h; cases h
          | true =>
            rw [h1, cond_true, rset_eq, wset_k] at h
            cases h
            rw [Bool.and_eq_true, Bool.and_eq_true, Bool.or_eq_true, Bool.and_eq_true, Bool.and_eq_true] at h1
            have hlt : n < q.2.length := Nat.le_of_ble_eq_true h1.2.1
            have hn31 := Nat.le_of_ble_eq_true h1.2.2
            have en := nd_ok hE hn
            obtain ⟨C, T, N, ht13, ht18, hc, hty⟩ : ∃ (C : String) (T : u_T) (N : Nat), 13 ≤ q.1 ∧ (q.1 = 17 ∨ q.1 = 18) ∧ vwCl[w.1]? = some (C, T, N) ∧ tyA q.1 = .object C := by
              rcases h1.1 with ⟨g1, g2⟩ | ⟨g1, g2⟩
              · have g1 := Nat.eq_of_beq_eq_true g1
                have g2 := Nat.eq_of_beq_eq_true g2
                rw [g1, g2]
                exact ⟨_, _, _, by decide, Or.inl rfl, rfl, rfl⟩
              · have g1 := Nat.eq_of_beq_eq_true g1
                have g2 := Nat.eq_of_beq_eq_true g2
                rw [g1, g2]
                exact ⟨_, _, _, by decide, Or.inr rfl, rfl, rfl⟩
            have hw13 : w.1 < 13 := by
              rcases h1.1 with ⟨g1, g2⟩ | ⟨g1, g2⟩
              · have g2 := Nat.eq_of_beq_eq_true g2; omega
              · have g2 := Nat.eq_of_beq_eq_true g2; omega
            intro kk aw' H locs ls hr hP hH hS hl
            have hq' := rep_get hr hq
            have hw' := rep_get hr hw
            have hcell := at_arr hP hq' ht13
            have hobj := hP j _ (rW_get hw')
            rw [rce_obj hw13] at hobj
            obtain ⟨r', hr', cellV, g1, g2, g3, -⟩ := hobj
            have hcls := (hsf.1.1 w.1 _ hc).2
            have hRA := (hsf.1.2 (q.1 - 13) _ (tyA_at ht13 (by omega))).2
            rw [hty] at hRA
            obtain ⟨kA, comp, k1, k2, k3, -⟩ := hRA
            have hcomp : comp = dC w.1 := Option.some.inj (k3.symm.trans hcls.1)
            subst hcomp
            obtain ⟨kC, hkC, -⟩ := hcls.2
            have key : W p l e R s m args below meth c H locs cn z Q (F0 m pc ls (.ref (B + j) :: .int (nI n) :: .ref (B + k) :: r.map (rv sg b B))) := by
              refine W.aast hx hb hcell (fun q h => by cases h) (fun h => by cases h) k1 k2 rfl hkC ⟨nI_pos (by omega), by rw [arrV_size, nI_clamp (by omega)]; exact hlt⟩ g1 (fun q h => by rw [g3] at h; cases h) (by rw [g2]; exact hkC) (by rw [g2]; exact va_assign hcls) rfl rfl hdg fun H1 e z' oq => ?_
              rw [nI_clamp (by omega)] at e ⊢
              obtain ⟨p1, p2, p3⟩ := fin_st (i := n) (q' := (q.1, q.2.set n (.inr (.inr (some (j + 1)))))) hP hH hS hq' (at_st ht13 hlt (by
                unfold aV
                rw [if_neg (by omega), if_neg (by omega)]
                rfl) e) z' oq
              exact kk _ H1 _ ls (wset_rep hr hq' _) p1 p2 p3 hl
            rw [← en.2] at key
            exact key
        · cases h
      · cases h
    · exact spl_ok h
  · cases h
theorem s_alen {p : Program} {l : Launch} {e : Env} {R : Room} {s : State} {m : MethodId} {args : Array Value} {below : List Frame} {meth : Method} {c : Code} {Q : State → Prop} {sg : Nat → Int32} {b B : Nat} {L : List Nat} {xs : Nat → Int32} {dC : Nat → ClassId} {dI : Nat → Nat → Nat} {cy : Nat → ClassId} {cc : ByteArray} {nL own : Nat} {ini : Bool} {ret : Option FieldType} {mc ms : Nat} {E : rE} {pc : Nat} {lv : rK} {st : List rV} {aw : rD} {cn z : Nat} {o : rO} (F : FF p s m args meth c cc nL own ini b B L xs dC dI cy) (hs : SG sg L xs) (hdg : decode cc pc = .ok (.arraylength, 1)) (h : h_alen tT own ret ini mc ms L E pc lv st aw cn z = some o) : Sem p l e R s m args below meth c Q sg b B cy dC dI nL cc own ret mc ms o (pc, lv, st, aw, cn, z) := by
  obtain ⟨hx, hb, hml, ho, hts, hsf, hin⟩ := F
  unfold h_alen at h
  split at h
  · next k r =>
    split at h
    · rw [fN_eq] at h
      cases h
      intro kk aw' H locs ls hr hP hH hS hl
      have hbB := hsf.2.2.2.2.1
      have hBs := hsf.2.2.2.2.2.1
      refine va_slen (b := b) hx hb hsf.2.2.2.1 (by omega) (show ¬ B ≤ b by omega) hS hdg ?_
      have e : ri sg L.length = Int32.ofNat L.length := ri_c (Nat.lt_trans hs.2.2.2.2 (by decide))
      rw [← e]
      exact kk aw' H locs ls hr hP hH hS hl
    · next k =>
      split at h
      · next q hq =>
        cases h1 : (Nat.ble 13 q.1 && (Nat.ble q.1 19 && Nat.ble q.2.length 4294967295)) with
        | false => rw [h1] at h; cases h
        | true =>
          rw [h1, cond_true, fN_eq] at h
          cases h
          rw [Bool.and_eq_true, Bool.and_eq_true] at h1
          have g1 := Nat.le_of_ble_eq_true h1.1
          have g2 := Nat.le_of_ble_eq_true h1.2.1
          have g3 := Nat.le_of_ble_eq_true h1.2.2
          intro kk aw' H locs ls hr hP hH hS hl
          have hq' := rep_get hr hq
          refine W.alen (n := nI q.2.length) hx hb (at_arr hP hq' g1) (isA hsf.1 g1 g2 _ _) (by rw [arrV_size]; rfl) rfl rfl hdg ?_
          have e : ri sg q.2.length = nI q.2.length := ri_c (Nat.lt_succ_of_le g3)
          rw [← e]
          exact kk aw' H locs ls hr hP hH hS hl
      · cases h
  · cases h
theorem s_getf {p : Program} {l : Launch} {e : Env} {R : Room} {s : State} {m : MethodId} {args : Array Value} {below : List Frame} {meth : Method} {c : Code} {Q : State → Prop} {sg : Nat → Int32} {b B : Nat} {L : List Nat} {xs : Nat → Int32} {dC : Nat → ClassId} {dI : Nat → Nat → Nat} {cy : Nat → ClassId} {cc : ByteArray} {nL own : Nat} {ini : Bool} {ret : Option FieldType} {mc ms : Nat} {E : rE} {pc : Nat} {lv : rK} {st : List rV} {aw : rD} {cn z : Nat} {o : rO} {i : Nat} (F : FF p s m args meth c cc nL own ini b B L xs dC dI cy) (hO : OT) (hdg : decode cc pc = .ok (.getfield i, 3)) (h : h_getf i tT own ret ini mc ms L E pc lv st aw cn z = some o) : Sem p l e R s m args below meth c Q sg b B cy dC dI nL cc own ret mc ms o (pc, lv, st, aw, cn, z) := by
  obtain ⟨hx, hb, hml, ho, hts, hsf, hin⟩ := F
  unfold h_getf at h
  split at h
  · next j r =>
    split at h
    · next ci k w hk =>
      split at h
      · next q hq =>
        cases h1 : Nat.beq q.1 ci with
        | false => rw [h1] at h; cases h
        | true =>
          rw [h1, cond_true] at h
          split at h
          · next v hv =>
            cases h
            have g1 := Nat.eq_of_beq_eq_true h1
            obtain ⟨fi, kd⟩ := w
            obtain ⟨C, T, N, hc, hkN, hlink, hkd, hfin⟩ := hO.2.1 own i ci k fi kd (kf_mem hk)
            obtain ⟨c1, c2, c3, c4, c5, c6, c7, c8⟩ := hO.1 ci C T N hc
            intro kk aw' H locs ls hr hP hH hS hl
            have hq' := rep_get hr hq
            have he := rW_get (sg := sg) (b := b) (B := B) (cy := cy) hq'
            rw [rce_obj (by rw [g1]; exact c7), g1] at he
            rw [rget_eq] at hv
            exact va_get (v := rv sg b B v) hx hb hts c1 ho hsf.1 hP j he hc k hkN (hts _ hlink) (fun _ h9 => h9) (by rw [List.getElem?_map, hv]; rfl) hdg (kk aw' H locs ls hr hP hH hS hl)
          · cases h
      · cases h
    · cases h
  · cases h
theorem fi_ok {sg : Nat → Int32} {b B kd : Nat} {ty : FieldType} {v : rV} (hk : fk ty = kd) (h : ok_fi kd v = true) : narrow ty (rv sg b B v) = rv sg b B v ∧ fits ty (rv sg b B v) = true := by
  subst hk
  match v, h with
  | .inl n, h =>
    have h' : (Nat.beq (fk ty) 0 || (Nat.beq (fk ty) 1 && Nat.ble n 1)) = true := h
    rw [Bool.or_eq_true, Bool.and_eq_true] at h'
    rcases h' with g | ⟨g1, g2⟩
    · have g := Nat.eq_of_beq_eq_true g
      cases ty <;> first | exact ⟨rfl, rfl⟩ | cases g
    · have g1 := Nat.eq_of_beq_eq_true g1
      have g2 := Nat.le_of_ble_eq_true g2
      cases ty <;> first | (cases g1; done) | skip
      have : n = 0 ∨ n = 1 := by omega
      show narrow .boolean (.int (ri sg n)) = .int (ri sg n) ∧ fits .boolean (.int (ri sg n)) = true
      rcases this with rfl | rfl
      · rw [ri_c (by decide)]; decide
      · rw [ri_c (by decide)]; decide
  | .inr (.inl n), h =>
    have g := Nat.eq_of_beq_eq_true (show Nat.beq (fk ty) 2 = true from h)
    cases ty <;> first | exact ⟨rfl, rfl⟩ | cases g
  | .inr (.inr (some n)), h =>
    have g := Nat.eq_of_beq_eq_true (show Nat.beq (fk ty) 3 = true from h)
    cases ty <;> first | exact ⟨rfl, rfl⟩ | cases g
  | .inr (.inr none), h => cases h
theorem s_putf {p : Program} {l : Launch} {e : Env} {R : Room} {s : State} {m : MethodId} {args : Array Value} {below : List Frame} {meth : Method} {c : Code} {Q : State → Prop} {sg : Nat → Int32} {b B : Nat} {L : List Nat} {xs : Nat → Int32} {dC : Nat → ClassId} {dI : Nat → Nat → Nat} {cy : Nat → ClassId} {cc : ByteArray} {nL own : Nat} {ini : Bool} {ret : Option FieldType} {mc ms : Nat} {E : rE} {pc : Nat} {lv : rK} {st : List rV} {aw : rD} {cn z : Nat} {o : rO} {i : Nat} (F : FF p s m args meth c cc nL own ini b B L xs dC dI cy) (hO : OT) (hdg : decode cc pc = .ok (.putfield i, 3)) (h : h_putf i tT own ret ini mc ms L E pc lv st aw cn z = some o) : Sem p l e R s m args below meth c Q sg b B cy dC dI nL cc own ret mc ms o (pc, lv, st, aw, cn, z) := by
  obtain ⟨hx, hb, hml, ho, hts, hsf, hini⟩ := F
  unfold h_putf at h
  split at h
  · next v j r =>
    split at h
    · next ci k fi kd hk =>
      split at h
      · next q hq =>
        cases h1 : (Nat.beq q.1 ci && (ok_fi kd v && (Nat.blt k q.2.length && (Nat.beq fi 0 || (Nat.beq fi 1 && ini))))) with
        | false => rw [h1] at h; cases h
        | true =>
          rw [h1, cond_true, rset_eq, wset_k] at h
          cases h
          rw [Bool.and_eq_true, Bool.and_eq_true, Bool.and_eq_true, Bool.or_eq_true, Bool.and_eq_true] at h1
          have g1 := Nat.eq_of_beq_eq_true h1.1
          have g2 := h1.2.1
          have hl0 : k < q.2.length := Nat.le_of_ble_eq_true h1.2.2.1
          obtain ⟨C, T, N, hc, hkN, hlink, hkd, hfin⟩ := hO.2.1 own i ci k fi kd (kf_mem hk)
          obtain ⟨c1, c2, c3, c4, c5, c6, c7, c8⟩ := hO.1 ci C T N hc
          have hvf := fi_ok (sg := sg) (b := b) (B := B) hkd g2
          intro kk aw' H locs ls hr hP hH hS hl
          have hq' := rep_get hr hq
          have he := rW_get (sg := sg) (b := b) (B := B) (cy := cy) hq'
          rw [rce_obj (by rw [g1]; exact c7), g1] at he
          have hap := va_apart (own := oN own) hts c1 (fty ci) c2 c3 hsf.1 hc
          obtain ⟨r0, hr0, cell, q1, q2, q3, q4⟩ := hP j _ he
          have hr1 : r0 = (C, T, N) := Option.some.inj (hr0.symm.trans hc)
          subst hr1
          obtain ⟨hSl, hfc, kC, hkC, hkind⟩ := hsf.1.1 ci _ hc
          obtain ⟨cf, kf0, fi0, f, hi, hsl⟩ := hSl k hkN
          have hst := (u_facts hfc hkC (u_lays hts c1 hkN) hi).1
          have hlay := hts _ (c1 _ (u_in_lay hkN))
          unfold u_lay at hlay
          have fin : ∀ H' : Heap, H'[B + j]? = some (cell.setSlot f.slot (rv sg b B v)) → H'.size = H.size → (∀ q, q ≠ B + j → H'[q]? = H[q]?) → W p l e R s m args below meth c H' (locs ++ [⟨B + j, f.slot⟩]) cn z Q (F0 m (pc + 3) ls (r.map (rv sg b B))) := by
            intro H' e1 e2 e3
            rw [hsl] at e1 ⊢
            obtain ⟨p1, p2, p3⟩ := fin_st (i := dI ci k) (q' := (q.1, q.2.set k v)) hP hH hS hq' (by
              rw [rce_obj (q := (q.1, q.2.set k v)) (by rw [g1]; exact c7)]
              show va_at (dC, dI) vwCl (B + j, .inr (q.1, (q.2.set k v).map (rv sg b B))) H'
              rw [g1, List.map_set]
              exact ⟨_, hc, t_OB.to (V := updV (vp_V (q.2.map (rv sg b B))) k (rv sg b B v)) ⟨_, e1, q2, q3, t_set q4 hap hkN _⟩ (fun j' _ => vp_updV_set (by rw [List.length_map]; exact hl0) _ j')⟩) e2 e3
            exact kk _ H' _ ls (wset_rep hr hq' _) p1 p2 p3 hl
          rcases hfin with ⟨f0, f1⟩ | ⟨f0, f1, f2⟩ | f0
          · rw [if_neg (by rw [f1]; decide)] at hlay
            have h6 := u_store hfc hkC hkind hlay hi (c2 k hkN) hvf.1 hvf.2
            exact W.putK hx hb (f := f) ⟨ho, hts _ hlink, ⟨_, _, _, hi⟩, hst⟩ (by rw [q2]; exact h6) q1 q3 (by rw [hsl]; exact k2_hasslot (q4 k hkN)) rfl rfl hdg fin
          · rw [if_pos f1] at hlay
            have hi1 : ini = true := by
              rcases h1.2.2.2 with g | g
              · rw [f0] at g; cases g
              · exact g.2
            have hcf : m.cls = cf := by
              obtain ⟨_, _, c', _, _, _, -, -, hf', -, -, -, hown2, -⟩ := Cond.laysFinal_spec hlay
              have e1 : c' = cf := by have := hi.symm.trans hf'; simp at this; exact this.1.symm
              rw [f2] at hown2
              rw [← e1]; exact Option.some.inj (ho.symm.trans hown2)
            have h6 := u_fits hfc hkC hkind (Or.inr hlay) hi (c2 k hkN) hvf.1 hvf.2
            exact W.putFinK hx hb ho (hts _ hlink) hi hst hcf (hini hi1) (by rw [q2]; exact h6) q1 q3 (by rw [hsl]; exact k2_hasslot (q4 k hkN)) rfl rfl hdg fin
          · rcases h1.2.2.2 with g | g
            · rw [f0] at g; cases g
            · rw [f0] at g; cases g.1
      · cases h
    · cases h
  · cases h
