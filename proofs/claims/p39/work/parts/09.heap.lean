/-! rules: fields and arrays -/
def aV (sg : Nat → Int32) (b B t : Nat) (v : rV) : Value := if t = 15 then .long (rL v) else if t < 17 then .int (rI sg v) else va_rf (rR b B v)
theorem rA_cell {sg : Nat → Int32} {b B : Nat} (cA : ClassId) (t : Nat) (l : List rV) : vp_cell cA (rA sg b B t l) = arrV cA l.length (fun j => aV sg b B t (l.getD j rd)) := by
  unfold rA aV
  by_cases h1 : t = 15
  · simp only [h1, if_true]; rfl
  · by_cases h2 : t < 17
    · simp only [h1, h2, if_true, if_false]; rfl
    · simp only [h1, h2, if_false]; rfl
theorem rce_arr {sg : Nat → Int32} {b B : Nat} {cy : Nat → ClassId} {q : rC} (h : 13 ≤ q.1) : rce sg b B cy q = .inl (cy q.1, rA sg b B q.1 q.2) := if_neg (Nat.not_lt.mpr h)
theorem rce_obj {sg : Nat → Int32} {b B : Nat} {cy : Nat → ClassId} {q : rC} (h : q.1 < 13) : rce sg b B cy q = .inr (q.1, q.2.map (rv sg b B)) := if_pos h
theorem at_arr {sg : Nat → Int32} {b B : Nat} {cy : Nat → ClassId} {D : va_G} {aw : List rC} {H : Heap} {k : Nat} {q : rC} (hP : va_P D vwCl (rW sg b B cy aw) H) (hk : aw[k]? = some q) (h : 13 ≤ q.1) : H[B + k]? = some (arrV (cy q.1) q.2.length (fun j => aV sg b B q.1 (q.2.getD j rd))) := by
  have h1 := hP k _ (rW_get hk)
  rw [rce_arr h] at h1
  have h2 : H[B + k]? = some (vp_cell (cy q.1) (rA sg b B q.1 q.2)) := h1
  rw [rA_cell] at h2
  exact h2
theorem vt_ok {sg : Nat → Int32} {b B t : Nat} {v : rV} (h13 : 13 ≤ t) (h : vt t v = true) : aV sg b B t v = rv sg b B v := by
  unfold aV
  match v, h with
  | .inl n, h =>
    have h' : (Nat.ble t 14 || Nat.beq t 16) = true := h
    rw [Bool.or_eq_true] at h'
    have : t ≠ 15 ∧ t < 17 := by
      rcases h' with g | g
      · have := Nat.le_of_ble_eq_true g; omega
      · have := Nat.eq_of_beq_eq_true g; omega
    rw [if_neg this.1, if_pos this.2]
    rfl
  | .inr (.inl n), h =>
    have := Nat.eq_of_beq_eq_true (show Nat.beq t 15 = true from h)
    rw [if_pos this]
    rfl
  | .inr (.inr none), h =>
    have := Nat.le_of_ble_eq_true (show Nat.ble 17 t = true from h)
    rw [if_neg (by omega), if_neg (by omega)]
    rfl
  | .inr (.inr (some n)), h =>
    have := Nat.le_of_ble_eq_true (show Nat.ble 17 t = true from h)
    rw [if_neg (by omega), if_neg (by omega)]
    rfl
theorem ix_ok {n N : Nat} (h : n < N) (h2 : n ≤ 2147483647) : ¬ (nI n < 0 ∨ N ≤ (nI n).toNatClampNeg) := by
  rintro (g | g)
  · exact nI_pos (by omega) g
  · rw [nI_clamp (by omega)] at g
    omega
def tyA (t : Nat) : FieldType := match t with
  | 13 => .byte
  | 14 => .int
  | 15 => .long
  | 16 => .boolean
  | 17 => .object "AyeJars$Jars"
  | 18 => .object "AyeJars$Trial"
  | _ => .array .int
theorem tyA_at {cy : Nat → ClassId} {t : Nat} (h1 : 13 ≤ t) (h2 : t ≤ 19) : (tys0 cy)[t - 13]? = some (cy t, tyA t) := by
  have : t = 13 ∨ t = 14 ∨ t = 15 ∨ t = 16 ∨ t = 17 ∨ t = 18 ∨ t = 19 := by omega
  rcases this with rfl | rfl | rfl | rfl | rfl | rfl | rfl <;> rfl
theorem isA {dC : Nat → ClassId} {dI : Nat → Nat → Nat} {cy : Nat → ClassId} {s : State} (hK : va_K (dC, dI) vwCl (tys0 cy) s) {t : Nat} (h1 : 13 ≤ t) (h2 : t ≤ 19) (n : Nat) (f : Nat → Value) : s.isArrayOf (arrV (cy t) n f) (tyA t) := (hK.2 (t - 13) _ (tyA_at h1 h2)).1 n f
/-- a cell is written -/
theorem fin_st {sg : Nat → Int32} {b B : Nat} {cy : Nat → ClassId} {D : va_G} {aw : List rC} {H H1 H0 : Heap} {locs : List Loc} {k i : Nat} {q q' : rC} (hP : va_P D vwCl (rW sg b B cy aw) H) (hH : H.size = B + aw.length) (hS : va_S (rG B) H0 H locs) (hk : aw[k]? = some q) (he : va_at D vwCl (B + k, rce sg b B cy q') H1) (z : H1.size = H.size) (oq : ∀ q : Nat, q ≠ B + k → H1[q]? = H[q]?) : va_P D vwCl (rW sg b B cy (aw.set k q')) H1 ∧ H1.size = B + (aw.set k q').length ∧ va_S (rG B) H0 H1 (locs ++ [⟨B + k, i⟩]) := by
  refine ⟨?_, by rw [List.length_set, z, hH], hS.put z oq (Nat.le_add_right B k)⟩
  rw [← rW_set]
  exact hP.set (rW_D aw) (rW_get hk) he oq
theorem at_st {sg : Nat → Int32} {b B : Nat} {cy : Nat → ClassId} {D : va_G} {H1 : Heap} {k n t : Nat} {l : List rV} {v : rV} {w : Value} (h13 : 13 ≤ t) (hn : n < l.length) (hw : w = aV sg b B t v) (e : H1[B + k]? = some ((arrV (cy t) l.length (fun j => aV sg b B t (l.getD j rd))).setSlot n w)) : va_at D vwCl (B + k, rce sg b B cy (t, l.set n v)) H1 := by
  rw [rce_arr (q := (t, l.set n v)) h13]
  show H1[B + k]? = some (vp_cell (cy t) (rA sg b B t (l.set n v)))
  rw [rA_cell, e, arrV_store, List.length_set]
  congr 2
  funext j
  unfold updV
  by_cases hj : j = n
  · subst hj
    rw [if_pos rfl, hw]
    simp [List.getD_eq_getElem?_getD, hn]
  · rw [if_neg hj]
    simp [List.getD_eq_getElem?_getD, List.getElem?_set, Ne.symm hj]
theorem wset_k {β : Type} (v : rC) (D : rD) (k : Nat) (K : rD → β) : wset v D k K = K (wset v D k (fun d => d)) := by
  unfold wset
  split
  · rw [rset_eq, rset_eq, rset_eq, rset_eq]
  · rfl
theorem wset_rep {D : rD} {aw : List rC} (h : rep D aw) {k : Nat} {q : rC} (hk : aw[k]? = some q) (v : rC) : rep (wset v D k (fun d => d)) (aw.set k v) := by
  obtain ⟨D', h1, h2⟩ := rep_set (β := rD) h (List.getElem?_eq_some_iff.mp hk).1 v
  rw [h2]
  exact h1
theorem s_ald {p : Program} {l : Launch} {e : Env} {R : Room} {s : State} {m : MethodId} {args : Array Value} {below : List Frame} {meth : Method} {c : Code} {Q : State → Prop} {sg : Nat → Int32} {b B : Nat} {L : List Nat} {xs : Nat → Int32} {dC : Nat → ClassId} {dI : Nat → Nat → Nat} {cy : Nat → ClassId} {cc : ByteArray} {nL own : Nat} {ini : Bool} {ret : Option FieldType} {mc ms : Nat} {E : rE} {pc : Nat} {lv : rK} {st : List rV} {aw : rD} {cn z : Nat} {o : rO} {t1 t2 : Nat} (F : FF p s m args meth c cc nL own ini b B L xs dC dI cy) (hs : SG sg L xs) (hE : eOK sg E) (hsc : t1 = 14 → decode cc pc = .ok (.iaload, 1)) (h13 : 13 ≤ t1 ∧ t1 ≤ 19 ∧ 13 ≤ t2 ∧ t2 ≤ 19) (hrow : ∀ (t k n : Nat) (la : List rV) (v : Value) (H : Heap) (locs : List Loc) (ls : Array Slot) (rest : List Value), (t = t1 ∨ t = t2) → H[B + k]? = some (arrV (cy t) la.length (fun j => aV sg b B t (la.getD j rd))) → ¬ (nI n < 0 ∨ la.length ≤ (nI n).toNatClampNeg) → (arrV (cy t) la.length (fun j => aV sg b B t (la.getD j rd))).slots[(nI n).toNatClampNeg]? = some v → W p l e R s m args below meth c H locs cn z Q (F0 m (pc + 1) ls (v :: rest)) → W p l e R s m args below meth c H locs cn z Q (F0 m pc ls (.int (nI n) :: .ref (B + k) :: rest))) (h : ald t1 t2 L E pc lv st aw cn z = some o) : Sem p l e R s m args below meth c Q sg b B cy dC dI nL cc own ret mc ms o (pc, lv, st, aw, cn, z) := by
  obtain ⟨hx, hb, hml, ho, hts, hsf, hin⟩ := F
  unfold ald at h
  split at h
  · next i k r =>
    split at h
    · next n hn =>
      have en := nd_ok hE hn
      split at h
      · next =>
        split at h
        · next v hv =>
          cases h1 : (Nat.beq t1 14 && (Nat.ble n 2147483647 && Nat.ble v 4294967295)) with
          | false => rw [h1] at h; cases h
          | true =>
            rw [h1, cond_true] at h
            cases h
            rw [Bool.and_eq_true, Bool.and_eq_true] at h1
            have g1 := Nat.eq_of_beq_eq_true h1.1
            have g3 := Nat.le_of_ble_eq_true h1.2.1
            have g4 := Nat.le_of_ble_eq_true h1.2.2
            rw [rget_eq] at hv
            have g2 : n < L.length := (List.getElem?_eq_some_iff.mp hv).1
            intro kk aw' H locs ls hr hP hH hS hl
            have hX := hsf.2.2.2.1
            have hbB := hsf.2.2.2.2.1
            have hBs := hsf.2.2.2.2.2.1
            refine va_sld (i := ri sg i) hx hb hX (by omega) (show ¬ B ≤ b by omega) hS ?_ (hsc g1) ?_
            · rw [en.2]
              exact ix_ok g2 (by omega)
            · have e1 : xs (ri sg i).toNatClampNeg = ri sg v := by
                have e2 := hs.2.2.2.1 n g2
                rw [hv] at e2
                rw [en.2, nI_clamp (by omega), Option.some.inj e2, ri_cN]
              rw [e1]
              exact kk aw' H locs ls hr hP hH hS hl
        · cases h
      · next k =>
        split at h
        · next q hq =>
          cases h2 : (Nat.beq q.1 t1 || Nat.beq q.1 t2) with
          | false => rw [h2] at h; cases h
          | true =>
            rw [h2, cond_true] at h
            split at h
            · next v hv =>
              cases h3 : (Nat.ble n 2147483647 && vt q.1 v) with
              | false => rw [h3] at h; cases h
              | true =>
                rw [h3, cond_true] at h
                cases h
                rw [Bool.and_eq_true] at h3
                rw [Bool.or_eq_true] at h2
                have ht : q.1 = t1 ∨ q.1 = t2 := h2.imp Nat.eq_of_beq_eq_true Nat.eq_of_beq_eq_true
                have ht13 : 13 ≤ q.1 ∧ q.1 ≤ 19 := by omega
                rw [rget_eq] at hv
                have hlt : n < q.2.length := (List.getElem?_eq_some_iff.mp hv).1
                have hn31 := Nat.le_of_ble_eq_true h3.1
                intro kk aw' H locs ls hr hP hH hS hl
                have hq' := rep_get hr hq
                have hc := at_arr hP hq' ht13.1
                have key := hrow q.1 k n q.2 (rv sg b B v) H locs ls (r.map (rv sg b B)) ht hc (ix_ok hlt hn31) (by
                  rw [nI_clamp (by omega), arrV_read _ _ hlt]
                  rw [List.getD_eq_getElem?_getD, hv]
                  exact congrArg some (vt_ok ht13.1 h3.2)) (kk aw' H locs ls hr hP hH hS hl)
                rw [← en.2] at key
                exact key
            · cases h
        · cases h
    · exact spl_ok h
  · cases h
theorem cyq {cy : Nat → ClassId} {sg : Nat → Int32} {b B t : Nat} {l : List rV} : (arrV (cy t) l.length (fun j => aV sg b B t (l.getD j rd))).vm ≠ .unknown := fun q => by cases q
theorem s_iald {p : Program} {l : Launch} {e : Env} {R : Room} {s : State} {m : MethodId} {args : Array Value} {below : List Frame} {meth : Method} {c : Code} {Q : State → Prop} {sg : Nat → Int32} {b B : Nat} {L : List Nat} {xs : Nat → Int32} {dC : Nat → ClassId} {dI : Nat → Nat → Nat} {cy : Nat → ClassId} {cc : ByteArray} {nL own : Nat} {ini : Bool} {ret : Option FieldType} {mc ms : Nat} {E : rE} {pc : Nat} {lv : rK} {st : List rV} {aw : rD} {cn z : Nat} {o : rO} (F : FF p s m args meth c cc nL own ini b B L xs dC dI cy) (hs : SG sg L xs) (hE : eOK sg E) (hdg : decode cc pc = .ok (.iaload, 1)) (h : h_ald 14 14 tT own ret ini mc ms L E pc lv st aw cn z = some o) : Sem p l e R s m args below meth c Q sg b B cy dC dI nL cc own ret mc ms o (pc, lv, st, aw, cn, z) := by
  refine s_ald F hs hE (fun _ => hdg) (by decide) ?_ h
  intro t k n l v H locs ls rest ht hc hin hv kk
  obtain ⟨hx, hb, hml, ho, hts, hsf, -⟩ := F
  have e : t = 14 := by omega
  subst e
  exact W.iald hx hb hc (isA hsf.1 (by decide) (by decide) _ _) cyq (by rw [arrV_size]; exact hin) hv rfl rfl hdg kk
theorem s_lald {p : Program} {l : Launch} {e : Env} {R : Room} {s : State} {m : MethodId} {args : Array Value} {below : List Frame} {meth : Method} {c : Code} {Q : State → Prop} {sg : Nat → Int32} {b B : Nat} {L : List Nat} {xs : Nat → Int32} {dC : Nat → ClassId} {dI : Nat → Nat → Nat} {cy : Nat → ClassId} {cc : ByteArray} {nL own : Nat} {ini : Bool} {ret : Option FieldType} {mc ms : Nat} {E : rE} {pc : Nat} {lv : rK} {st : List rV} {aw : rD} {cn z : Nat} {o : rO} (F : FF p s m args meth c cc nL own ini b B L xs dC dI cy) (hs : SG sg L xs) (hE : eOK sg E) (hdg : decode cc pc = .ok (.laload, 1)) (h : h_ald 15 15 tT own ret ini mc ms L E pc lv st aw cn z = some o) : Sem p l e R s m args below meth c Q sg b B cy dC dI nL cc own ret mc ms o (pc, lv, st, aw, cn, z) := by
  refine s_ald F hs hE (fun q => by cases q) (by decide) ?_ h
  intro t k n l v H locs ls rest ht hc hin hv kk
  obtain ⟨hx, hb, hml, ho, hts, hsf, -⟩ := F
  have e : t = 15 := by omega
  subst e
  exact W.lald hx hb hc (isA hsf.1 (by decide) (by decide) _ _) cyq (by rw [arrV_size]; exact hin) hv rfl rfl hdg kk
theorem s_bald {p : Program} {l : Launch} {e : Env} {R : Room} {s : State} {m : MethodId} {args : Array Value} {below : List Frame} {meth : Method} {c : Code} {Q : State → Prop} {sg : Nat → Int32} {b B : Nat} {L : List Nat} {xs : Nat → Int32} {dC : Nat → ClassId} {dI : Nat → Nat → Nat} {cy : Nat → ClassId} {cc : ByteArray} {nL own : Nat} {ini : Bool} {ret : Option FieldType} {mc ms : Nat} {E : rE} {pc : Nat} {lv : rK} {st : List rV} {aw : rD} {cn z : Nat} {o : rO} (F : FF p s m args meth c cc nL own ini b B L xs dC dI cy) (hs : SG sg L xs) (hE : eOK sg E) (hdg : decode cc pc = .ok (.baload, 1)) (h : h_ald 13 16 tT own ret ini mc ms L E pc lv st aw cn z = some o) : Sem p l e R s m args below meth c Q sg b B cy dC dI nL cc own ret mc ms o (pc, lv, st, aw, cn, z) := by
  refine s_ald F hs hE (fun q => by cases q) (by decide) ?_ h
  intro t k n l v H locs ls rest ht hc hin hv kk
  obtain ⟨hx, hb, hml, ho, hts, hsf, -⟩ := F
  rcases ht with rfl | rfl
  · exact W.bald hx hb hc (isA hsf.1 (by decide) (by decide) _ _) cyq (by rw [arrV_size]; exact hin) hv rfl rfl hdg kk
  · exact W.zald hx hb hc (isA hsf.1 (by decide) (by decide) _ _) cyq (by rw [arrV_size]; exact hin) hv rfl rfl hdg kk
theorem s_aald {p : Program} {l : Launch} {e : Env} {R : Room} {s : State} {m : MethodId} {args : Array Value} {below : List Frame} {meth : Method} {c : Code} {Q : State → Prop} {sg : Nat → Int32} {b B : Nat} {L : List Nat} {xs : Nat → Int32} {dC : Nat → ClassId} {dI : Nat → Nat → Nat} {cy : Nat → ClassId} {cc : ByteArray} {nL own : Nat} {ini : Bool} {ret : Option FieldType} {mc ms : Nat} {E : rE} {pc : Nat} {lv : rK} {st : List rV} {aw : rD} {cn z : Nat} {o : rO} (F : FF p s m args meth c cc nL own ini b B L xs dC dI cy) (hs : SG sg L xs) (hE : eOK sg E) (hdg : decode cc pc = .ok (.aaload, 1)) (h : h_aald tT own ret ini mc ms L E pc lv st aw cn z = some o) : Sem p l e R s m args below meth c Q sg b B cy dC dI nL cc own ret mc ms o (pc, lv, st, aw, cn, z) := by
  have main : ∀ o', ald 17 19 L E pc lv st aw cn z = some o' → Sem p l e R s m args below meth c Q sg b B cy dC dI nL cc own ret mc ms o' (pc, lv, st, aw, cn, z) := by
    intro o' h'
    refine s_ald F hs hE (fun q => by cases q) (by decide) ?_ h'
    intro t k n l v H locs ls rest ht hc hin hv kk
    obtain ⟨hx, hb, hml, ho, hts, hsf, -⟩ := F
    rcases ht with rfl | rfl
    · exact W.aald hx hb hc (isA hsf.1 (by decide) (by decide) _ _) rfl cyq (by rw [arrV_size]; exact hin) hv rfl rfl hdg kk
    · exact W.aald hx hb hc (isA hsf.1 (by decide) (by decide) _ _) rfl cyq (by rw [arrV_size]; exact hin) hv rfl rfl hdg kk
  have main2 : ∀ o', ald 18 18 L E pc lv st aw cn z = some o' → Sem p l e R s m args below meth c Q sg b B cy dC dI nL cc own ret mc ms o' (pc, lv, st, aw, cn, z) := by
    intro o' h'
    refine s_ald F hs hE (fun q => by cases q) (by decide) ?_ h'
    intro t k n l v H locs ls rest ht hc hin hv kk
    obtain ⟨hx, hb, hml, ho, hts, hsf, -⟩ := F
    rcases ht with rfl | rfl
    · exact W.aald hx hb hc (isA hsf.1 (by decide) (by decide) _ _) rfl cyq (by rw [arrV_size]; exact hin) hv rfl rfl hdg kk
    · exact W.aald hx hb hc (isA hsf.1 (by decide) (by decide) _ _) rfl cyq (by rw [arrV_size]; exact hin) hv rfl rfl hdg kk
  have main3 : ∀ o', (match ald 17 19 L E pc lv st aw cn z with | some o => some o | none => ald 18 18 L E pc lv st aw cn z) = some o' → Sem p l e R s m args below meth c Q sg b B cy dC dI nL cc own ret mc ms o' (pc, lv, st, aw, cn, z) := by
    intro o' h'
    split at h'
    · next o1 h1 => cases h'; exact main _ h1
    · exact main2 _ h'
  unfold h_aald at h
  split at h
  · next h' => cases h; exact main3 _ h'
  · next h' => cases h; exact main3 _ h'
  · cases h
theorem el_ok {sg : Nat → Int32} {L : List Nat} {xs : Nat → Int32} (hs : SG sg L xs) {b B n : Nat} {t : Nat} (h : ok_el t (.inl n) = true) : (t = 14 ∨ (t = 16 ∧ narrow .boolean (.int (ri sg n)) = .int (ri sg n)) ∨ (t = 13 ∧ narrow .byte (.int (ri sg n)) = .int (ri sg n))) := by
  have h' : (Nat.beq t 14 || (Nat.beq t 16 && Nat.ble n 1) || (Nat.beq t 13 && (Nat.ble n 127 || (Nat.ble 4294967168 n && Nat.ble n 4294967295)))) = true := h
  rw [Bool.or_eq_true, Bool.or_eq_true, Bool.and_eq_true, Bool.and_eq_true, Bool.or_eq_true, Bool.and_eq_true] at h'
  rcases h' with (g | ⟨g1, g2⟩) | ⟨g1, g2⟩
  · exact Or.inl (Nat.eq_of_beq_eq_true g)
  · refine Or.inr (Or.inl ⟨Nat.eq_of_beq_eq_true g1, ?_⟩)
    have g2 := Nat.le_of_ble_eq_true g2
    have : n = 0 ∨ n = 1 := by omega
    rcases this with rfl | rfl
    · rw [ri_c (by decide)]; decide
    · rw [ri_c (by decide)]; decide
  · refine Or.inr (Or.inr ⟨Nat.eq_of_beq_eq_true g1, ?_⟩)
    have key : ∃ y : Int32, ri sg n = y.toInt8.toInt32 := by
      refine ⟨nI n, ?_⟩
      have hn : n < 4294967296 := by
        rcases g2 with g | g
        · have := Nat.le_of_ble_eq_true g; omega
        · have := Nat.le_of_ble_eq_true g.2; omega
      rw [ri_c hn]
      apply Int32.toInt_inj.mp
      rw [Int8.toInt_toInt32, Int32.toInt_toInt8, nI_int]
      rcases g2 with g | g
      · have := Nat.le_of_ble_eq_true g
        rw [Int.bmod_def, Int.bmod_def]
        omega
      · have g3 := Nat.le_of_ble_eq_true g.1
        have g4 := Nat.le_of_ble_eq_true g.2
        rw [Int.bmod_def, Int.bmod_def]
        omega
    obtain ⟨y, hy⟩ := key
    rw [hy]
    exact pk_nb _
