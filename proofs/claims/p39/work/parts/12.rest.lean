/-! rules: arrays of arrays, copies, calls -/
theorem wsn_k {β : Type} (v : rC) (K : rD → β) : ∀ (n : Nat) (D : rD), wsn n v D K = K (wsn n v D (fun d => d)) := by
  intro n
  induction n with
  | zero => intro D; rfl
  | succ n ih =>
    intro D
    show wsnoc v D (fun D => wsn n v D K) = K (wsnoc v D (fun D => wsn n v D (fun d => d)))
    rw [wsnoc_k, wsnoc_k v D (fun D => wsn n v D (fun d => d))]
    exact ih _
theorem wsn_rep (v : rC) : ∀ (n : Nat) {D : rD} {aw : List rC}, rep D aw → rep (wsn n v D (fun d => d)) (aw ++ List.replicate n v) := by
  intro n
  induction n with
  | zero => intro D aw h; rw [List.replicate_zero, List.append_nil]; exact h
  | succ n ih =>
    intro D aw h
    have h1 := ih (wsnoc_rep h v)
    rw [List.append_assoc, List.singleton_append, ← List.replicate_succ] at h1
    have e : wsn (n + 1) v D (fun d => d) = wsn n v (wsnoc v D (fun d => d)) (fun d => d) := by
      show wsnoc v D (fun D => wsn n v D (fun d => d)) = _
      rw [wsnoc_k]
    rw [e]
    exact h1
theorem out_arr (c : ClassId) (N h0 : Nat) : ∀ i : Nat, Jvm.Free.Multi.outerC c N h0 i = arrV c N (fun j => va_rf (if j < i then some (h0 + 1 + j) else none))
  | 0 => by
    show ({ cls := c, slots := Array.replicate N .null, vm := .none } : Cell) = _
    rw [arrV_new]
    exact arr_cong _ _ (fun j _ => by simp [va_rf])
  | i + 1 => by
    show (Jvm.Free.Multi.outerC c N h0 i).setSlot i (.ref (h0 + 1 + i)) = _
    rw [out_arr c N h0 i, arrV_store]
    refine arr_cong _ _ (fun j _ => ?_)
    unfold updV
    by_cases e : j = i
    · subst e
      simp [va_rf]
    · by_cases h : j < i
      · simp [e, h, Nat.lt_succ_of_lt h]
      · simp [e, h, show ¬ j < i + 1 by omega]
theorem s_mnew {p : Program} {l : Launch} {e : Env} {R : Room} {s : State} {m : MethodId} {args : Array Value} {below : List Frame} {meth : Method} {c : Code} {Q : State → Prop} {sg : Nat → Int32} {b B : Nat} {L : List Nat} {xs : Nat → Int32} {dC : Nat → ClassId} {dI : Nat → Nat → Nat} {cy : Nat → ClassId} {cc : ByteArray} {nL own : Nat} {ini : Bool} {ret : Option FieldType} {mc ms : Nat} {E : rE} {pc : Nat} {lv : rK} {st : List rV} {aw : rD} {cn z : Nat} {o : rO} {i d : Nat} (hR : R.cells = mc ∧ R.slots = ms) (F : FF p s m args meth c cc nL own ini b B L xs dC dI cy) (hO : OT) (hE : eOK sg E) (hdg : decode cc pc = .ok (.multianewarray i d, 4)) (h : h_mnew i d tT own ret ini mc ms L E pc lv st aw cn z = some o) : Sem p l e R s m args below meth c Q sg b B cy dC dI nL cc own ret mc ms o (pc, lv, st, aw, cn, z) := by
  obtain ⟨hx, hb, hml, ho, hts, hsf, hini⟩ := F
  unfold h_mnew at h
  split at h
  · next y x r =>
    split at h
    · next ci hk =>
      split at h
      · next n hn =>
        split at h
        · next k hkk =>
          cases h1 : (Nat.beq d 2 && (Nat.beq ci 19 && (Nat.ble n 1000 && (Nat.ble k 1000 && (Nat.ble (Nat.add cn (Nat.add 1 n)) mc && Nat.ble (Nat.add z (Nat.add n (Nat.mul n k))) ms))))) with
          | false => rw [h1] at h; cases h
          | true =>
            rw [h1, cond_true, wsnoc_k, wsn_k] at h
            cases h
            rw [Bool.and_eq_true, Bool.and_eq_true, Bool.and_eq_true, Bool.and_eq_true, Bool.and_eq_true] at h1
            have g0 := Nat.eq_of_beq_eq_true h1.1
            have g1 := Nat.eq_of_beq_eq_true h1.2.1
            have g2 := Nat.le_of_ble_eq_true h1.2.2.1
            have g3 := Nat.le_of_ble_eq_true h1.2.2.2.1
            have g4 : cn + (1 + n) ≤ mc := Nat.le_of_ble_eq_true h1.2.2.2.2.1
            have g5 : z + (n + n * k) ≤ ms := Nat.le_of_ble_eq_true h1.2.2.2.2.2
            subst g0
            subst g1
            have en := nd_ok hE hn
            have ek := nd_ok hE hkk
            have hlink := (hO.2.2.1 own i 19 (kf_mem hk)).2 rfl
            have hint := hO.2.2.2.2.2.2.2.2.2.2.2.2.1
            intro kk aw' H locs ls hr hP hH hS hl
            have key : W p l e R s m args below meth c H locs cn z Q (F0 m pc ls (.int (nI k) :: .int (nI n) :: r.map (rv sg b B))) := by
              intro T hT Xs
              have cn31 : (nI n).toNatClampNeg = n := nI_clamp (by omega)
              have ck31 : (nI k).toNatClampNeg = k := nI_clamp (by omega)
              obtain ⟨vm₁, cA, comp, -, fA, fC, -, -, X', step⟩ := Xs.multianewarray2F hx (ty := .int) ho (hts _ hlink) (show (Cond.arrayOver (.array .int)).before args s = true from hsf.2.1.2.2) (hts _ hint) (g := F0 m pc ls (.int (nI k) :: .int (nI n) :: r.map (rv sg b B))) rfl (by rw [hb]; exact hdg) rfl (nI_pos (by omega)) (nI_pos (by omega)) (by rw [cn31]; omega) (by rw [ck31]; show k * 4 ≤ _; omega) (by rw [ck31]; omega) rfl rfl (by rw [cn31, hR.1]; exact g4) (by rw [cn31, ck31, hR.2]; exact g5)
              rw [cn31, ck31] at X' step
              have hcA : cA = cy 19 := Option.some.inj (fA.symm.trans (hsf.1.2 6 _ rfl).2)
              have hcomp : comp = cy 14 := Option.some.inj (fC.symm.trans (hsf.1.2 1 _ rfl).2)
              subst hcA
              subst hcomp
              have hTh : (T.setVm vm₁).heap = H := hT
              obtain ⟨f1, f2, -, -⟩ := Jvm.Free.Multi.fill_facts (T.setVm vm₁) (cy 19) (cy 14) n k (defaultValue .int) n
              have hold : ∀ a : Nat, a < H.size → (Jvm.Free.Multi.fill (T.setVm vm₁) (cy 19) (cy 14) n k (defaultValue .int) n).heap[a]? = H[a]? := fun a ha => by
                have := Jvm.Free.Multi.fill_old (T.setVm vm₁) (cy 19) (cy 14) n k (defaultValue .int) (a := a) (by rw [hTh]; exact ha) n
                rw [hTh] at this
                exact this
              have hinn : ∀ j : Nat, j < n → (Jvm.Free.Multi.fill (T.setVm vm₁) (cy 19) (cy 14) n k (defaultValue .int) n).heap[H.size + 1 + j]? = some (arrV (cy 14) k (fun _ => .int 0)) := fun j hj => by
                have := Jvm.Free.Multi.fill_inner (T.setVm vm₁) (cy 19) (cy 14) n k (defaultValue .int) n j hj
                rw [hTh] at this
                rw [this]
                exact congrArg some (arrV_new (cy 14) k (.int 0))
              rw [hTh] at f1 f2
              rw [out_arr] at f2
              generalize (Jvm.Free.Multi.fill (T.setVm vm₁) (cy 19) (cy 14) n k (defaultValue .int) n) = F at X' step f1 f2 hold hinn
              have hawl : aw.1 = aw'.length := hr.1
              have hP1 : va_P (dC, dI) vwCl (rW sg b B cy ((aw' ++ [(19, (List.range n).map (fun j => .inr (.inr (some (Nat.add aw.1 (Nat.add 2 j))))))]) ++ List.replicate n (14, List.replicate k (.inl 0)))) F.heap := by
                intro i' q hq
                rw [rW_at] at hq
                cases hc : ((aw' ++ [(19, (List.range n).map (fun j => .inr (.inr (some (Nat.add aw.1 (Nat.add 2 j))))))]) ++ List.replicate n (14, List.replicate k (.inl 0)))[i']? with
                | none => rw [hc] at hq; cases hq
                | some cl =>
                  rw [hc] at hq
                  cases hq
                  rcases Nat.lt_trichotomy i' aw'.length with q1 | q1 | q1
                  · rw [List.append_assoc, List.getElem?_append_left q1] at hc
                    have hat := hP i' _ (rW_get hc)
                    exact hat.kept (hold _ (by show B + i' < H.size; omega))
                  · subst q1
                    rw [List.append_assoc, List.getElem?_append_right (Nat.le_refl _), Nat.sub_self] at hc
                    cases hc
                    show va_at (dC, dI) vwCl (B + aw'.length, rce sg b B cy (19, (List.range n).map (fun j => .inr (.inr (some (Nat.add aw.1 (Nat.add 2 j))))))) F.heap
                    rw [rce_arr (q := (19, (List.range n).map (fun j => .inr (.inr (some (Nat.add aw.1 (Nat.add 2 j))))))) (show 13 ≤ 19 by decide)]
                    show F.heap[B + aw'.length]? = some (vp_cell _ _)
                    rw [rA_cell, ← hH, f2, List.length_map, List.length_range]
                    congr 1
                    refine arr_cong _ _ (fun j hj => ?_)
                    rw [if_pos hj, List.getD_eq_getElem?_getD, List.getElem?_map, List.getElem?_range hj]
                    show va_rf (some (H.size + 1 + j)) = va_rf (some (ra b B (Nat.add aw.1 (Nat.add 2 j))))
                    rw [show Nat.add aw.1 (Nat.add 2 j) = (aw.1 + 1 + j) + 1 by show aw.1 + (2 + j) = _; omega]
                    show va_rf (some (H.size + 1 + j)) = va_rf (some (B + (aw.1 + 1 + j)))
                    rw [hH, hawl]
                    congr 2
                    omega
                  · rw [List.append_assoc, List.getElem?_append_right (by omega), List.singleton_append] at hc
                    obtain ⟨j, hj⟩ : ∃ j, i' = aw'.length + 1 + j := ⟨i' - aw'.length - 1, by omega⟩
                    subst hj
                    rw [show aw'.length + 1 + j - aw'.length = j + 1 by omega, List.getElem?_cons_succ, List.getElem?_replicate] at hc
                    by_cases hjn : j < n
                    · rw [if_pos hjn] at hc
                      cases hc
                      show va_at (dC, dI) vwCl (B + (aw'.length + 1 + j), rce sg b B cy (14, List.replicate k (.inl 0))) F.heap
                      rw [rce_arr (q := (14, List.replicate k (.inl 0))) (show 13 ≤ 14 by decide)]
                      show F.heap[B + (aw'.length + 1 + j)]? = some (vp_cell _ _)
                      rw [rA_cell, show B + (aw'.length + 1 + j) = H.size + 1 + j by omega, hinn j hjn, List.length_replicate]
                      congr 1
                      refine arr_cong _ _ (fun a ha => ?_)
                      rw [List.getD_eq_getElem?_getD, List.getElem?_replicate, if_pos ha]
                      rfl
                    · rw [if_neg hjn] at hc
                      cases hc
              have hsz : F.heap.size = B + ((aw' ++ [(19, (List.range n).map (fun j => .inr (.inr (some (Nat.add aw.1 (Nat.add 2 j))))))]) ++ List.replicate n (14, List.replicate k (.inl 0)) : List rC).length := by
                rw [List.length_append, List.length_append, List.length_replicate, f1, hH]
                show B + aw'.length + 1 + n = B + (aw'.length + 1 + n)
                omega
              obtain ⟨t, a1, b1⟩ := kk _ F.heap locs ls (wsn_rep _ n (wsnoc_rep hr _)) hP1 hsz ⟨Nat.le_trans hS.1 (by rw [f1]; omega), fun q g1 g2 => (hold q (Nat.lt_of_lt_of_le g1 hS.1)).trans (hS.2.1 q g1 g2), hS.2.2⟩ hl F rfl X'
              refine ⟨t, step t ?_, b1⟩
              have er : rv sg b B (.inr (.inr (some (Nat.succ aw.1)))) = .ref T.heap.size := by
                show Value.ref (B + aw.1) = _
                rw [hT, hH, hawl]
              rw [← er]
              exact a1
            rw [← en.2, ← ek.2] at key
            exact key
        · cases h
      · cases h
    · cases h
  · cases h
theorem acopy_inv {E : rE} {pc : Nat} {lv : rK} {st : List rV} {aw : rD} {cn z : Nat} {o : rO} (h : acopy E pc lv st aw cn z = some o) : ∃ (n dp sp n' : Nat) (k j : Nat) (r : List rV) (q w : rC), st = .inl n :: .inl dp :: .inr (.inr (some (k + 1))) :: .inl sp :: .inr (.inr (some (j + 1))) :: r ∧ nd E n = some n' ∧ nd E dp = some 0 ∧ nd E sp = some 0 ∧ wget aw k = some q ∧ wget aw j = some w ∧ q.1 = 14 ∧ w.1 = 14 ∧ n' = q.2.length ∧ n' = w.2.length ∧ n' ≤ 2147483647 ∧ csum r ≤ 8 ∧ o = .inl (Nat.add pc 3, lv, r, wset (14, w.2) aw k (fun d => d), cn, z) := by
  unfold acopy at h
  split at h
  · next n dp k sp j r =>
    split at h
    · next n' hn =>
      split at h
      · next dp' hdp =>
        split at h
        · next sp' hsp =>
          split at h
          · next q hq =>
            split at h
            · next w hw =>
              cases h1 : (Nat.beq q.1 14 && Nat.beq w.1 14 && Nat.beq sp' 0 && Nat.beq dp' 0 && Nat.beq n' q.2.length && Nat.beq n' w.2.length && Nat.ble n' 2147483647 && Nat.ble (csum r) 8) with
              | false => rw [h1] at h; cases h
              | true =>
                rw [h1, cond_true, wset_k] at h
                cases h
                simp only [Bool.and_eq_true] at h1
                obtain ⟨⟨⟨⟨⟨⟨⟨a1, a2⟩, a3⟩, a4⟩, a5⟩, a6⟩, a7⟩, a8⟩ := h1
                have a3 := Nat.eq_of_beq_eq_true a3
                have a4 := Nat.eq_of_beq_eq_true a4
                subst a3
                subst a4
                exact ⟨n, dp, sp, n', k, j, r, q, w, rfl, hn, hdp, hsp, hq, hw, Nat.eq_of_beq_eq_true a1, Nat.eq_of_beq_eq_true a2, Nat.eq_of_beq_eq_true a5, Nat.eq_of_beq_eq_true a6, Nat.le_of_ble_eq_true a7, Nat.le_of_ble_eq_true a8, rfl⟩
            · cases h
          · cases h
        · cases h
      · cases h
    · cases h
  · cases h
theorem csum_eq {sg : Nat → Int32} {b B : Nat} (r : List rV) : ((r.map (rv sg b B)).map fun v => v.category).sum = csum r := by
  unfold csum
  rw [List.map_map]
  congr 1
  apply List.map_congr_left
  intro v _
  exact ct_eq v
theorem nn0 {n : Nat} (h : n ≤ 2147483647) : (nI n).toInt = (n : Int) := nI_toInt (by omega)
theorem s_acopy {p : Program} {l : Launch} {e : Env} {R : Room} {s : State} {m : MethodId} {args : Array Value} {below : List Frame} {meth : Method} {c : Code} {Q : State → Prop} {sg : Nat → Int32} {b B : Nat} {L : List Nat} {xs : Nat → Int32} {dC : Nat → ClassId} {dI : Nat → Nat → Nat} {cy : Nat → ClassId} {cc : ByteArray} {nL own : Nat} {ini : Bool} {ret : Option FieldType} {mc ms : Nat} {E : rE} {pc : Nat} {lv : rK} {st : List rV} {aw : rD} {cn z : Nat} {o : rO} {i : Nat} (hF : 1 ≤ R.frames ∧ 8 + (nativeFrameWords "java/lang/System" "arraycopy" 5 + 11) ≤ R.locals) (F : FF p s m args meth c cc nL own ini b B L xs dC dI cy) (hO : OT) (hE : eOK sg E) (hlink : Cond.methodLink (oN own) i arraycopyName ∈ TG) (hdg : decode cc pc = .ok (.invokestatic i, 3)) (h : acopy E pc lv st aw cn z = some o) : Sem p l e R s m args below meth c Q sg b B cy dC dI nL cc own ret mc ms o (pc, lv, st, aw, cn, z) := by
  obtain ⟨hx, hb, hml, ho, hts, hsf, hini⟩ := F
  obtain ⟨n, dp, sp, n', k, j, r, q, w, rfl, hn, hdp, hsp, hq, hw, q14, w14, hq', hw', hn31, hc8, rfl⟩ := acopy_inv h
  have en := (nd_ok hE hn).2
  have ed : ri sg dp = nI 0 := (nd_ok hE hdp).2
  have es : ri sg sp = nI 0 := (nd_ok hE hsp).2
  obtain ⟨-, -, -, -, -, -, -, -, w1, w2, w3, -⟩ := hO
  intro kk aw' H locs ls hr hP hH hS hl
  have hqa := rep_get hr hq
  have hwa := rep_get hr hw
  have hc1 := at_arr hP hqa (by omega)
  have hc0 := at_arr hP hwa (by omega)
  rw [q14] at hc1
  rw [w14] at hc0
  have key : W p l e R s m args below meth c H locs cn z Q (F0 m pc ls (.int (nI n') :: .int (nI 0) :: .ref (B + k) :: .int (nI 0) :: .ref (B + j) :: r.map (rv sg b B))) := by
    intro T hT X
    obtain ⟨-, k0, hk0, cm0, hkk0⟩ := isA hsf.1 (t := 14) (by decide) (by decide) w.2.length (fun a => aV sg b B 14 (w.2.getD a rd))
    obtain ⟨-, k1, hk1, cm1, hkk1⟩ := isA hsf.1 (t := 14) (by decide) (by decide) q.2.length (fun a => aV sg b B 14 (q.2.getD a rd))
    have z0 : (nI 0).toNatClampNeg = 0 := nI_clamp (by decide)
    have cn31 : (nI n').toNatClampNeg = n' := nI_clamp (by omega)
    obtain ⟨vm', X', step⟩ := X.arraycopy hx ho (hts _ hlink) (hts _ w1) (hts _ w2) (hts _ w3) (src := B + j) (dst := B + k) (srcPos := nI 0) (destPos := nI 0) (n := nI n') (by rw [hT]; exact hc0) (by rw [hT]; exact hc1)
      (fun _ h => by cases h) (fun _ h => by cases h) (fun h => by cases h) (fun h => by cases h) hk0 hk1 hkk0 hkk1 (by simp [tyA, refKind]) (nI_pos (by decide)) (nI_pos (by decide)) (nI_pos (by omega))
      (by rw [nn0 (by decide), nn0 hn31, arrV_size]; omega)
      (by rw [nn0 (by decide), nn0 hn31, arrV_size]; omega)
      (fun vm₁ _ a ha => by
        rw [cn31] at ha
        have e : (arrV (cy 14) w.2.length (fun a => aV sg b B 14 (w.2.getD a rd))).slots.getD ((nI 0).toNatClampNeg + a) .null = .int (rI sg (w.2.getD a rd)) := by
          rw [z0, Nat.zero_add, Array.getD_eq_getD_getElem?, arrV_read _ _ (by omega)]
          rfl
        refine ⟨?_, ?_⟩
        · rw [e]
          rfl
        · rw [e]
          exact trivial)
      (g := F0 m pc ls (.int (nI n') :: .int (nI 0) :: .ref (B + k) :: .int (nI 0) :: .ref (B + j) :: r.map (rv sg b B))) rfl (by rw [hml]; exact hl.1) (rest := r.map (rv sg b B)) rfl (by rw [hb]; exact hdg) hF.1 (by rw [csum_eq]; show 2 * 0 + _ + _ ≤ _; have := hF.2; omega)
    have hcell : copied (arrV (cy 14) w.2.length (fun a => aV sg b B 14 (w.2.getD a rd))) (arrV (cy 14) q.2.length (fun a => aV sg b B 14 (q.2.getD a rd))) (nI 0) (nI 0) (nI n') = arrV (cy 14) w.2.length (fun a => aV sg b B 14 (w.2.getD a rd)) := by
      have e1 := va_copied (fun z => Value.int z) (cy 14) (cy 14) (fun a => rI sg (w.2.getD a rd)) (fun a => rI sg (q.2.getD a rd)) (n0 := w.2.length) (n1 := q.2.length) (sp := 0) (dp := 0) (n := n') (by omega)
      show (arrV (cy 14) q.2.length (fun a => aV sg b B 14 (q.2.getD a rd))).storeRun (nI 0).toNatClampNeg ((arrV (cy 14) w.2.length (fun a => aV sg b B 14 (w.2.getD a rd))).stretch (nI 0).toNatClampNeg (nI n').toNatClampNeg) = _
      rw [z0, cn31]
      refine Eq.trans e1 ?_
      rw [show q.2.length = w.2.length by omega]
      refine arr_cong _ _ (fun a ha => ?_)
      show Value.int (va_cpy _ _ 0 0 n' a) = Value.int _
      unfold va_cpy
      rw [if_pos ⟨Nat.zero_le _, by omega⟩]
      simp
    rw [hcell] at X' step
    have hlB : B + k < H.size := (Array.getElem?_eq_some_iff.mp hc1).1
    have hheap : ((T.setVm vm').setCell (B + k) (arrV (cy 14) w.2.length (fun a => aV sg b B 14 (w.2.getD a rd)))).heap = H.setIfInBounds (B + k) (arrV (cy 14) w.2.length (fun a => aV sg b B 14 (w.2.getD a rd))) := by rw [← hT]; rfl
    have oq : ∀ a : Nat, a ≠ B + k → (H.setIfInBounds (B + k) (arrV (cy 14) w.2.length (fun a => aV sg b B 14 (w.2.getD a rd))))[a]? = H[a]? := fun a ha => by simp [Array.getElem?_setIfInBounds, Ne.symm ha]
    obtain ⟨p1, p2, p3⟩ := fin_st (i := 0) (q' := (14, w.2)) (H1 := H.setIfInBounds (B + k) (arrV (cy 14) w.2.length (fun a => aV sg b B 14 (w.2.getD a rd)))) hP hH hS hqa (by
      rw [rce_arr (q := (14, w.2)) (show 13 ≤ 14 by decide)]
      show (H.setIfInBounds (B + k) _)[B + k]? = some (vp_cell _ _)
      rw [rA_cell]
      simp [Array.getElem?_setIfInBounds, hlB]) (by simp) oq
    have hk := fun hS' => kk (aw'.set k (14, w.2)) _ _ ls (wset_rep hr hqa _) p1 p2 hS' hl _ hheap X'
    obtain ⟨t, a1, b1⟩ := hk ⟨p3.1, p3.2.1, fun a ha => by
      rcases List.mem_append.mp ha with h | h
      · exact hS.2.2 a h
      · obtain ⟨z, -, hz⟩ := List.mem_map.mp h
        rw [← hz]
        exact Nat.le_add_right B k⟩
    exact ⟨t, step t a1, b1⟩
  have e1 : Value.int (ri sg n) = .int (nI n') := by rw [en]
  show W p l e R s m args below meth c H locs cn z Q (F0 m pc ls (.int (ri sg n) :: .int (ri sg dp) :: .ref (B + k) :: .int (ri sg sp) :: .ref (B + j) :: r.map (rv sg b B)))
  rw [en, ed, es]
  exact key
theorem cut_ok : ∀ (n : Nat) (st acc As r : List rV), cut n st acc = some (As, r) → ∃ t : List rV, t.length = n ∧ st = t ++ r ∧ As = t.reverse ++ acc := by
  intro n
  induction n with
  | zero =>
    intro st acc As r h
    cases h
    exact ⟨[], rfl, rfl, rfl⟩
  | succ n ih =>
    intro st acc As r h
    cases st with
    | nil => cases h
    | cons v t =>
      obtain ⟨u, h1, h2, h3⟩ := ih t (v :: acc) As r h
      refine ⟨v :: u, by rw [List.length_cons, h1], by rw [h2]; rfl, ?_⟩
      rw [h3, List.reverse_cons, List.append_assoc]
      rfl
theorem cut_ok0 {n : Nat} {st As r : List rV} (h : cut n st [] = some (As, r)) : As.length = n ∧ st = As.reverse ++ r := by
  obtain ⟨t, h1, h2, h3⟩ := cut_ok n st [] As r h
  rw [List.append_nil] at h3
  subst h3
  exact ⟨by rw [List.length_reverse]; exact h1, by rw [List.reverse_reverse]; exact h2⟩
theorem s_call {p : Program} {l : Launch} {e : Env} {R : Room} {s : State} {m : MethodId} {args : Array Value} {below : List Frame} {meth : Method} {c : Code} {Q : State → Prop} {sg : Nat → Int32} {b B : Nat} {L : List Nat} {xs : Nat → Int32} {dC : Nat → ClassId} {dI : Nat → Nat → Nat} {cy : Nat → ClassId} {cc : ByteArray} {nL own : Nat} {ini : Bool} {ret : Option FieldType} {mc ms : Nat} {E : rE} {pc : Nat} {lv : rK} {st : List rV} {aw : rD} {cn z : Nat} {o : rO} {i kind : Nat} (hF : 1 ≤ R.frames ∧ 8 + (nativeFrameWords "java/lang/System" "arraycopy" 5 + 11) ≤ R.locals ∧ 20 ≤ R.locals) (F : FF p s m args meth c cc nL own ini b B L xs dC dI cy) (hO : OT) (hE : eOK sg E) (hd0 : kind = 0 → decode cc pc = .ok (.invokevirtual i, 3)) (hd1 : kind = 1 → decode cc pc = .ok (.invokestatic i, 3)) (hd2 : kind = 2 → decode cc pc = .ok (.invokespecial i, 3)) (h : h_call i kind tT own ret ini mc ms L E pc lv st aw cn z = some o) : Sem p l e R s m args below meth c Q sg b B cy dC dI nL cc own ret mc ms o (pc, lv, st, aw, cn, z) := by
  unfold h_call acall at h
  split at h
  · next k mi np rc hk =>
    split at h
    · -- virtual
      cases hb : Nat.beq kind 0 with
      | false => rw [hb] at h; cases h
      | true =>
        rw [hb, cond_true] at h
        split at h
        · next As j r hcut =>
          split at h
          · next q hq =>
            cases hc : Nat.beq q.1 rc with
            | false => rw [hc] at h; cases h
            | true =>
              rw [hc, cond_true] at h
              cases h8 : Nat.ble (csum r) 8 with
              | false => rw [h8] at h; cases h
              | true =>
                rw [h8, cond_true] at h
                cases h
                obtain ⟨c1, c2⟩ := cut_ok0 hcut
                exact ⟨Nat.le_of_ble_eq_true h8, i, 0, np, rc, hk, Or.inl ⟨rfl, j, q, As, rfl, c2, c1, hq, Nat.eq_of_beq_eq_true hc, hd0 (Nat.eq_of_beq_eq_true hb)⟩⟩
          · cases h
        · cases h
    · -- static
      cases hb : Nat.beq kind 1 with
      | false => rw [hb] at h; cases h
      | true =>
        rw [hb, cond_true] at h
        split at h
        · next As r hcut =>
          cases h8 : Nat.ble (csum r) 8 with
          | false => rw [h8] at h; cases h
          | true =>
            rw [h8, cond_true] at h
            cases h
            obtain ⟨c1, c2⟩ := cut_ok0 hcut
            exact ⟨Nat.le_of_ble_eq_true h8, i, 1, np, rc, hk, Or.inr (Or.inl ⟨rfl, c2, c1, hd1 (Nat.eq_of_beq_eq_true hb)⟩)⟩
        · cases h
    · -- Object's
      cases hb : Nat.beq kind 2 with
      | false => rw [hb] at h; cases h
      | true =>
        rw [hb, cond_true] at h
        split at h
        · next a r =>
          cases h8 : Nat.ble (csum r) 8 with
          | false => rw [h8] at h; cases h
          | true =>
            rw [h8, cond_true] at h
            cases h
            have g8 := Nat.le_of_ble_eq_true h8
            obtain ⟨hx, hb0, hml, ho, hts, hsf, hini⟩ := F
            have hl4 := hO.2.2.2.2.1 own i mi np rc (kf_mem hk)
            obtain ⟨-, -, -, -, -, -, o1, o2, -⟩ := hO
            intro kk aw' H locs ls hr hP hH hS hl
            refine W.objInit (a := ra b B a) (rest := r.map (rv sg b B)) hx hb0 ho (hts _ hl4) (hts _ o1) (hts _ o2) rfl (by rw [hml]; exact hl.1) rfl (hd2 (Nat.eq_of_beq_eq_true hb)) hF.1 (by rw [csum_eq]; show 2 * 0 + _ + _ ≤ _; have := hF.2.2; omega) ?_
            exact kk aw' H locs ls hr hP hH hS hl
        · cases h
    · -- a copy
      cases hb : Nat.beq kind 1 with
      | false => rw [hb] at h; cases h
      | true =>
        rw [hb, cond_true] at h
        exact s_acopy ⟨hF.1, hF.2.1⟩ F hO hE (hO.2.2.2.2.2.1 own i mi np rc (kf_mem hk)) (hd1 (Nat.eq_of_beq_eq_true hb)) h
    · -- a constructor
      next k0 k1 k4 k5 =>
      cases hb : Nat.beq kind 2 with
      | false => rw [hb] at h; cases h
      | true =>
        rw [hb, cond_true] at h
        split at h
        · next As j r hcut =>
          cases h8 : Nat.ble (csum r) 8 with
          | false => rw [h8] at h; cases h
          | true =>
            rw [h8, cond_true] at h
            cases h
            obtain ⟨c1, c2⟩ := cut_ok0 hcut
            exact ⟨Nat.le_of_ble_eq_true h8, i, k, np, rc, hk, Or.inr (Or.inr ⟨k0, k1, k4, k5, j, As, rfl, c2, c1, hd2 (Nat.eq_of_beq_eq_true hb)⟩)⟩
        · cases h
  · cases h
