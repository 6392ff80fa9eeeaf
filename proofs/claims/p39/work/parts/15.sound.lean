/-! the plain machine's runs are the machine's -/
theorem eOK_lo {sg : Nat → Int32} {E : rE} (hE : eOK sg E) {j w : Nat} {q : Nat × Nat} (hq : E[j]? = some q) (h : bz (sg j) < w) : eOK sg (E.set j (q.1, Nat.pred w)) := by
  intro i lo hi hi'
  rw [List.getElem?_set] at hi'
  by_cases e : j = i
  · subst e
    rw [if_pos rfl] at hi'
    split at hi'
    · cases hi'
      have h1 := hE j q.1 q.2 hq
      exact ⟨h1.1, Nat.le_pred_of_lt h⟩
    · cases hi'
  · rw [if_neg e] at hi'
    exact hE i lo hi hi'
theorem eOK_hi {sg : Nat → Int32} {E : rE} (hE : eOK sg E) {j w : Nat} {q : Nat × Nat} (hq : E[j]? = some q) (h : w ≤ bz (sg j)) : eOK sg (E.set j (w, q.2)) := by
  intro i lo hi hi'
  rw [List.getElem?_set] at hi'
  by_cases e : j = i
  · subst e
    rw [if_pos rfl] at hi'
    split at hi'
    · cases hi'
      have h1 := hE j q.1 q.2 hq
      exact ⟨h, h1.2⟩
    · cases hi'
  · rw [if_neg e] at hi'
    exact hE i lo hi hi'
theorem room_ar {d a r : Nat} (h : 200 * (d + 1 + 8) ≤ r) (ha : a ≤ 80) : 8 + (a + 11) + 200 * (d + 8) ≤ r := by
  have e : 200 * (d + 1 + 8) = 200 * (d + 8) + 200 := by
    rw [Nat.add_right_comm d 1 8]
    exact Nat.mul_succ 200 (d + 8)
  rw [e] at h
  generalize 200 * (d + 8) = q at h ⊢
  omega
theorem call_ok {p : Program} {l : Launch} {e : Env} {R : Room} {s : State} {m : MethodId} {args : Array Value} {below : List Frame} {meth : Method} {c : Code} {Q : State → Prop} {cc : ByteArray} {sg : Nat → Int32} {b B : Nat} {L : List Nat} {xs : Nat → Int32} {cy : Nat → ClassId} {dC : Nat → ClassId} {dI : Nat → Nat → Nat} {M M' : rM} {d mi pc cn z : Nat} {lv : rK} {st As r : List rV} {D : rD} {LV : List rF} (hO : OT) (hM : OKM) (hA : OKA) (hmi : mT mi = some M') (hR : R.cells = mC M ∧ R.slots = mS M ∧ (d + 1) + 8 ≤ R.frames ∧ 200 * ((d + 1) + 8) ≤ R.locals) (F : FF p s m args meth c (mBy M) (mLoc M) (mOwn M) (mIni M) b B L xs dC dI cy) (hl80 : mLoc M' ≤ 80) (hcn : cn + mC M' ≤ mC M) (hz : z + mS M' ≤ mS M) (hMet : Met l (yT mi) (.code (yT mi) (mBy M') (mLoc M') (mRet M') :: TG) (rmD d (mC M') (mS M')) (gP sg b B L xs cy dC dI As D) (gQ sg b B cy dC dI LV) (mC M') (mS M') (rG B)) (hC : CallOK (mBy M) (mOwn M) mi As r (pc, lv, st, D, cn, z))
    (kk : ∀ f ∈ LV, eOK sg f.1 → Wx p l e R s m args below meth c Q sg b B cy dC dI (mLoc M) (Nat.add pc 3, lv, f.2.1.toList ++ r, f.2.2, Nat.add cn (mC M'), Nat.add z (mS M'))) : Wx p l e R s m args below meth c Q sg b B cy dC dI (mLoc M) (pc, lv, st, D, cn, z) := by
  obtain ⟨hx, hb, hml, ho, hts, hsf, hini⟩ := F
  obtain ⟨m1, m2, m3, m4, m5, m6, m7, m8, m9⟩ := hM mi M' hmi
  obtain ⟨hc8, i, k, np, rc, hkf, hcase⟩ := hC
  have hwsG : ∀ w ∈ (Cond.code (yT mi) (mBy M') (mLoc M') (mRet M') :: TG), w ∈ TG := fun w hw => (List.mem_cons.mp hw).elim (fun h => by rw [h]; exact m3) (fun h => h)
  intro aw H locs ls hrep hP hH hS hl
  have hU : ∀ U : State, U.heap = H → s.WarmedH U.vm → gP sg b B L xs cy dC dI As D ((As.map (rv sg b B)).toArray) U := by
    intro U hUH hW
    refine ⟨rfl, ⟨aw, hrep, by rw [hUH]; exact hP, by rw [hUH]; exact hH⟩, SF_moved hsf hW ?_ (by rw [hUH, hH]; exact Nat.le_add_right _ _)⟩
    rw [hUH]
    have hBs := hsf.2.2.2.2.2.1
    intro q hq
    exact hS.2.1 q (by omega) (show ¬ B ≤ q by omega)
  have hRr : (rmD d (mC M') (mS M')).frames + 1 ≤ R.frames ∧ 8 + (mLoc M' + 11) + (rmD d (mC M') (mS M')).locals ≤ R.locals := by
    have h1 := hR.2.2.1
    have h2 := hR.2.2.2
    refine ⟨by show d + 8 + 1 ≤ R.frames; omega, ?_⟩
    exact room_ar h2 hl80
  have hfit : cn + mC M' ≤ R.cells ∧ z + mS M' ≤ R.slots := by rw [hR.1, hR.2.1]; exact ⟨hcn, hz⟩
  have fin : ∀ st0 : List Value, va_Run p l e R s m args below meth c H locs cn z (mC M') (mS M') (F0 m pc ls st0) (r.map (rv sg b B)) (gQ sg b B cy dC dI LV (As.map (rv sg b B)).toArray) (rG B) → W p l e R s m args below meth c H locs cn z Q (F0 m pc ls st0) := by
    intro st0 hrun
    refine rcall (cc := mBy M) hrun hS (fun _ h => h) (fun f aw' H1 locs1 hf hfe g1 g2 g3 g4 => ?_)
    have key := kk f hf hfe aw' H1 locs1 ls g1 g2 g3 g4 hl
    have e1 : (f.2.1.toList ++ r).map (rv sg b B) = (f.2.1.map (rv sg b B)).toList ++ r.map (rv sg b B) := by
      rw [List.map_append]
      cases f.2.1 <;> rfl
    rw [← e1]
    exact key
  have hcs : 2 * (F0 m pc ls (st.map (rv sg b B))).monitorRoom + ((r.map (rv sg b B)).map fun v => v.category).sum ≤ 8 := by
    rw [csum_eq]
    show 2 * 0 + _ ≤ 8
    omega
  rcases hcase with ⟨hk, j, q, As', hAs, hst, hlen, hq, hrc, hdg⟩ | ⟨hk, hst, hlen, hdg⟩ | ⟨hk0, hk1, hk4, hk5, j, As', hAs, hst, hlen, hdg⟩
  · subst hk
    obtain ⟨a1, a2, -, -⟩ := hA _ i 0 mi np rc (kf_mem hkf) (by decide) (by decide)
    obtain ⟨b1, b2, b3, b4, T, N, b5⟩ := a2 rfl
    have hq' := rep_get hrep hq
    have he := rW_get (sg := sg) (b := b) (B := B) (cy := cy) hq'
    rw [rce_obj (by rw [hrc]; exact b4), hrc] at he
    refine fin _ ?_
    have hcw : CallW R s args (oN (mOwn M)) (yT mi).cls i (yT mi) (mBy M') (mLoc M') (mRet M') (.code (yT mi) (mBy M') (mLoc M') (mRet M') :: TG) (rmD d (mC M') (mS M')) (mC M') (mS M') np :=
      cwV np hts (goodTG (fun w hw => by
        unfold wsV at hw
        rcases List.mem_append.mp hw with h | h
        · rcases List.mem_cons.mp h with rfl | h
          · exact b1
          · rcases List.mem_cons.mp h with rfl | h
            · exact b2
            · rcases List.mem_cons.mp h with rfl | h
              · exact b3
              · rcases List.mem_cons.mp h with rfl | h
                · exact m9
                · cases h
        · exact hwsG w h)) rfl rfl rfl ⟨rfl, m7, m8, a1⟩ hRr
    have hst' : (F0 m pc ls (st.map (rv sg b B))).stack = (As'.map (rv sg b B)).reverse ++ .ref (B + j) :: r.map (rv sg b B) := by
      show st.map (rv sg b B) = _
      rw [show st = As'.reverse ++ .inr (.inr (some (j + 1))) :: r from hst, List.map_append, List.map_reverse, List.map_cons]
      rfl
    have hrun := va_runV (e := e) (below := below) (meth := meth) (locs := locs) (g := F0 m pc ls (st.map (rv sg b B))) (As := As'.map (rv sg b B)) (rest := r.map (rv sg b B)) (b := B + j) (nL := mLoc M) (cc := mBy M) ⟨hx, hb, hml, ho, hts⟩ hMet hcw ⟨gP_blind, va_recv hsf.1 hP b5 he, fun U hUH hW => by have := hU U hUH hW; rw [hAs] at this ⊢; exact this⟩ rfl (by rw [List.length_map]; exact hlen) hl.1 hst' hcs hdg hfit
    rw [hAs]
    exact hrun
  · subst hk
    obtain ⟨a1, -, a2, -⟩ := hA _ i 1 mi np rc (kf_mem hkf) (by decide) (by decide)
    obtain ⟨b1, b2⟩ := a2 rfl
    refine fin _ ?_
    have hcw : CallB R s args (oN (mOwn M)) i (yT mi) (mBy M') (mLoc M') (mRet M') (.code (yT mi) (mBy M') (mLoc M') (mRet M') :: TG) (rmD d (mC M') (mS M')) (mC M') (mS M') np ∧ (Cond.static (yT mi)).before args s = true :=
      va_cwS np hts (goodTG (fun w hw => by
        unfold va_wsS at hw
        rcases List.mem_append.mp hw with h | h
        · rcases List.mem_cons.mp h with rfl | h
          · exact b1
          · rcases List.mem_cons.mp h with rfl | h
            · exact b2
            · rcases List.mem_cons.mp h with rfl | h
              · exact m9
              · cases h
        · exact hwsG w h)) rfl rfl rfl ⟨m7, m8, a1⟩ hRr
    have hst' : (F0 m pc ls (st.map (rv sg b B))).stack = (As.map (rv sg b B)).reverse ++ r.map (rv sg b B) := by
      show st.map (rv sg b B) = _
      rw [show st = As.reverse ++ r from hst, List.map_append, List.map_reverse]
    exact va_runS (g := F0 m pc ls (st.map (rv sg b B))) (As := As.map (rv sg b B)) (rest := r.map (rv sg b B)) (nL := mLoc M) (cc := mBy M) ⟨hx, hb, hml, ho, hts⟩ hMet hcw ⟨gP_blind, hU⟩ rfl (by rw [List.length_map]; exact hlen) hl.1 hst' hcs hdg hfit
  · obtain ⟨a1, -, -, a2⟩ := hA _ i k mi np rc (kf_mem hkf) hk4 hk5
    obtain ⟨b1, b2, b3, b4⟩ := a2 hk0 hk1
    have hret : mRet M' = none := b3 M' hmi
    refine fin _ ?_
    have hst' : (F0 m pc ls (st.map (rv sg b B))).stack = (As'.map (rv sg b B)).reverse ++ .ref (ra b B j) :: r.map (rv sg b B) := by
      show st.map (rv sg b B) = _
      rw [show st = As'.reverse ++ .inr (.inr (some j)) :: r from hst, List.map_append, List.map_reverse, List.map_cons]
      rfl
    have hUU : ∀ U : State, U.heap = H → s.WarmedH U.vm → gP sg b B L xs cy dC dI As D ((Value.ref (ra b B j) :: As'.map (rv sg b B)).toArray) U := fun U hUH hW => by
      have := hU U hUH hW
      rw [hAs] at this ⊢
      exact this
    rw [hret] at hMet hwsG
    rcases b4 with b4 | b4
    · have hcw : CallB R s args (oN (mOwn M)) i (yT mi) (mBy M') (mLoc M') none (.code (yT mi) (mBy M') (mLoc M') none :: TG) (rmD d (mC M') (mS M')) (mC M') (mS M') np ∧ (yT mi).name = "<init>" ∧ (Cond.instanceMethod (yT mi)).before args s = true :=
        cwI np hts (goodTG hwsG) rfl rfl rfl (hts _ m9) (hts _ b4) (hts _ b2) b1 ⟨m7, m8, a1⟩ hRr
      have hrun := va_runI (e := e) (below := below) (meth := meth) (locs := locs) (g := F0 m pc ls (st.map (rv sg b B))) (As := As'.map (rv sg b B)) (rest := r.map (rv sg b B)) (b := ra b B j) (nL := mLoc M) (cc := mBy M) ⟨hx, hb, hml, ho, hts⟩ hMet hcw ⟨gP_blind, hUU⟩ rfl (by rw [List.length_map]; exact hlen) hl.1 hst' hcs hdg hfit
      rw [hAs]
      exact hrun
    · have hcw : va_CN R s args (oN (mOwn M)) i (yT mi) "AyeJars" (mBy M') (mLoc M') none (.code (yT mi) (mBy M') (mLoc M') none :: TG) (rmD d (mC M') (mS M')) (mC M') (mS M') np ∧ (yT mi).name = "<init>" ∧ (Cond.instanceMethod (yT mi)).before args s = true :=
        ⟨va_cnB np hts (goodTG hwsG) rfl rfl rfl (hsf.2.2.1 _ b4) (hts _ m9) ⟨m7, m8, a1⟩ hRr, b1, hts _ b2⟩
      have hrun := va_runIN (e := e) (below := below) (meth := meth) (locs := locs) (g := F0 m pc ls (st.map (rv sg b B))) (As := As'.map (rv sg b B)) (rest := r.map (rv sg b B)) (b := ra b B j) (nL := mLoc M) (cc := mBy M) ⟨hx, hb, hml, ho, hts⟩ hMet hcw ⟨gP_blind, hUU⟩ rfl (by rw [List.length_map]; exact hlen) hl.1 hst' hcs hdg hfit
      rw [hAs]
      exact hrun
theorem run_ok {l : Launch} {sg : Nat → Int32} {b B : Nat} {L : List Nat} {xs : Nat → Int32} {cy : Nat → ClassId} {dC : Nat → ClassId} {dI : Nat → Nat → Nat} (hO : OT) (hM : OKM) (hA : OKA) (hz : OKZ) (hs : SG sg L xs) : ∀ n, RunOK l sg b B L xs cy dC dI n := by
  intro n
  induction n with
  | zero => intro d M E x LV h; cases h
  | succ n ih =>
    intro d M E x LV h hE hT ho p e R s m args below meth c Q hR F hHR
    obtain ⟨pc, lv, st, D, cn, z⟩ := x
    have h' : runB tT mT L (run tT mT L n) d M E pc lv st D cn z = some LV := by
      have e0 : run tT mT L (n + 1) d M E (pc, lv, st, D, cn, z) = fN pc (fun pc => runB tT mT L (run tT mT L n) d M E pc lv st D cn z) := rfl
      rw [e0, fN_eq] at h
      exact h
    unfold runB at h'
    have hF : 1 ≤ R.frames ∧ 8 + (nativeFrameWords "java/lang/System" "arraycopy" 5 + 11) ≤ R.locals ∧ 20 ≤ R.locals := by
      have h1 := hR.2.2.1
      have h2 := hR.2.2.2
      have h3 : nativeFrameWords "java/lang/System" "arraycopy" 5 ≤ 100 := by decide
      refine ⟨by omega, by omega, by omega⟩
    have hF8 : 8 ≤ R.frames ∧ 1600 ≤ R.locals := by
      have h1 := hR.2.2.1
      have h2 := hR.2.2.2
      exact ⟨by omega, Nat.le_trans (Nat.mul_le_mul_left 200 (Nat.le_add_left 8 d)) h2⟩
    split at h'
    · cases h'
    · next x' hst =>
      have sem := step_ok (l := l) (e := e) (below := below) (Q := Q) ⟨hR.1, hR.2.1⟩ hF hz hF8 F hO hs hE hT ho hst
      exact sem (ih d M E x' LV h' hE hT ho p e R s m args below meth c Q hR F hHR)
    · next j w hst =>
      unfold runS at h'
      split at h'
      · next q hq =>
        rw [rget_eq] at hq
        obtain ⟨x1, x2, h1, h2, rfl⟩ := cat2_ok h'
        rcases Nat.lt_or_ge (bz (sg j)) w with g | g
        · exact ih d M _ _ x1 h1 (eOK_lo hE hq g) hT ho p e R s m args below meth c Q hR F (HR_sub hHR (fun _ hg => List.mem_append_left _ hg))
        · exact ih d M _ _ x2 h2 (eOK_hi hE hq g) hT ho p e R s m args below meth c Q hR F (HR_sub hHR (fun _ hg => List.mem_append_right _ hg))
      · cases h'
    · next x1 x2 hst =>
      have sem := step_ok (l := l) (e := e) (below := below) (Q := Q) ⟨hR.1, hR.2.1⟩ hF hz hF8 F hO hs hE hT ho hst
      obtain ⟨y1, y2, h1, h2, rfl⟩ := cat2_ok h'
      exact sem (ih d M E x1 y1 h1 hE hT ho p e R s m args below meth c Q hR F (HR_sub hHR (fun _ hg => List.mem_append_left _ hg))) (ih d M E x2 y2 h2 hE hT ho p e R s m args below meth c Q hR F (HR_sub hHR (fun _ hg => List.mem_append_right _ hg)))
    · next v hst =>
      have sem : RetOK (mBy M) (mRet M) (mC M) (mS M) v (pc, lv, st, D, cn, z) := step_ok (p := p) (l := l) (e := e) (R := R) (s := s) (m := m) (args := args) (below := below) (meth := meth) (c := c) (Q := Q) ⟨hR.1, hR.2.1⟩ hF hz hF8 F hO hs hE hT ho hst
      cases h'
      have hst' : st = v.toList := sem.2.2.1
      subst hst'
      intro aw H locs ls hrep hP hH hS hl
      exact hHR (E, v, D) pc cn z ls lv aw H locs (List.mem_singleton.mpr rfl) hE sem hrep hP hH hS
    · next mi As r hst =>
      have sem : CallOK (mBy M) (mOwn M) mi As r (pc, lv, st, D, cn, z) := step_ok (p := p) (l := l) (e := e) (R := R) (s := s) (m := m) (args := args) (below := below) (meth := meth) (c := c) (Q := Q) ⟨hR.1, hR.2.1⟩ hF hz hF8 F hO hs hE hT ho hst
      split at h'
      · cases h'
      · next M' hmi =>
        cases d with
        | zero => cases h'
        | succ d =>
          have h2 : (bif (Nat.ble (asum As) (mLoc M') && (Nat.ble (mLoc M') 80 && (Nat.ble (Nat.add cn (mC M')) (mC M) && Nat.ble (Nat.add z (mS M')) (mS M)))) then (match run tT mT L n d M' E (0, argsL As 0, [], D, 0, 0) with
            | none => none
            | some ls => runL (run tT mT L n) (d + 1) M (Nat.add pc 3) lv r (Nat.add cn (mC M')) (Nat.add z (mS M')) ls) else none) = some LV := h'
          cases hb : (Nat.ble (asum As) (mLoc M') && (Nat.ble (mLoc M') 80 && (Nat.ble (Nat.add cn (mC M')) (mC M) && Nat.ble (Nat.add z (mS M')) (mS M)))) with
          | false => rw [hb] at h2; cases h2
          | true =>
            rw [hb, cond_true] at h2
            rw [Bool.and_eq_true, Bool.and_eq_true, Bool.and_eq_true] at hb
            have g1 := Nat.le_of_ble_eq_true hb.1
            have g2 := Nat.le_of_ble_eq_true hb.2.1
            have g3 : cn + mC M' ≤ mC M := Nat.le_of_ble_eq_true hb.2.2.1
            have g4 : z + mS M' ≤ mS M := Nat.le_of_ble_eq_true hb.2.2.2
            split at h2
            · cases h2
            · next lf hlf =>
              have hMet := met_run (l := l) hM ih hmi hE g1 hlf
              refine call_ok (cc := mBy M) hO hM hA hmi hR F g2 g3 g4 hMet sem (fun f hf hfe => ?_)
              obtain ⟨LV', k1, k2⟩ := runL_ok lf LV h2 f hf
              exact ih (d + 1) M f.1 _ LV' k1 hfe hT ho p e R s m args below meth c Q hR F (HR_sub hHR k2)
