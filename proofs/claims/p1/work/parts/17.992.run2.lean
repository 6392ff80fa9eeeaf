/-! the plain machine with the two copies as one step -/
noncomputable def sh (mi : Nat) : Option (Nat × Nat) := bif Nat.beq mi 174 then some (45, 49) else bif Nat.beq mi 177 then some (49, 45) else none
noncomputable def cps (fs ft : Nat) (D : rD) (As : List rV) : Option rD := match As with
  | [.inr (.inr (some (j + 1)))] => (match wget D j with
    | some q => (match rget q.2 fs with
      | some (.inr (.inr (some (ks + 1)))) => (match rget q.2 ft with
        | some (.inr (.inr (some (kt + 1)))) => (match wget D ks with
          | some A => (match wget D kt with
            | some C => bif (Nat.beq q.1 12 && (Nat.beq A.1 14 && (Nat.beq C.1 14 && (Nat.beq A.2.length 33 && (Nat.beq C.2.length 33 && (!(Nat.beq ks kt) && (!(Nat.beq j kt) && allI A.2))))))) then wset (14, A.2) D kt (fun d => some d) else none
            | none => none)
          | none => none)
        | _ => none)
      | _ => none)
    | none => none)
  | _ => none
theorem cps_ok {L : Nat} {M : rM} {it is_ ft fs : Nat} (hB : bodyOK L M it is_ ft fs) {E : rE} {D D' : rD} {As : List rV} (h : cps fs ft D As = some D') (d : Nat) : ∃ n, run tT mT L n d M E (0, argsL As 0, [], D, 0, 0) = some [(E, none, D')] := by
  unfold cps at h
  split at h
  · next j =>
    split at h
    · next q hq =>
      split at h
      · next ks hfs =>
        split at h
        · next kt hft =>
          split at h
          · next A hA =>
            split at h
            · next C hC =>
              cases hb : (Nat.beq q.1 12 && (Nat.beq A.1 14 && (Nat.beq C.1 14 && (Nat.beq A.2.length 33 && (Nat.beq C.2.length 33 && (!(Nat.beq ks kt) && (!(Nat.beq j kt) && allI A.2))))))) with
              | false => rw [hb] at h; cases h
              | true =>
                rw [hb, cond_true, wset_k] at h
                cases h
                simp only [Bool.and_eq_true, Bool.not_eq_true'] at hb
                obtain ⟨h1, h2, h3, h4, h5, h6, h7, h8⟩ := hb
                obtain ⟨a1, a2⟩ := A
                obtain ⟨c1, c2⟩ := C
                have e2 := Nat.eq_of_beq_eq_true h2
                have e3 := Nat.eq_of_beq_eq_true h3
                dsimp only at e2 e3
                subst e2
                subst e3
                exact copy_run hB hq (Nat.eq_of_beq_eq_true h1) hft hfs hA hC (Nat.eq_of_beq_eq_true h4) (Nat.eq_of_beq_eq_true h5) (fun e => by rw [e, Nat.beq_refl] at h6; cases h6) (fun e => by rw [e, Nat.beq_refl] at h7; cases h7) h8 d
            · cases h
          · cases h
        · cases h
      · cases h
    · cases h
  · cases h
theorem sh_ok {L mi fs ft : Nat} {M : rM} (h : sh mi = some (fs, ft)) (hM : mT mi = some M) : ∃ it is_, bodyOK L M it is_ ft fs := by
  unfold sh at h
  cases h1 : Nat.beq mi 174 with
  | true =>
    rw [h1, cond_true] at h
    cases h
    have e := Nat.eq_of_beq_eq_true h1
    subst e
    have e2 : mT 174 = some (12, prog_14_method_95_code, i_X12_keepNow, 2, none, false, 0, 0) := rfl
    rw [e2] at hM
    cases hM
    exact ⟨95, 89, body_keep L⟩
  | false =>
    rw [h1, cond_false] at h
    cases h2 : Nat.beq mi 177 with
    | false => rw [h2] at h; cases h
    | true =>
      rw [h2, cond_true] at h
      cases h
      have e := Nat.eq_of_beq_eq_true h2
      subst e
      have e2 : mT 177 = some (12, prog_14_method_96_code, i_X12_bringBack, 2, none, false, 0, 0) := rfl
      rw [e2] at hM
      cases hM
      exact ⟨89, 95, body_back L⟩
noncomputable def runC2 (ih : rN) (d mi : Nat) (M M' : rM) (E : rE) (pc : Nat) (lv : rK) (As r : List rV) (aw : rD) (c z : Nat) : Option (List rF) := Nat.rec (motive := fun _ => Option (List rF)) none (fun d' _ =>
  bif (Nat.ble (asum As) (mLoc M') && (Nat.ble (mLoc M') 80 && (Nat.ble (Nat.add c (mC M')) (mC M) && Nat.ble (Nat.add z (mS M')) (mS M)))) then (match sh mi with
    | some q => (match cps q.1 q.2 aw As with
      | some D' => ih d M E (Nat.add pc 3, lv, r, D', Nat.add c (mC M'), Nat.add z (mS M'))
      | none => none)
    | none => (match ih d' M' E (0, argsL As 0, [], aw, 0, 0) with
      | none => none
      | some ls => runL ih d M (Nat.add pc 3) lv r (Nat.add c (mC M')) (Nat.add z (mS M')) ls)) else none) d
noncomputable def runB2 (T : rT) (mt : Nat → Option rM) (L : Nat) (ih : rN) (d : Nat) (M : rM) (E : rE) (pc : Nat) (lv : rK) (st : List rV) (aw : rD) (c z : Nat) : Option (List rF) := match step T L M E pc lv st aw c z with
  | none => none
  | some (.inl x') => ih d M E x'
  | some (.inr (.inl (j, w))) => runS ih d M E (pc, lv, st, aw, c, z) j w
  | some (.inr (.inr (.inl (x1, x2)))) => cat2 (ih d M E x1) (ih d M E x2)
  | some (.inr (.inr (.inr (.inl v)))) => some [(E, v, aw)]
  | some (.inr (.inr (.inr (.inr (mi, As, r))))) => (match mt mi with
    | none => none
    | some M' => runC2 ih d mi M M' E pc lv As r aw c z)
noncomputable def run2 (T : rT) (mt : Nat → Option rM) (L n : Nat) : rN :=
  Nat.rec (motive := fun _ => rN) (fun _ _ _ _ => none) (fun _ ih d M E x => fN x.1 (fun pc => runB2 T mt L ih d M E pc x.2.1 x.2.2.1 x.2.2.2.1 x.2.2.2.2.1 x.2.2.2.2.2)) n
/-- a run of a method, as words of the machine -/
def RunOK2 (l : Launch) (sg : Nat → Int32) (b B L : Nat) (xs : Nat → Int32) (cy : Nat → ClassId) (dC : Nat → ClassId) (dI : Nat → Nat → Nat) (n : Nat) : Prop := ∀ (d : Nat) (M : rM) (E : rE) (x : rX) (LV : List rF), run2 tT mT L n d M E x = some LV → eOK sg E → okT (mBy M) (mLoc M) (mTab M) → mOwn M < 100 → ∀ (p : Program) (e : Env) (R : Room) (s : State) (m : MethodId) (args : Array Value) (below : List Frame) (meth : Method) (c : Code) (Q : State → Prop), R.cells = mC M ∧ R.slots = mS M ∧ d + 1 ≤ R.frames ∧ 200 * (d + 1) ≤ R.locals → FF p s m args meth c (mBy M) (mLoc M) (mOwn M) (mIni M) b B L xs dC dI cy → HR p l e R s m args below meth c Q sg b B cy dC dI M LV → Wx p l e R s m args below meth c Q sg b B cy dC dI (mLoc M) x
/-- the contract of a method, by its run -/
theorem met_run2 {l : Launch} {sg : Nat → Int32} {b B L : Nat} {xs : Nat → Int32} {cy : Nat → ClassId} {dC : Nat → ClassId} {dI : Nat → Nat → Nat} {n d mi : Nat} {M : rM} {E : rE} {As : List rV} {D : rD} {LV : List rF} (hM : OKM) (ih : RunOK2 l sg b B L xs cy dC dI n) (hmi : mT mi = some M) (hE : eOK sg E) (hA : asum As ≤ mLoc M) (h : run2 tT mT L n d M E (0, argsL As 0, [], D, 0, 0) = some LV) : Met l (yT mi) (.code (yT mi) (mBy M) (mLoc M) (mRet M) :: TG) (rmD d (mC M) (mS M)) (gP sg b B L xs cy dC dI As D) (gQ sg b B cy dC dI LV) (mC M) (mS M) (rG B) := by
  obtain ⟨m1, m2, m3, m4, m5, m6, m7, m8, m9⟩ := hM mi M hmi
  refine ofWF (cc := mBy M) (maxL := mLoc M) (ret := mRet M) m2 rfl ?_
  intro p e s m args below meth c s₁ Bd hml hv
  obtain ⟨rfl, ⟨aw, hrep, hP, hH⟩, hSF⟩ := hv
  have hts := atoms_spec (ws := .code (yT mi) (mBy M) (mLoc M) (mRet M) :: TG) Bd.pre
  have hown : s.vm.findClass (yT mi).cls = some m.cls := findClass_of_methodNamed Bd.named
  rw [m1] at hown
  have hlocks : meth.locks = false := Bd.notSynchronized
  have hr : meth.sig.returnType = mRet M := Bd.returns
  have FFM : FF p s m (As.map (rv sg b B)).toArray meth c (mBy M) (mLoc M) (mOwn M) (mIni M) b B L xs dC dI cy := ⟨Bd.exec, Bd.bytes, hml, hown, fun w hw => hts w (List.mem_cons_of_mem _ hw), hSF, fun hi => ((name_of_methodNamed Bd.named Bd.method).1).trans (m6 hi)⟩
  have hHR : HR p l e (headSpec (.code (yT mi) (mBy M) (mLoc M) (mRet M) :: TG) (rmD d (mC M) (mS M))).room s m (As.map (rv sg b B)).toArray below meth c (MQ below (gQ sg b B cy dC dI LV) (As.map (rv sg b B)).toArray s (mC M) (mS M) (rG B)) sg b B cy dC dI M LV := by
    intro f pc cn z ls lv aw' H locs hf hfe hret hrep' hP' hH' hS'
    have hq : ∀ t : State, t.heap = H → ∀ v, v = f.2.1.map (rv sg b B) → gQ sg b B cy dC dI LV (As.map (rv sg b B)).toArray s (.returned v) t := by
      intro t ht v hv
      subst hv
      refine ⟨⟨f, hf, hfe, rfl, aw', hrep', by rw [ht]; exact hP', by rw [ht]; exact hH'⟩, ?_⟩
      exact hS'.F ht
    obtain ⟨hc, hz, hst, hcase⟩ := hret
    refine W.widen (k := mC M) (n := mS M) hc hz ?_
    rcases hcase with ⟨h1, h2, h3⟩ | ⟨n1, h1, h2, h3⟩ | ⟨n1, h1, h2, h3⟩ | ⟨n1, h1, h2, h3⟩
    · rw [h1]
      exact W.vret Bd.exec Bd.bytes (hr.trans h2) (fun t ht _ => hq t ht none (by rw [h1]; rfl)) hS'.2.2 h3
    · rw [h1]
      have h2' := h2
      unfold ok_rt at h2'
      split at h2'
      · next he => exact W.iret Bd.exec Bd.bytes (hr.trans he) (fun t ht _ => hq t ht _ (by rw [h1]; rfl)) hS'.2.2 h3
      · next he =>
        have hn1 := Nat.le_of_ble_eq_true h2'
        refine W.zret Bd.exec Bd.bytes (hr.trans he) ?_ (fun t ht _ => hq t ht _ (by rw [h1]; rfl)) hS'.2.2 h3
        have : n1 = 0 ∨ n1 = 1 := by omega
        rcases this with rfl | rfl
        · rw [ri_c (by decide)]; decide
        · rw [ri_c (by decide)]; decide
      · cases h2'
      · cases h2'
      · cases h2'
    · rw [h1]
      have h2' := h2
      unfold ok_rt at h2'
      split at h2'
      · cases h2'
      · cases h2'
      · next he => exact W.lret Bd.exec Bd.bytes (hr.trans he) (fun t ht _ => hq t ht _ (by rw [h1]; rfl)) hS'.2.2 h3
      · cases h2'
      · cases h2'
    · rw [h1]
      have h2' := h2
      unfold ok_rt at h2'
      split at h2'
      · cases h2'
      · cases h2'
      · cases h2'
      · next nm he => exact W.aret Bd.exec Bd.bytes (hr.trans he) (Or.inl ⟨nm, rfl⟩) (Or.inr ⟨_, rfl⟩) (fun t ht _ => hq t ht _ (by rw [h1]; rfl)) hS'.2.2 h3
      · cases h2'
  have hWx := ih d M E _ LV h hE m4 m5 p e (headSpec (.code (yT mi) (mBy M) (mLoc M) (mRet M) :: TG) (rmD d (mC M) (mS M))).room s m (As.map (rv sg b B)).toArray below meth c _ ⟨rfl, rfl, Nat.le_refl _, Nat.le_refl _⟩ FFM hHR
  rw [lg_entry_eq]
  have hl := lv_entry (As.map (rv sg b B)) (n := mLoc M) (by rw [args_len]; exact hA)
  rw [← args_eq] at hl
  exact hWx aw s.heap [] _ hrep hP hH va_S.rf hl
theorem run2_ok {l : Launch} {sg : Nat → Int32} {b B L : Nat} {xs : Nat → Int32} {cy : Nat → ClassId} {dC : Nat → ClassId} {dI : Nat → Nat → Nat} (hO : OT) (hM : OKM) (hA : OKA) (hs : SG sg L xs) : ∀ n, RunOK2 l sg b B L xs cy dC dI n := by
  intro n
  induction n with
  | zero => intro d M E x LV h; cases h
  | succ n ih =>
    intro d M E x LV h hE hT ho p e R s m args below meth c Q hR F hHR
    obtain ⟨pc, lv, st, D, cn, z⟩ := x
    have h' : runB2 tT mT L (run2 tT mT L n) d M E pc lv st D cn z = some LV := by
      have e0 : run2 tT mT L (n + 1) d M E (pc, lv, st, D, cn, z) = fN pc (fun pc => runB2 tT mT L (run2 tT mT L n) d M E pc lv st D cn z) := rfl
      rw [e0, fN_eq] at h
      exact h
    unfold runB2 at h'
    have hF : 1 ≤ R.frames ∧ 8 + (nativeFrameWords "java/lang/System" "arraycopy" 5 + 11) ≤ R.locals ∧ 20 ≤ R.locals := by
      have h1 := hR.2.2.1
      have h2 := hR.2.2.2
      have h3 : nativeFrameWords "java/lang/System" "arraycopy" 5 ≤ 100 := by decide
      refine ⟨by omega, by omega, by omega⟩
    split at h'
    · cases h'
    · next x' hst =>
      have sem := step_ok (l := l) (e := e) (below := below) (Q := Q) ⟨hR.1, hR.2.1⟩ hF F hO hs hE hT ho hst
      exact sem (ih d M E x' LV h' hE hT ho p e R s m args below meth c Q hR F hHR)
    · next j w hst =>
      unfold runS at h'
      split at h'
      · next q hq =>
        rw [rget_eq] at hq
        obtain ⟨x1, x2, h1, h2, rfl⟩ := cat2_ok h'
        rcases Nat.lt_or_ge (bz (sg j)) w with g | g
        · exact ih d M _ _ x1 h1 (eOK_lo hE hq g) hT ho p e R s m args below meth c Q hR F (HR_sub hHR (fun _ hg => List.mem_append_left _ hg))
        · exact ih d M _ _ x2 h2 (eOK_hi hE hq g) hT ho p e R s m args below meth c Q hR F (HR_sub hHR (fun _ hg => List.mem_append_right _ hg))
      · cases h'
    · next x1 x2 hst =>
      have sem := step_ok (l := l) (e := e) (below := below) (Q := Q) ⟨hR.1, hR.2.1⟩ hF F hO hs hE hT ho hst
      obtain ⟨y1, y2, h1, h2, rfl⟩ := cat2_ok h'
      exact sem (ih d M E x1 y1 h1 hE hT ho p e R s m args below meth c Q hR F (HR_sub hHR (fun _ hg => List.mem_append_left _ hg))) (ih d M E x2 y2 h2 hE hT ho p e R s m args below meth c Q hR F (HR_sub hHR (fun _ hg => List.mem_append_right _ hg)))
    · next v hst =>
      have sem : RetOK (mBy M) (mRet M) (mC M) (mS M) v (pc, lv, st, D, cn, z) := step_ok (p := p) (l := l) (e := e) (R := R) (s := s) (m := m) (args := args) (below := below) (meth := meth) (c := c) (Q := Q) ⟨hR.1, hR.2.1⟩ hF F hO hs hE hT ho hst
      cases h'
      have hst' : st = v.toList := sem.2.2.1
      subst hst'
      intro aw H locs ls hrep hP hH hS hl
      exact hHR (E, v, D) pc cn z ls lv aw H locs (List.mem_singleton.mpr rfl) hE sem hrep hP hH hS
    · next mi As r hst =>
      have sem : CallOK (mBy M) (mOwn M) mi As r (pc, lv, st, D, cn, z) := step_ok (p := p) (l := l) (e := e) (R := R) (s := s) (m := m) (args := args) (below := below) (meth := meth) (c := c) (Q := Q) ⟨hR.1, hR.2.1⟩ hF F hO hs hE hT ho hst
      split at h'
      · cases h'
      · next M' hmi =>
        cases d with
        | zero => cases h'
        | succ d =>
          have h2 : (bif (Nat.ble (asum As) (mLoc M') && (Nat.ble (mLoc M') 80 && (Nat.ble (Nat.add cn (mC M')) (mC M) && Nat.ble (Nat.add z (mS M')) (mS M)))) then (match sh mi with
            | some q => (match cps q.1 q.2 D As with
              | some D' => run2 tT mT L n (d + 1) M E (Nat.add pc 3, lv, r, D', Nat.add cn (mC M'), Nat.add z (mS M'))
              | none => none)
            | none => (match run2 tT mT L n d M' E (0, argsL As 0, [], D, 0, 0) with
              | none => none
              | some ls => runL (run2 tT mT L n) (d + 1) M (Nat.add pc 3) lv r (Nat.add cn (mC M')) (Nat.add z (mS M')) ls)) else none) = some LV := h'
          cases hb : (Nat.ble (asum As) (mLoc M') && (Nat.ble (mLoc M') 80 && (Nat.ble (Nat.add cn (mC M')) (mC M) && Nat.ble (Nat.add z (mS M')) (mS M)))) with
          | false => rw [hb] at h2; cases h2
          | true =>
            rw [hb, cond_true] at h2
            rw [Bool.and_eq_true, Bool.and_eq_true, Bool.and_eq_true] at hb
            have g1 := Nat.le_of_ble_eq_true hb.1
            have g2 := Nat.le_of_ble_eq_true hb.2.1
            have g3 : cn + mC M' ≤ mC M := Nat.le_of_ble_eq_true hb.2.2.1
            have g4 : z + mS M' ≤ mS M := Nat.le_of_ble_eq_true hb.2.2.2
            split at h2
            · next q hsh =>
              split at h2
              · next D' hD' =>
                obtain ⟨it, is_, hB⟩ := sh_ok (L := L) (fs := q.1) (ft := q.2) hsh hmi
                obtain ⟨n', hn'⟩ := cps_ok hB (E := E) hD' d
                have hMet := met_run (l := l) hM (run_ok (l := l) (b := b) (B := B) (cy := cy) (dC := dC) (dI := dI) hO hM hA hs n') hmi hE g1 hn'
                refine call_ok (cc := mBy M) hO hM hA hmi hR F g2 g3 g4 hMet sem (fun f hf hfe => ?_)
                have ef : f = (E, none, D') := List.mem_singleton.mp hf
                subst ef
                exact ih (d + 1) M E _ LV h2 hE hT ho p e R s m args below meth c Q hR F hHR
              · cases h2
            · split at h2
              · cases h2
              · next lf hlf =>
                have hMet := met_run2 (l := l) hM ih hmi hE g1 hlf
                refine call_ok (cc := mBy M) hO hM hA hmi hR F g2 g3 g4 hMet sem (fun f hf hfe => ?_)
                obtain ⟨LV', k1, k2⟩ := runL_ok lf LV h2 f hf
                exact ih (d + 1) M f.1 _ LV' k1 hfe hT ho p e R s m args below meth c Q hR F (HR_sub hHR k2)
