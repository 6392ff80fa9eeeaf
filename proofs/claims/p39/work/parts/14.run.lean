/-! a whole method: the plain machine's run is a contract -/
def gP (sg : Nat → Int32) (b B : Nat) (L : List Nat) (xs : Nat → Int32) (cy : Nat → ClassId) (dC : Nat → ClassId) (dI : Nat → Nat → Nat) (As : List rV) (D : rD) : Array Value → State → Prop := fun v U => v = (As.map (rv sg b B)).toArray ∧ (∃ aw, rep D aw ∧ va_P (dC, dI) vwCl (rW sg b B cy aw) U.heap ∧ U.heap.size = B + aw.length) ∧ SF dC dI cy b B L xs U
def gQ (sg : Nat → Int32) (b B : Nat) (cy : Nat → ClassId) (dC : Nat → ClassId) (dI : Nat → Nat → Nat) (LV : List rF) : Array Value → State → Outcome → State → Prop := fun _ st oc t => (∃ f ∈ LV, eOK sg f.1 ∧ oc = .returned (f.2.1.map (rv sg b B)) ∧ ∃ aw, rep f.2.2 aw ∧ va_P (dC, dI) vwCl (rW sg b B cy aw) t.heap ∧ t.heap.size = B + aw.length) ∧ va_F (rG B) st t
theorem SF_moved {dC : Nat → ClassId} {dI : Nat → Nat → Nat} {cy : Nat → ClassId} {b B : Nat} {L : List Nat} {xs : Nat → Int32} {u U : State} (h : SF dC dI cy b B L xs u) (hW : u.WarmedH U.vm) (hb : ∀ q, q < B → U.heap[q]? = u.heap[q]?) (hz : B ≤ U.heap.size) : SF dC dI cy b B L xs U := by
  obtain ⟨h1, ⟨a1, a2, a3⟩, h3, h4, h5, h6, h7⟩ := h
  refine ⟨va_K.moved hW.alike h1, ⟨va_AO.moved hW.alike a1, va_AO.moved hW.alike a2, ?_⟩, fun q hq => va_Nw.warmM hW (h3 q hq), va_X.moved hW.alike (va_X.kept h4 (hb b h5)), h5, hz, STR_moved h7 hW hb⟩
  have e := Cond.arrayOver_setVmC (args := #[]) (s := u) hW.alike (.array .int)
  show (Cond.arrayOver (.array .int)).before #[] U = true
  exact e.trans a3
theorem SF_calling {dC : Nat → ClassId} {dI : Nat → Nat → Nat} {cy : Nat → ClassId} {b B : Nat} {L : List Nat} {xs : Nat → Int32} {U : State} {g : JFrame} {mk : MethodId} {a : Array Value} (h : SF dC dI cy b B L xs U) : SF dC dI cy b B L xs (U.calling g mk a) := by
  obtain ⟨h1, ⟨a1, a2, a3⟩, h3, h4, h5, h6, h7⟩ := h
  refine ⟨va_K.moved (u := U) (U := U.calling g mk a) (Vm.Alike.refl U.vm) h1, ⟨va_AO.moved (u := U) (U := U.calling g mk a) (Vm.Alike.refl U.vm) a1, va_AO.moved (u := U) (U := U.calling g mk a) (Vm.Alike.refl U.vm) a2, a3⟩, fun q hq => va_Nw.same rfl rfl (h3 q hq), va_X.moved (u := U) (U := U.calling g mk a) (Vm.Alike.refl U.vm) h4, h5, h6, STR_calling h7⟩
theorem gP_blind {sg : Nat → Int32} {b B : Nat} {L : List Nat} {xs : Nat → Int32} {cy : Nat → ClassId} {dC : Nat → ClassId} {dI : Nat → Nat → Nat} {As : List rV} {D : rD} : FrameBlind (gP sg b B L xs cy dC dI As D) := fun a U g mk h => ⟨h.1, h.2.1, SF_calling h.2.2⟩
def yT (k : Nat) : MethodName := tY.getD k ⟨"", "", ""⟩
/-- what is to be known of the methods, and of the calls -/
def OKM : Prop := ∀ (mi : Nat) (M : rM), mT mi = some M → (yT mi).cls = oN (mOwn M) ∧ plainFor (yT mi) = true ∧ Cond.code (yT mi) (mBy M) (mLoc M) (mRet M) ∈ TG ∧ okT (mBy M) (mLoc M) (mTab M) ∧ mOwn M < 100 ∧ (mIni M = true → (yT mi).name = "<init>") ∧ (yT mi).cls ≠ "java/lang/invoke/MethodHandle" ∧ (yT mi).cls ≠ "java/lang/invoke/VarHandle" ∧ Cond.initialized (yT mi).cls ∈ TG
def OKA : Prop := ∀ (own i k mi np rc : Nat), ((own, i), (k, mi, np, rc)) ∈ tA → k ≠ 4 → k ≠ 5 → (parseMethodDescriptor (yT mi).desc).map (fun d => d.parameters.length) = some np ∧ (k = 0 → Cond.methodLink (oN own) i (yT mi) ∈ TG ∧ Cond.instanceMethod (yT mi) ∈ TG ∧ Cond.selects (yT mi).cls (yT mi) (yT mi) ∈ TG ∧ rc < 13 ∧ ∃ (T : u_T) (N : Nat), vwCl[rc]? = some ((yT mi).cls, T, N)) ∧ (k = 1 → Cond.methodLink (oN own) i (yT mi) ∈ TG ∧ Cond.static (yT mi) ∈ TG) ∧ (k ≠ 0 → k ≠ 1 → (yT mi).name = "<init>" ∧ Cond.instanceMethod (yT mi) ∈ TG ∧ (∀ M, mT mi = some M → mRet M = none) ∧ (Cond.methodLink (oN own) i (yT mi) ∈ TG ∨ (oN own, i, yT mi) ∈ nws))
/-- behind a call -/
theorem rcall {p : Program} {l : Launch} {e : Env} {R : Room} {s : State} {m : MethodId} {args : Array Value} {below : List Frame} {meth : Method} {c : Code} {Q : State → Prop} {cc : ByteArray} {sg : Nat → Int32} {b B : Nat} {cy : Nat → ClassId} {dC : Nat → ClassId} {dI : Nat → Nat → Nat} {LV : List rF} {H : Heap} {locs : List Loc} {cn z mc ms pc : Nat} {ls : Array Slot} {st0 rest : List Value} {a : Array Value} {free : Addr → Prop} (hr : va_Run p l e R s m args below meth c H locs cn z mc ms (F0 m pc ls st0) rest (gQ sg b B cy dC dI LV a) free) (hS : va_S (rG B) s.heap H locs) (hf : ∀ q, free q → rG B q)
    (kk : ∀ (f : rF) (aw : List rC) (H1 : Heap) (locs1 : List Loc), f ∈ LV → eOK sg f.1 → rep f.2.2 aw → va_P (dC, dI) vwCl (rW sg b B cy aw) H1 → H1.size = B + aw.length → va_S (rG B) s.heap H1 locs1 → W p l e R s m args below meth c H1 locs1 (cn + mc) (z + ms) Q (F0 m (pc + 3) ls ((f.2.1.map (rv sg b B)).toList ++ rest))) : W p l e R s m args below meth c H locs cn z Q (F0 m pc ls st0) := by
  intro T hT X
  obtain ⟨v, st₀, t, T', L, h0, X', hL, e1, e2, ⟨⟨f, hf1, hf2, hv, aw, g1, g2, g3⟩, hz, hk⟩, st⟩ := hr T hT X
  have hv : v = f.2.1.map (rv sg b B) := by
    injection hv
  subst hv
  rw [h0] at hz hk
  obtain ⟨t2, a1, b1⟩ := kk f aw T'.heap (locs ++ L) hf1 hf2 g1 (by rw [e1]; exact g2) (by rw [e1]; exact g3)
    ⟨Nat.le_trans hS.1 (by rw [e1]; exact hz), fun q h1 h2 => by rw [e1, hk q (Nat.lt_of_lt_of_le h1 hS.1) h2]; exact hS.2.1 q h1 h2, fun q hq => by
      rcases List.mem_append.mp hq with h | h
      · exact hS.2.2 q h
      · exact hf _ (hL q h)⟩ T' rfl X'
  exact ⟨t2, st t2 a1, b1⟩
theorem args_eq {sg : Nat → Int32} {b B : Nat} : ∀ (As : List rV) (i : Nat), clv sg b B (argsL As i) = lv_args i (As.map (rv sg b B)) := by
  intro As
  induction As with
  | nil => intro i; rfl
  | cons v t ih =>
    intro i
    show (i, rv sg b B v) :: clv sg b B (argsL t (Nat.add i (ct v))) = (i, rv sg b B v) :: lv_args (if (rv sg b B v).category = 2 then i + 2 else i + 1) (t.map (rv sg b B))
    rw [ih, ct_eq]
    congr 2
    match v with
    | .inl _ => rfl
    | .inr (.inl _) => rfl
    | .inr (.inr _) => rfl
theorem args_len {sg : Nat → Int32} {b B : Nat} : ∀ (As : List rV), (lg_sl (As.map (rv sg b B))).length = asum As := by
  intro As
  induction As with
  | nil => rfl
  | cons v t ih =>
    show ((if (rv sg b B v).category = 2 then [Slot.val (rv sg b B v), .second] else [.val (rv sg b B v)]) ++ lg_sl (t.map (rv sg b B))).length = _
    rw [List.length_append, ih, ct_eq]
    show _ = (ct v :: t.map ct).sum
    rw [List.sum_cons]
    match v with
    | .inl _ => rfl
    | .inr (.inl _) => rfl
    | .inr (.inr _) => rfl
theorem cat2_ok {a d : Option (List rF)} {LV : List rF} (h : cat2 a d = some LV) : ∃ x y, a = some x ∧ d = some y ∧ LV = x ++ y := by
  unfold cat2 at h
  split at h
  · cases h
  · next x =>
    split at h
    · cases h
    · next y => cases h; exact ⟨x, y, rfl, rfl, rfl⟩
theorem runL_ok {ih : rN} {d : Nat} {M : rM} {pc : Nat} {lv : rK} {r : List rV} {cn z : Nat} : ∀ (ls LV : List rF), runL ih d M pc lv r cn z ls = some LV → ∀ f ∈ ls, ∃ LV', ih d M f.1 (pc, lv, f.2.1.toList ++ r, f.2.2, cn, z) = some LV' ∧ ∀ g ∈ LV', g ∈ LV := by
  intro ls
  induction ls with
  | nil => intro LV h f hf; cases hf
  | cons a t iht =>
    intro LV h f hf
    have h' : cat2 (ih d M a.1 (pc, lv, a.2.1.toList ++ r, a.2.2, cn, z)) (runL ih d M pc lv r cn z t) = some LV := h
    obtain ⟨x, y, h1, h2, rfl⟩ := cat2_ok h'
    rcases List.mem_cons.mp hf with rfl | hf
    · exact ⟨x, h1, fun g hg => List.mem_append_left _ hg⟩
    · obtain ⟨LV', g1, g2⟩ := iht y h2 f hf
      exact ⟨LV', g1, fun g hg => List.mem_append_right _ (g2 g hg)⟩
/-- what a frame's end must give -/
def HR (p : Program) (l : Launch) (e : Env) (R : Room) (s : State) (m : MethodId) (args : Array Value) (below : List Frame) (meth : Method) (c : Code) (Q : State → Prop) (sg : Nat → Int32) (b B : Nat) (cy : Nat → ClassId) (dC : Nat → ClassId) (dI : Nat → Nat → Nat) (M : rM) (LV : List rF) : Prop := ∀ (f : rF) (pc cn z : Nat) (ls : Array Slot) (lv : rK) (aw : List rC) (H : Heap) (locs : List Loc), f ∈ LV → eOK sg f.1 → RetOK (mBy M) (mRet M) (mC M) (mS M) f.2.1 (pc, lv, f.2.1.toList, f.2.2, cn, z) → rep f.2.2 aw → va_P (dC, dI) vwCl (rW sg b B cy aw) H → H.size = B + aw.length → va_S (rG B) s.heap H locs → W p l e R s m args below meth c H locs cn z Q (F0 m pc ls (f.2.1.toList.map (rv sg b B)))
theorem HR_sub {p : Program} {l : Launch} {e : Env} {R : Room} {s : State} {m : MethodId} {args : Array Value} {below : List Frame} {meth : Method} {c : Code} {Q : State → Prop} {sg : Nat → Int32} {b B : Nat} {cy : Nat → ClassId} {dC : Nat → ClassId} {dI : Nat → Nat → Nat} {M : rM} {LV LV' : List rF} (h : HR p l e R s m args below meth c Q sg b B cy dC dI M LV) (hs : ∀ g ∈ LV', g ∈ LV) : HR p l e R s m args below meth c Q sg b B cy dC dI M LV' := fun f pc cn z ls lv aw H locs hf => h f pc cn z ls lv aw H locs (hs f hf)
/-- a run of a method, as words of the machine -/
def RunOK (l : Launch) (sg : Nat → Int32) (b B : Nat) (L : List Nat) (xs : Nat → Int32) (cy : Nat → ClassId) (dC : Nat → ClassId) (dI : Nat → Nat → Nat) (n : Nat) : Prop := ∀ (d : Nat) (M : rM) (E : rE) (x : rX) (LV : List rF), run tT mT L n d M E x = some LV → eOK sg E → okT (mBy M) (mLoc M) (mTab M) → mOwn M < 100 → ∀ (p : Program) (e : Env) (R : Room) (s : State) (m : MethodId) (args : Array Value) (below : List Frame) (meth : Method) (c : Code) (Q : State → Prop), R.cells = mC M ∧ R.slots = mS M ∧ d + 8 ≤ R.frames ∧ 200 * (d + 8) ≤ R.locals → FF p s m args meth c (mBy M) (mLoc M) (mOwn M) (mIni M) b B L xs dC dI cy → HR p l e R s m args below meth c Q sg b B cy dC dI M LV → Wx p l e R s m args below meth c Q sg b B cy dC dI (mLoc M) x
/-- the contract of a method, by its run -/
theorem met_run {l : Launch} {sg : Nat → Int32} {b B : Nat} {L : List Nat} {xs : Nat → Int32} {cy : Nat → ClassId} {dC : Nat → ClassId} {dI : Nat → Nat → Nat} {n d mi : Nat} {M : rM} {E : rE} {As : List rV} {D : rD} {LV : List rF} (hM : OKM) (ih : RunOK l sg b B L xs cy dC dI n) (hmi : mT mi = some M) (hE : eOK sg E) (hA : asum As ≤ mLoc M) (h : run tT mT L n d M E (0, argsL As 0, [], D, 0, 0) = some LV) : Met l (yT mi) (.code (yT mi) (mBy M) (mLoc M) (mRet M) :: TG) (rmD d (mC M) (mS M)) (gP sg b B L xs cy dC dI As D) (gQ sg b B cy dC dI LV) (mC M) (mS M) (rG B) := by
  obtain ⟨m1, m2, m3, m4, m5, m6, m7, m8, m9⟩ := hM mi M hmi
  refine ofWF (cc := mBy M) (maxL := mLoc M) (ret := mRet M) m2 rfl ?_
  intro p e s m args below meth c s₁ Bd hml hv
  obtain ⟨rfl, ⟨aw, hrep, hP, hH⟩, hSF⟩ := hv
  have hts := atoms_spec (ws := .code (yT mi) (mBy M) (mLoc M) (mRet M) :: TG) Bd.pre
  have hown : s.vm.findClass (yT mi).cls = some m.cls := findClass_of_methodNamed Bd.named
  rw [m1] at hown
  have hlocks : meth.locks = false := Bd.notSynchronized
  have hr : meth.sig.returnType = mRet M := Bd.returns
  have FFM : FF p s m (As.map (rv sg b B)).toArray meth c (mBy M) (mLoc M) (mOwn M) (mIni M) b B L xs dC dI cy := ⟨Bd.exec, Bd.bytes, hml, hown, fun w hw => hts w (List.mem_cons_of_mem _ hw), hSF, fun hi => ((name_of_methodNamed Bd.named Bd.method).1).trans (m6 hi)⟩
  have hHR : HR p l e (headSpec (.code (yT mi) (mBy M) (mLoc M) (mRet M) :: TG) (rmD d (mC M) (mS M))).room s m (As.map (rv sg b B)).toArray below meth c (MQ below (gQ sg b B cy dC dI LV) (As.map (rv sg b B)).toArray s (mC M) (mS M) (rG B)) sg b B cy dC dI M LV := by
    intro f pc cn z ls lv aw' H locs hf hfe hret hrep' hP' hH' hS'
    have hq : ∀ t : State, t.heap = H → ∀ v, v = f.2.1.map (rv sg b B) → gQ sg b B cy dC dI LV (As.map (rv sg b B)).toArray s (.returned v) t := by
      intro t ht v hv
      subst hv
      refine ⟨⟨f, hf, hfe, rfl, aw', hrep', by rw [ht]; exact hP', by rw [ht]; exact hH'⟩, ?_⟩
      exact hS'.F ht
    obtain ⟨hc, hz, hst, hcase⟩ := hret
    refine W.widen (k := mC M) (n := mS M) hc hz ?_
    rcases hcase with ⟨h1, h2, h3⟩ | ⟨n1, h1, h2, h3⟩ | ⟨n1, h1, h2, h3⟩ | ⟨n1, h1, h2, h3⟩
    · rw [h1]
      exact W.vret Bd.exec Bd.bytes (hr.trans h2) (fun t ht _ => hq t ht none (by rw [h1]; rfl)) hS'.2.2 h3
    · rw [h1]
      have h2' := h2
      unfold ok_rt at h2'
      split at h2'
      · next he => exact W.iret Bd.exec Bd.bytes (hr.trans he) (fun t ht _ => hq t ht _ (by rw [h1]; rfl)) hS'.2.2 h3
      · next he =>
        have hn1 := Nat.le_of_ble_eq_true h2'
        refine W.zret Bd.exec Bd.bytes (hr.trans he) ?_ (fun t ht _ => hq t ht _ (by rw [h1]; rfl)) hS'.2.2 h3
        have : n1 = 0 ∨ n1 = 1 := by omega
        rcases this with rfl | rfl
        · rw [ri_c (by decide)]; decide
        · rw [ri_c (by decide)]; decide
      · cases h2'
      · cases h2'
      · cases h2'
    · rw [h1]
      have h2' := h2
      unfold ok_rt at h2'
      split at h2'
      · cases h2'
      · cases h2'
      · next he => exact W.lret Bd.exec Bd.bytes (hr.trans he) (fun t ht _ => hq t ht _ (by rw [h1]; rfl)) hS'.2.2 h3
      · cases h2'
      · cases h2'
    · rw [h1]
      have h2' := h2
      unfold ok_rt at h2'
      split at h2'
      · cases h2'
      · cases h2'
      · cases h2'
      · next nm he => exact W.aret Bd.exec Bd.bytes (hr.trans he) (Or.inl ⟨nm, rfl⟩) (Or.inr ⟨_, rfl⟩) (fun t ht _ => hq t ht _ (by rw [h1]; rfl)) hS'.2.2 h3
      · cases h2'
  have hWx := ih d M E _ LV h hE m4 m5 p e (headSpec (.code (yT mi) (mBy M) (mLoc M) (mRet M) :: TG) (rmD d (mC M) (mS M))).room s m (As.map (rv sg b B)).toArray below meth c _ ⟨rfl, rfl, Nat.le_refl _, Nat.le_refl _⟩ FFM hHR
  rw [lg_entry_eq]
  have hl := lv_entry (As.map (rv sg b B)) (n := mLoc M) (by rw [args_len]; exact hA)
  rw [← args_eq] at hl
  exact hWx aw s.heap [] _ hrep hP hH va_S.rf hl
