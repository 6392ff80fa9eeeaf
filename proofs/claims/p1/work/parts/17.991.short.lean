/-! a copy of thirty-three ints, as one step -/
theorem run_go {L n d : Nat} {M : rM} {E : rE} {pc : Nat} {lv : rK} {st : List rV} {D : rD} {cn z : Nat} {x' : rX} (h : step tT L M E pc lv st D cn z = some (.inl x')) : run tT mT L (n + 1) d M E (pc, lv, st, D, cn, z) = run tT mT L n d M E x' := by
  show fN pc (fun pc => runB tT mT L (run tT mT L n) d M E pc lv st D cn z) = _
  rw [fN_eq]
  unfold runB
  rw [h]
theorem run_rt {L n d : Nat} {M : rM} {E : rE} {pc : Nat} {lv : rK} {st : List rV} {D : rD} {cn z : Nat} {v : Option rV} (h : step tT L M E pc lv st D cn z = some (.inr (.inr (.inr (.inl v))))) : run tT mT L (n + 1) d M E (pc, lv, st, D, cn, z) = some [(E, v, D)] := by
  show fN pc (fun pc => runB tT mT L (run tT mT L n) d M E pc lv st D cn z) = _
  rw [fN_eq]
  unfold runB
  rw [h]
theorem set_self {α : Type} {l : List α} {i : Nat} {v : α} (h : l[i]? = some v) : l.set i v = l := by
  apply List.ext_getElem?
  intro j
  rw [List.getElem?_set]
  by_cases e : i = j
  · subst e
    have := (List.getElem?_eq_some_iff.mp h).1
    rw [if_pos rfl, if_pos this, h]
  · rw [if_neg e]
theorem w_row {D : rD} {k : Nat} {u : rC} (h : wget D k = some u) : ∃ ch, D.2[k / 16]? = some ch ∧ ch[k % 16]? = some u := by
  unfold wget at h
  rw [rget_eq] at h
  cases hc : D.2[Nat.div k 16]? with
  | none => rw [hc] at h; cases h
  | some ch =>
    rw [hc] at h
    dsimp only at h
    rw [rget_eq] at h
    exact ⟨ch, by first | rfl | exact hc, h⟩
theorem w_set {D : rD} {k : Nat} {ch : List rC} (h : D.2[k / 16]? = some ch) (v : rC) : wset v D k (fun d => d) = (D.1, D.2.set (k / 16) (ch.set (k % 16) v)) := by
  unfold wset
  have h' : D.2[Nat.div k 16]? = some ch := h
  rw [rget_eq, h']
  dsimp only
  rw [rset_eq, rset_eq]
  rfl
theorem w_same {D : rD} {k : Nat} {u v : rC} (h : wget D k = some u) : wget (wset v D k (fun d => d)) k = some v := by
  obtain ⟨ch, h1, h2⟩ := w_row h
  rw [w_set h1]
  have l1 := (List.getElem?_eq_some_iff.mp h1).1
  have l2 := (List.getElem?_eq_some_iff.mp h2).1
  unfold wget
  show (match rget (D.2.set (k / 16) (ch.set (k % 16) v)) (k / 16) with | some ch => rget ch (k % 16) | none => none) = some v
  rw [rget_eq, List.getElem?_set, if_pos rfl, if_pos l1]
  dsimp only
  rw [rget_eq, List.getElem?_set, if_pos rfl, if_pos l2]
theorem w_other {D : rD} {k j : Nat} {u v : rC} (h : wget D k = some u) (hj : j ≠ k) : wget (wset v D k (fun d => d)) j = wget D j := by
  obtain ⟨ch, h1, h2⟩ := w_row h
  rw [w_set h1]
  have l1 := (List.getElem?_eq_some_iff.mp h1).1
  unfold wget
  show (match rget (D.2.set (k / 16) (ch.set (k % 16) v)) (j / 16) with | some ch => rget ch (j % 16) | none => none) = (match rget D.2 (j / 16) with | some ch => rget ch (j % 16) | none => none)
  rw [rget_eq, rget_eq, List.getElem?_set]
  by_cases e : k / 16 = j / 16
  · rw [if_pos e, if_pos l1, ← e, h1]
    dsimp only
    rw [rget_eq, rget_eq, List.getElem?_set, if_neg (by omega)]
  · rw [if_neg e]
theorem w_twice {D : rD} {k : Nat} {u v w : rC} (h : wget D k = some u) : wset w (wset v D k (fun d => d)) k (fun d => d) = wset w D k (fun d => d) := by
  obtain ⟨ch, h1, h2⟩ := w_row h
  have l1 := (List.getElem?_eq_some_iff.mp h1).1
  rw [w_set h1, w_set h1]
  have h3 : (D.1, D.2.set (k / 16) (ch.set (k % 16) v)).2[k / 16]? = some (ch.set (k % 16) v) := by
    show (D.2.set (k / 16) (ch.set (k % 16) v))[k / 16]? = _
    rw [List.getElem?_set, if_pos rfl, if_pos l1]
  rw [w_set h3]
  show (D.1, (D.2.set (k / 16) (ch.set (k % 16) v)).set (k / 16) ((ch.set (k % 16) v).set (k % 16) w)) = _
  rw [List.set_set, List.set_set]
theorem w_id {D : rD} {k : Nat} {u : rC} (h : wget D k = some u) : wset u D k (fun d => d) = D := by
  obtain ⟨ch, h1, h2⟩ := w_row h
  rw [w_set h1, set_self h2, set_self h1]
theorem nd_c {E : rE} {n : Nat} (h : n ≤ 4294967295) : nd E n = some n := by
  unfold nd
  rw [Nat.ble_eq_true_of_le h, cond_true]
theorem iv_c {E : rE} {n : Nat} (h : n ≤ 4294967295) : iv E n = (un n, un n) := by
  unfold iv
  rw [Nat.ble_eq_true_of_le h, cond_true]
theorem un_c {n : Nat} (h : n < 2147483648) : un n = n + 2147483648 := by
  unfold un
  show (n + 2147483648) % 4294967296 = _
  omega
theorem cN_nI {n : Nat} (h : n < 4294967296) : cN (nI n) = n := by
  have e := congrArg bz (nI_cN (nI n))
  rw [bz_nI (cN_lt _), bz_nI h] at e
  have e2 := congrArg un e
  rw [un_un (cN_lt _), un_un h] at e2
  exact e2
theorem lt33 {E : rE} {i : Nat} (h : i < 33) : ltD E i 33 = some (.inl true) := by
  unfold ltD
  rw [iv_c (by omega), iv_c (show 33 ≤ 4294967295 by decide), un_c (by omega), un_c (by decide)]
  have : Nat.blt (i + 2147483648) (33 + 2147483648) = true := Nat.ble_eq_true_of_le (by omega)
  show (bif Nat.blt (i + 2147483648) (33 + 2147483648) then _ else _) = _
  rw [this, cond_true]
theorem ge33 {E : rE} : ltD E 33 33 = some (.inl false) := by
  unfold ltD
  rw [iv_c (show 33 ≤ 4294967295 by decide)]
  generalize hu : un 33 = u
  show (bif Nat.blt u u then _ else bif Nat.ble u u then _ else _) = _
  rw [show Nat.blt u u = false from (by
    cases hb : Nat.blt u u with
    | false => rfl
    | true => exact absurd (Nat.le_of_ble_eq_true (show Nat.ble (u + 1) u = true from hb)) (Nat.not_succ_le_self u)), Nat.ble_eq_true_of_le (Nat.le_refl u)]
  rfl
theorem abr_dec {E : rE} {q : ClassFile.Cond} {x y : Nat} {off : Int} {pc : Nat} {lv : rK} {r : List rV} {aw : rD} {c z t : Nat} {w : Bool} (ht : tg pc off = some t) (hw : cmpD E q x y = some (.inl w)) : abr E q x y off pc lv r aw c z = (bif Bool.xor w (neg q) then some (.inl (t, lv, r, aw, c, z)) else some (.inl (Nat.add pc 3, lv, r, aw, c, z))) := by
  unfold abr
  rw [ht]
  dsimp only
  rw [hw]
theorem c33 : cN (Int8.ofInt 33).toInt32 = 33 := by decide +kernel
/-- is every one an int -/
noncomputable def allI (l : List rV) : Bool := List.rec (motive := fun _ => Bool) true (fun v _ ih => match v with
  | .inl _ => ih
  | _ => false) l
theorem allI_at {l : List rV} (h : allI l = true) {i : Nat} {v : rV} (hv : l[i]? = some v) : ∃ n, v = .inl n := by
  induction l generalizing i with
  | nil => simp at hv
  | cons a t ih =>
    cases a with
    | inl n =>
      have h' : allI t = true := h
      cases i with
      | zero => simp at hv; exact ⟨n, hv.symm⟩
      | succ i => rw [List.getElem?_cons_succ] at hv; exact ih h' hv
    | inr w =>
      have h' : false = true := h
      cases h'
/-- the body of the two copying methods -/
def bodyOK (L : Nat) (M : rM) (it is_ ft fs : Nat) : Prop :=
  (∀ E lv st D cn z, step tT L M E 0 lv st D cn z = h_con (cN (Int32.ofInt 0)) 1 tT (mOwn M) (mRet M) (mIni M) (mC M) (mS M) L E 0 lv st D cn z) ∧
  (∀ E lv st D cn z, step tT L M E 1 lv st D cn z = h_istI 1 1 tT (mOwn M) (mRet M) (mIni M) (mC M) (mS M) L E 1 lv st D cn z) ∧
  (∀ E lv st D cn z, step tT L M E 2 lv st D cn z = h_ildI 1 1 tT (mOwn M) (mRet M) (mIni M) (mC M) (mS M) L E 2 lv st D cn z) ∧
  (∀ E lv st D cn z, step tT L M E 3 lv st D cn z = h_con (cN (Int8.ofInt 33).toInt32) 2 tT (mOwn M) (mRet M) (mIni M) (mC M) (mS M) L E 3 lv st D cn z) ∧
  (∀ E lv st D cn z, step tT L M E 5 lv st D cn z = h_if2 .ge 21 tT (mOwn M) (mRet M) (mIni M) (mC M) (mS M) L E 5 lv st D cn z) ∧
  (∀ E lv st D cn z, step tT L M E 8 lv st D cn z = h_ildA 0 1 tT (mOwn M) (mRet M) (mIni M) (mC M) (mS M) L E 8 lv st D cn z) ∧
  (∀ E lv st D cn z, step tT L M E 9 lv st D cn z = h_getf it tT (mOwn M) (mRet M) (mIni M) (mC M) (mS M) L E 9 lv st D cn z) ∧
  (∀ E lv st D cn z, step tT L M E 12 lv st D cn z = h_ildI 1 1 tT (mOwn M) (mRet M) (mIni M) (mC M) (mS M) L E 12 lv st D cn z) ∧
  (∀ E lv st D cn z, step tT L M E 13 lv st D cn z = h_ildA 0 1 tT (mOwn M) (mRet M) (mIni M) (mC M) (mS M) L E 13 lv st D cn z) ∧
  (∀ E lv st D cn z, step tT L M E 14 lv st D cn z = h_getf is_ tT (mOwn M) (mRet M) (mIni M) (mC M) (mS M) L E 14 lv st D cn z) ∧
  (∀ E lv st D cn z, step tT L M E 17 lv st D cn z = h_ildI 1 1 tT (mOwn M) (mRet M) (mIni M) (mC M) (mS M) L E 17 lv st D cn z) ∧
  (∀ E lv st D cn z, step tT L M E 18 lv st D cn z = h_ald 14 14 tT (mOwn M) (mRet M) (mIni M) (mC M) (mS M) L E 18 lv st D cn z) ∧
  (∀ E lv st D cn z, step tT L M E 19 lv st D cn z = h_ast 14 14 tT (mOwn M) (mRet M) (mIni M) (mC M) (mS M) L E 19 lv st D cn z) ∧
  (∀ E lv st D cn z, step tT L M E 20 lv st D cn z = h_iinc 1 1 tT (mOwn M) (mRet M) (mIni M) (mC M) (mS M) L E 20 lv st D cn z) ∧
  (∀ E lv st D cn z, step tT L M E 23 lv st D cn z = h_goto (-21) tT (mOwn M) (mRet M) (mIni M) (mC M) (mS M) L E 23 lv st D cn z) ∧
  (∀ E lv st D cn z, step tT L M E 26 lv st D cn z = h_retV tT (mOwn M) (mRet M) (mIni M) (mC M) (mS M) L E 26 lv st D cn z) ∧
  (∃ w, kf tF (mOwn M) it = some (12, ft, w)) ∧ (∃ w, kf tF (mOwn M) is_ = some (12, fs, w)) ∧ mRet M = none ∧ mC M = 0 ∧ mS M = 0
theorem body_keep (L : Nat) : bodyOK L (12, prog_14_method_95_code, i_X12_keepNow, 2, none, false, 0, 0) 95 89 49 45 := ⟨fun _ _ _ _ _ _ => rfl, fun _ _ _ _ _ _ => rfl, fun _ _ _ _ _ _ => rfl, fun _ _ _ _ _ _ => rfl, fun _ _ _ _ _ _ => rfl, fun _ _ _ _ _ _ => rfl, fun _ _ _ _ _ _ => rfl, fun _ _ _ _ _ _ => rfl, fun _ _ _ _ _ _ => rfl, fun _ _ _ _ _ _ => rfl, fun _ _ _ _ _ _ => rfl, fun _ _ _ _ _ _ => rfl, fun _ _ _ _ _ _ => rfl, fun _ _ _ _ _ _ => rfl, fun _ _ _ _ _ _ => rfl, fun _ _ _ _ _ _ => rfl, ⟨_, rfl⟩, ⟨_, rfl⟩, rfl, rfl, rfl⟩
theorem body_back (L : Nat) : bodyOK L (12, prog_14_method_96_code, i_X12_bringBack, 2, none, false, 0, 0) 89 95 45 49 := ⟨fun _ _ _ _ _ _ => rfl, fun _ _ _ _ _ _ => rfl, fun _ _ _ _ _ _ => rfl, fun _ _ _ _ _ _ => rfl, fun _ _ _ _ _ _ => rfl, fun _ _ _ _ _ _ => rfl, fun _ _ _ _ _ _ => rfl, fun _ _ _ _ _ _ => rfl, fun _ _ _ _ _ _ => rfl, fun _ _ _ _ _ _ => rfl, fun _ _ _ _ _ _ => rfl, fun _ _ _ _ _ _ => rfl, fun _ _ _ _ _ _ => rfl, fun _ _ _ _ _ _ => rfl, fun _ _ _ _ _ _ => rfl, fun _ _ _ _ _ _ => rfl, ⟨_, rfl⟩, ⟨_, rfl⟩, rfl, rfl, rfl⟩
theorem mix_step {l C : List rV} {i : Nat} {v : rV} (hl : l.length = 33) (hC : C.length = 33) (hi : i < 33) (hv : l[i]? = some v) : (l.take i ++ C.drop i).set i v = l.take (i + 1) ++ C.drop (i + 1) := by
  apply List.ext_getElem?
  intro j
  rw [List.getElem?_set]
  have h1 : (l.take i).length = i := by rw [List.length_take]; omega
  have h2 : (l.take (i + 1)).length = i + 1 := by rw [List.length_take]; omega
  have h3 : (l.take i ++ C.drop i).length = 33 := by rw [List.length_append, List.length_drop, h1]; omega
  by_cases e : i = j
  · subst e
    rw [if_pos rfl, if_pos (by omega), List.getElem?_append_left (by omega), List.getElem?_take_of_lt (by omega), hv]
  · rw [if_neg e]
    rcases Nat.lt_or_ge j i with q | q
    · rw [List.getElem?_append_left (by omega), List.getElem?_append_left (by omega), List.getElem?_take_of_lt q, List.getElem?_take_of_lt (by omega)]
    · rw [List.getElem?_append_right (by omega), List.getElem?_append_right (by omega), h1, h2, List.getElem?_drop, List.getElem?_drop]
      congr 1
      omega
theorem copy_loop {L : Nat} {M : rM} {it is_ ft fs : Nat} (hB : bodyOK L M it is_ ft fs) {E : rE} {D : rD} {j ks kt : Nat} {q : rC} {la C : List rV} (hq : wget D j = some q) (q12 : q.1 = 12) (hft : rget q.2 ft = some (.inr (.inr (some (kt + 1))))) (hfs : rget q.2 fs = some (.inr (.inr (some (ks + 1))))) (hA : wget D ks = some (14, la)) (hC : wget D kt = some (14, C)) (lA : la.length = 33) (lC : C.length = 33) (n1 : ks ≠ kt) (n2 : j ≠ kt) (hI : allI la = true) (d : Nat) : ∀ (r i : Nat), i + r = 33 → ∃ n, run tT mT L n d M E (2, [(1, .inl i), (0, .inr (.inr (some (j + 1))))], [], wset (14, la.take i ++ C.drop i) D kt (fun d => d), 0, 0) = some [(E, none, wset (14, la) D kt (fun d => d))] := by
  obtain ⟨b0, b1, b2, b3, b5, b8, b9, b12, b13, b14, b17, b18, b19, b20, b23, b26, ⟨w1, k1⟩, ⟨w2, k2⟩, hret, hmc, hms⟩ := hB
  intro r
  induction r with
  | zero =>
    intro i hi
    have e : i = 33 := by omega
    subst e
    refine ⟨4, ?_⟩
    rw [run_go (x' := (3, [(1, .inl 33), (0, .inr (.inr (some (j + 1))))], [.inl 33], _, 0, 0)) (by rw [b2]; rfl)]
    rw [run_go (x' := (5, [(1, .inl 33), (0, .inr (.inr (some (j + 1))))], [.inl 33, .inl 33], _, 0, 0)) (by rw [b3]; unfold h_con; rw [c33]; try rfl)]
    rw [run_go (x' := (26, [(1, .inl 33), (0, .inr (.inr (some (j + 1))))], [], _, 0, 0)) (by
      rw [b5]
      show abr E .ge 33 33 21 5 _ _ _ _ _ = _
      rw [abr_dec (t := 26) rfl (show cmpD E .ge 33 33 = some (.inl false) from ge33)]
      rfl)]
    rw [run_rt (v := none) (by
      rw [b26]
      unfold h_retV
      rw [hret, hmc, hms]
      rfl)]
    rw [show la.take 33 ++ C.drop 33 = la by rw [← lA, List.take_length, List.drop_eq_nil_of_le (by omega), List.append_nil]]
  | succ r ih =>
    intro i hi
    have hi33 : i < 33 := by omega
    obtain ⟨n, hn⟩ := ih (i + 1) (by omega)
    refine ⟨n + 13, ?_⟩
    obtain ⟨v, hv⟩ : ∃ v, la[i]? = some v := ⟨_, List.getElem?_eq_getElem (by omega)⟩
    obtain ⟨a, rfl⟩ := allI_at hI hv
    have hDq : wget (wset (14, la.take i ++ C.drop i) D kt (fun d => d)) j = some q := by rw [w_other hC n2]; exact hq
    have hDs : wget (wset (14, la.take i ++ C.drop i) D kt (fun d => d)) ks = some (14, la) := by rw [w_other hC n1]; exact hA
    have hDt : wget (wset (14, la.take i ++ C.drop i) D kt (fun d => d)) kt = some (14, la.take i ++ C.drop i) := w_same hC
    have hlen : (la.take i ++ C.drop i).length = 33 := by rw [List.length_append, List.length_take, List.length_drop]; omega
    have hD' : wset (14, (la.take i ++ C.drop i).set i (.inl a)) (wset (14, la.take i ++ C.drop i) D kt (fun d => d)) kt (fun d => d) = wset (14, la.take (i + 1) ++ C.drop (i + 1)) D kt (fun d => d) := by
      rw [w_twice hC, mix_step lA lC hi33 hv]
    generalize hDi : wset (14, la.take i ++ C.drop i) D kt (fun d => d) = Di at hDq hDs hDt hD'
    have g12 : Nat.beq q.1 12 = true := by rw [q12]; rfl
    rw [run_go (x' := (3, [(1, .inl i), (0, .inr (.inr (some (j + 1))))], [.inl i], Di, 0, 0)) (by rw [b2]; rfl)]
    rw [run_go (x' := (5, [(1, .inl i), (0, .inr (.inr (some (j + 1))))], [.inl 33, .inl i], Di, 0, 0)) (by rw [b3]; unfold h_con; rw [c33]; try rfl)]
    rw [run_go (x' := (8, [(1, .inl i), (0, .inr (.inr (some (j + 1))))], [], Di, 0, 0)) (by
      rw [b5]
      show abr E .ge i 33 21 5 _ _ _ _ _ = _
      rw [abr_dec (t := 26) rfl (show cmpD E .ge i 33 = some (.inl true) from lt33 hi33)]
      rfl)]
    rw [run_go (x' := (9, [(1, .inl i), (0, .inr (.inr (some (j + 1))))], [.inr (.inr (some (j + 1)))], Di, 0, 0)) (by rw [b8]; rfl)]
    rw [run_go (x' := (12, [(1, .inl i), (0, .inr (.inr (some (j + 1))))], [.inr (.inr (some (kt + 1)))], Di, 0, 0)) (by
      rw [b9]
      unfold h_getf
      dsimp only
      rw [show kf tT.1 (mOwn M) it = some (12, ft, w1) from k1]
      dsimp only
      rw [hDq]
      dsimp only
      rw [g12, cond_true, hft])]
    rw [run_go (x' := (13, [(1, .inl i), (0, .inr (.inr (some (j + 1))))], [.inl i, .inr (.inr (some (kt + 1)))], Di, 0, 0)) (by rw [b12]; rfl)]
    rw [run_go (x' := (14, [(1, .inl i), (0, .inr (.inr (some (j + 1))))], [.inr (.inr (some (j + 1))), .inl i, .inr (.inr (some (kt + 1)))], Di, 0, 0)) (by rw [b13]; rfl)]
    rw [run_go (x' := (17, [(1, .inl i), (0, .inr (.inr (some (j + 1))))], [.inr (.inr (some (ks + 1))), .inl i, .inr (.inr (some (kt + 1)))], Di, 0, 0)) (by
      rw [b14]
      unfold h_getf
      dsimp only
      rw [show kf tT.1 (mOwn M) is_ = some (12, fs, w2) from k2]
      dsimp only
      rw [hDq]
      dsimp only
      rw [g12, cond_true, hfs])]
    rw [run_go (x' := (18, [(1, .inl i), (0, .inr (.inr (some (j + 1))))], [.inl i, .inr (.inr (some (ks + 1))), .inl i, .inr (.inr (some (kt + 1)))], Di, 0, 0)) (by rw [b17]; rfl)]
    rw [run_go (x' := (19, [(1, .inl i), (0, .inr (.inr (some (j + 1))))], [.inl a, .inl i, .inr (.inr (some (kt + 1)))], Di, 0, 0)) (by
      rw [b18]
      unfold h_ald ald
      dsimp only
      rw [nd_c (show i ≤ 4294967295 by omega)]
      dsimp only
      rw [hDs]
      dsimp only
      rw [show (Nat.beq 14 14 || Nat.beq 14 14) = true from rfl, cond_true, rget_eq, hv]
      dsimp only
      rw [show Nat.ble i 2147483647 = true from Nat.ble_eq_true_of_le (by omega)]
      rfl)]
    rw [run_go (x' := (20, [(1, .inl i), (0, .inr (.inr (some (j + 1))))], [], wset (14, la.take (i + 1) ++ C.drop (i + 1)) D kt (fun d => d), 0, 0)) (by
      rw [b19]
      unfold h_ast ast
      dsimp only
      rw [nd_c (show i ≤ 4294967295 by omega)]
      dsimp only
      rw [hDt]
      dsimp only
      rw [show ((Nat.beq 14 14 || Nat.beq 14 14) && (ok_el 14 (.inl a) && (Nat.blt i (la.take i ++ C.drop i).length && Nat.ble i 2147483647))) = true by
        rw [hlen, show Nat.blt i 33 = true from Nat.ble_eq_true_of_le hi33, show Nat.ble i 2147483647 = true from Nat.ble_eq_true_of_le (by omega)]
        rfl, cond_true, rset_eq, wset_k, hD'])]
    rw [run_go (x' := (23, [(1, .inl (i + 1)), (0, .inr (.inr (some (j + 1))))], [], wset (14, la.take (i + 1) ++ C.drop (i + 1)) D kt (fun d => d), 0, 0)) (by
      rw [b20]
      unfold h_iinc
      rw [show lget [(1, (.inl i : rV)), (0, .inr (.inr (some (j + 1))))] 1 = some (.inl i) from rfl]
      dsimp only
      rw [nd_c (show i ≤ 4294967295 by omega)]
      dsimp only
      rw [fN_eq, show nI i + Int32.ofInt 1 = nI (i + 1) from nI_1 i, cN_nI (by omega)]
      rfl)]
    rw [run_go (x' := (2, [(1, .inl (i + 1)), (0, .inr (.inr (some (j + 1))))], [], wset (14, la.take (i + 1) ++ C.drop (i + 1)) D kt (fun d => d), 0, 0)) (by rw [b23]; rfl)]
    exact hn
theorem copy_run {L : Nat} {M : rM} {it is_ ft fs : Nat} (hB : bodyOK L M it is_ ft fs) {E : rE} {D : rD} {j ks kt : Nat} {q : rC} {la C : List rV} (hq : wget D j = some q) (q12 : q.1 = 12) (hft : rget q.2 ft = some (.inr (.inr (some (kt + 1))))) (hfs : rget q.2 fs = some (.inr (.inr (some (ks + 1))))) (hA : wget D ks = some (14, la)) (hC : wget D kt = some (14, C)) (lA : la.length = 33) (lC : C.length = 33) (n1 : ks ≠ kt) (n2 : j ≠ kt) (hI : allI la = true) (d : Nat) : ∃ n, run tT mT L n d M E (0, argsL [.inr (.inr (some (j + 1)))] 0, [], D, 0, 0) = some [(E, none, wset (14, la) D kt (fun d => d))] := by
  obtain ⟨n, hn⟩ := copy_loop hB (E := E) hq q12 hft hfs hA hC lA lC n1 n2 hI d 33 0 rfl
  rw [List.take_zero, List.drop_zero, List.nil_append, w_id hC] at hn
  obtain ⟨b0, b1, -⟩ := hB
  refine ⟨n + 2, ?_⟩
  rw [show argsL [.inr (.inr (some (j + 1)))] 0 = [(0, (.inr (.inr (some (j + 1))) : rV))] from rfl]
  rw [run_go (x' := (1, [(0, .inr (.inr (some (j + 1))))], [.inl 0], D, 0, 0)) (by
    rw [b0]
    unfold h_con
    rw [show cN (Int32.ofInt 0) = 0 by decide +kernel]
    try rfl)]
  rw [run_go (x' := (2, [(1, .inl 0), (0, .inr (.inr (some (j + 1))))], [], D, 0, 0)) (by rw [b1]; rfl)]
  exact hn
