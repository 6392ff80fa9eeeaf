/-! the start: what is made before the loop, run by the kernel; nothing of it reads the script -/
theorem ald_L {t1 t2 : Nat} {L : List Nat} {E : rE} {pc : Nat} {lv : rK} {st : List rV} {aw : rD} {c z : Nat} {o : rO} (h : ald t1 t2 [] E pc lv st aw c z = some o) : ald t1 t2 L E pc lv st aw c z = some o := by
  unfold ald at h
  split at h
  · next i k r =>
    cases k with
    | succ k => exact h
    | zero =>
      unfold ald
      dsimp only at h ⊢
      cases hn : nd E i with
      | none => rw [hn] at h; exact h
      | some n =>
        rw [hn] at h
        dsimp only at h
        rw [show rget ([] : List Nat) n = none by rw [rget_eq]; rfl] at h
        cases h
  · cases h
noncomputable def evI (i : Instr) : Bool := match i with
  | .aaload => false
  | .arraylength => false
  | _ => true
theorem step_L {L : List Nat} {M : rM} {pc : Nat} {lv : rK} {st : List rV} {aw : rD} {c z : Nat} {o : rO} (hi : ∀ q, mTab M pc = some q → evI q.1 = true) (h : step tT [] M [] pc lv st aw c z = some o) : step tT L M [] pc lv st aw c z = some o := by
  unfold step at h ⊢
  cases hm : mTab M pc with
  | none => rw [hm] at h; cases h
  | some q =>
    rw [hm] at h
    have hi := hi q hm
    dsimp only at h ⊢
    cases hs : isStr q with
    | true => rw [hs] at h; exact h
    | false =>
      rw [hs, cond_false] at h
      rw [cond_false]
      obtain ⟨i, w⟩ := q
      have key : ∀ {t1 t2 : Nat}, (bif (Nat.beq 1 0 || Nat.beq 1 w) then ald t1 t2 [] [] pc lv st aw c z else none) = some o → (bif (Nat.beq 1 0 || Nat.beq 1 w) then ald t1 t2 L [] pc lv st aw c z else none) = some o := by
        intro t1 t2 h
        cases hw : (Nat.beq 1 0 || Nat.beq 1 w) with
        | false => rw [hw] at h; cases h
        | true => rw [hw, cond_true] at h; rw [cond_true]; exact ald_L h
      cases i
      case iaload => exact key h
      case baload => exact key h
      case laload => exact key h
      case aaload => cases hi
      case arraylength => cases hi
      all_goals exact h
noncomputable def evP (M : rM) (pc : Nat) : Bool := match mTab M pc with
  | some q => evI q.1
  | none => false
theorem evP_ok {M : rM} {pc : Nat} (h : evP M pc = true) : ∀ q, mTab M pc = some q → evI q.1 = true := by
  intro q hq
  unfold evP at h
  rw [hq] at h
  exact h
noncomputable def pcall (As : List rV) (M M' : rM) (c z : Nat) : Bool := Nat.ble (asum As) (mLoc M') && (Nat.ble (mLoc M') 80 && (Nat.ble (Nat.add c (mC M')) (mC M) && Nat.ble (Nat.add z (mS M')) (mS M)))
noncomputable def pev (n : Nat) : Nat → rM → rX → Option (Option rV × rD) := Nat.rec (motive := fun _ => Nat → rM → rX → Option (Option rV × rD)) (fun _ _ _ => none) (fun _ ih d M x => fN x.1 (fun pc => bif evP M pc then (match step tT [] M [] pc x.2.1 x.2.2.1 x.2.2.2.1 x.2.2.2.2.1 x.2.2.2.2.2 with
  | some (.inl x') => ih d M x'
  | some (.inr (.inr (.inr (.inl v)))) => some (v, x.2.2.2.1)
  | some (.inr (.inr (.inr (.inr (mi, As, r))))) => (match mT mi with
    | some M' => Nat.rec (motive := fun _ => Option (Option rV × rD)) none (fun d' _ => bif pcall As M M' x.2.2.2.2.1 x.2.2.2.2.2 then (match ih d' M' (0, argsL As 0, [], x.2.2.2.1, 0, 0) with
      | some y => ih d M (Nat.add pc 3, x.2.1, y.1.toList ++ r, y.2, Nat.add x.2.2.2.2.1 (mC M'), Nat.add x.2.2.2.2.2 (mS M'))
      | none => none) else none) d
    | none => none)
  | _ => none) else none)) n
theorem pev_ok {L : List Nat} : ∀ (n d : Nat) (M : rM) (x : rX) (y : Option rV × rD), pev n d M x = some y → Ev L d M x (fun v D => v = y.1 ∧ D = y.2) := by
  intro n
  induction n with
  | zero => intro d M x y h; cases h
  | succ n ih =>
    intro d M x y h
    obtain ⟨pc, lw, sw, D, c, z⟩ := x
    have e : pev (n + 1) d M (pc, lw, sw, D, c, z) = fN pc (fun pc => bif evP M pc then (match step tT [] M [] pc lw sw D c z with
      | some (.inl x') => pev n d M x'
      | some (.inr (.inr (.inr (.inl v)))) => some (v, D)
      | some (.inr (.inr (.inr (.inr (mi, As, r))))) => (match mT mi with
        | some M' => Nat.rec (motive := fun _ => Option (Option rV × rD)) none (fun d' _ => bif pcall As M M' c z then (match pev n d' M' (0, argsL As 0, [], D, 0, 0) with
          | some y => pev n d M (Nat.add pc 3, lw, y.1.toList ++ r, y.2, Nat.add c (mC M'), Nat.add z (mS M'))
          | none => none) else none) d
        | none => none)
      | _ => none) else none) := rfl
    rw [e, fN_eq] at h
    cases hp : evP M pc with
    | false => rw [hp] at h; cases h
    | true =>
      rw [hp, cond_true] at h
      have hst : ∀ {o : rO}, step tT [] M [] pc lw sw D c z = some o → step tT L M [] pc lw sw D c z = some o := fun g => step_L (evP_ok hp) g
      split at h
      · next x' hs => exact Ev_step (hst hs) (ih d M x' y h)
      · next v hs =>
        cases h
        exact Ev_ret (hst hs) ⟨rfl, rfl⟩
      · next mi As r hs =>
        split at h
        · next M' hM =>
          cases d with
          | zero => cases h
          | succ d =>
            have h : (bif pcall As M M' c z then (match pev n d M' (0, argsL As 0, [], D, 0, 0) with
              | some y => pev n (d + 1) M (Nat.add pc 3, lw, y.1.toList ++ r, y.2, Nat.add c (mC M'), Nat.add z (mS M'))
              | none => none) else none) = some y := h
            cases hb : pcall As M M' c z with
            | false => rw [hb] at h; cases h
            | true =>
              rw [hb, cond_true] at h
              unfold pcall at hb
              rw [Bool.and_eq_true, Bool.and_eq_true, Bool.and_eq_true] at hb
              obtain ⟨b1, b2, b3, b4⟩ := hb
              split at h
              · next y1 hy1 =>
                refine Ev_call (hst hs) hM (Nat.le_of_ble_eq_true b1) (Nat.le_of_ble_eq_true b2) (Nat.le_of_ble_eq_true b3) (Nat.le_of_ble_eq_true b4) (ih d M' _ y1 hy1) ?_
                rintro v D' ⟨e1, e2⟩
                subst e1
                subst e2
                exact ih (d + 1) M _ y h
              · cases h
        · cases h
      · cases h
noncomputable def pre (n : Nat) : rX → Option rX := Nat.rec (motive := fun _ => rX → Option rX) (fun _ => none) (fun _ ih x => fN x.1 (fun pc => bif Nat.beq pc 18 then some x else bif evP mL pc then (match step tT [] mL [] pc x.2.1 x.2.2.1 x.2.2.2.1 x.2.2.2.2.1 x.2.2.2.2.2 with
  | some (.inl x') => ih x'
  | some (.inr (.inr (.inr (.inr (mi, As, r))))) => (match mT mi with
    | some M' => bif pcall As mL M' x.2.2.2.2.1 x.2.2.2.2.2 then (match pev 1000000 60 M' (0, argsL As 0, [], x.2.2.2.1, 0, 0) with
      | some y => ih (Nat.add pc 3, x.2.1, y.1.toList ++ r, y.2, Nat.add x.2.2.2.2.1 (mC M'), Nat.add x.2.2.2.2.2 (mS M'))
      | none => none) else none
    | none => none)
  | _ => none) else none)) n
theorem pre_ok {L : List Nat} {P : Option rV → rD → Prop} : ∀ (n : Nat) (x x' : rX), pre n x = some x' → Ev L 61 mL x' P → Ev L 61 mL x P := by
  intro n
  induction n with
  | zero => intro x x' h; cases h
  | succ n ih =>
    intro x x' h g
    obtain ⟨pc, lw, sw, D, c, z⟩ := x
    have e : pre (n + 1) (pc, lw, sw, D, c, z) = fN pc (fun q => bif Nat.beq q 18 then some (pc, lw, sw, D, c, z) else bif evP mL q then (match step tT [] mL [] q lw sw D c z with
      | some (.inl x') => pre n x'
      | some (.inr (.inr (.inr (.inr (mi, As, r))))) => (match mT mi with
        | some M' => bif pcall As mL M' c z then (match pev 1000000 60 M' (0, argsL As 0, [], D, 0, 0) with
          | some y => pre n (Nat.add q 3, lw, y.1.toList ++ r, y.2, Nat.add c (mC M'), Nat.add z (mS M'))
          | none => none) else none
        | none => none)
      | _ => none) else none) := rfl
    rw [e, fN_eq] at h
    cases h18 : Nat.beq pc 18 with
    | true =>
      rw [h18, cond_true] at h
      cases h
      exact g
    | false =>
      rw [h18, cond_false] at h
      cases hp : evP mL pc with
      | false => rw [hp] at h; cases h
      | true =>
        rw [hp, cond_true] at h
        have hst : ∀ {o : rO}, step tT [] mL [] pc lw sw D c z = some o → step tT L mL [] pc lw sw D c z = some o := fun g => step_L (evP_ok hp) g
        split at h
        · next x1 hs => exact Ev_step (hst hs) (ih _ _ h g)
        · next mi As r hs =>
          split at h
          · next M' hM =>
            cases hb : pcall As mL M' c z with
            | false => rw [hb] at h; cases h
            | true =>
              rw [hb, cond_true] at h
              unfold pcall at hb
              rw [Bool.and_eq_true, Bool.and_eq_true, Bool.and_eq_true] at hb
              obtain ⟨b1, b2, b3, b4⟩ := hb
              split at h
              · next y1 hy1 =>
                refine Ev_call (hst hs) hM (Nat.le_of_ble_eq_true b1) (Nat.le_of_ble_eq_true b2) (Nat.le_of_ble_eq_true b3) (Nat.le_of_ble_eq_true b4) (pev_ok 1000000 60 M' _ y1 hy1) ?_
                rintro v D' ⟨e1, e2⟩
                subst e1
                subst e2
                exact ih _ _ h g
              · cases h
          · cases h
        · cases h
def full {α : Type} : List (List α) → Bool
  | [] => true
  | [r] => Nat.ble r.length 16
  | r :: s :: t => Nat.beq r.length 16 && full (s :: t)
theorem flat_ok {α : Type} : ∀ (rows : List (List α)), full rows = true → ∀ k, (match rows[k / 16]? with | some ch => ch[k % 16]? | none => none) = rows.flatten[k]?
  | [], _, k => by simp
  | [r], h, k => by
    have h : r.length ≤ 16 := Nat.le_of_ble_eq_true h
    by_cases hk : k < 16
    · rw [show k / 16 = 0 by omega, show k % 16 = k by omega]
      simp
    · rw [List.getElem?_eq_none (show [r].length ≤ k / 16 by simp; omega)]
      simp
      omega
  | r :: s :: t, h, k => by
    have h : (Nat.beq r.length 16 && full (s :: t)) = true := h
    rw [Bool.and_eq_true] at h
    have h1 := Nat.eq_of_beq_eq_true h.1
    by_cases hk : k < 16
    · rw [show k / 16 = 0 by omega, show k % 16 = k by omega, List.flatten_cons, List.getElem?_append_left (by omega)]
      rfl
    · have ih := flat_ok (s :: t) h.2 (k - 16)
      rw [show k / 16 = (k - 16) / 16 + 1 by omega, show k % 16 = (k - 16) % 16 by omega, List.flatten_cons, List.getElem?_append_right (by omega), h1]
      exact ih
theorem rep_flat {D : rD} (h : full D.2 = true) (h2 : D.1 = D.2.flatten.length) : rep D D.2.flatten := by
  refine ⟨h2, fun k => ?_⟩
  rw [← flat_ok D.2 h k]
  unfold wget
  rw [rget_eq]
  show (match D.2[k / 16]? with | some ch => rget ch (k % 16) | none => none) = _
  cases D.2[k / 16]? with
  | none => rfl
  | some ch => exact rget_eq _ _
