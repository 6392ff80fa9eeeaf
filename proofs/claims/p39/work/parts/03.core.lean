/-! A machine of plain lists that runs the law on a fresh object: ints are codes below 2^32, or unknowns above; a place k + 1 is the k-th cell that was made, place 0 the script -/
abbrev rV : Type := Nat ⊕ (Nat ⊕ Option Nat)
abbrev rC : Type := Nat × List rV
abbrev rE : Type := List (Nat × Nat)
abbrev rK : Type := List (Nat × rV)
/-- the cells: how many, and they in rows of sixteen -/
abbrev rD : Type := Nat × List (List rC)
abbrev rX : Type := Nat × rK × List rV × rD × Nat × Nat
abbrev rO : Type := rX ⊕ ((Nat × Nat) ⊕ ((rX × rX) ⊕ ((Option rV) ⊕ (Nat × List rV × List rV))))
abbrev rF : Type := rE × Option rV × rD
def ri (sg : Nat → Int32) (n : Nat) : Int32 := if n < 4294967296 then nI n else sg (n - 4294967296)
def ra (b B : Nat) (k : Nat) : Nat := match k with
  | 0 => b
  | k + 1 => B + k
def rv (sg : Nat → Int32) (b B : Nat) (v : rV) : Value := match v with
  | .inl n => .int (ri sg n)
  | .inr (.inl z) => .long (lN z)
  | .inr (.inr (some k)) => .ref (ra b B k)
  | .inr (.inr none) => .null
def rI (sg : Nat → Int32) (v : rV) : Int32 := match v with
  | .inl n => ri sg n
  | _ => 0
def rL (v : rV) : Int64 := match v with
  | .inr (.inl z) => lN z
  | _ => 0
def rR (b B : Nat) (v : rV) : Option Nat := match v with
  | .inr (.inr (some k)) => some (ra b B k)
  | _ => none
def rd : rV := .inr (.inr none)
def rA (sg : Nat → Int32) (b B : Nat) (t : Nat) (l : List rV) : vp_A := (l.length, if t = 15 then .inr (.inl (fun j => rL (l.getD j rd))) else if t < 17 then .inl (fun j => rI sg (l.getD j rd)) else .inr (.inr (.inr (.inr (fun j => rR b B (l.getD j rd))))))
def rce (sg : Nat → Int32) (b B : Nat) (cy : Nat → ClassId) (q : rC) : va_E := if q.1 < 13 then .inr (q.1, q.2.map (rv sg b B)) else .inl (cy q.1, rA sg b B q.1 q.2)
def rW (sg : Nat → Int32) (b B : Nat) (cy : Nat → ClassId) (aw : List rC) : va_W := aw.zipIdx.map (fun q => (B + q.2, rce sg b B cy q.1))
def rG (B : Nat) : Nat → Prop := fun q => B ≤ q
theorem rW_at {sg : Nat → Int32} {b B : Nat} {cy : Nat → ClassId} (aw : List rC) (k : Nat) : (rW sg b B cy aw)[k]? = aw[k]?.map (fun q => (B + k, rce sg b B cy q)) := by
  unfold rW
  rw [List.getElem?_map, List.getElem?_zipIdx]
  cases aw[k]? with
  | none => rfl
  | some q => simp
theorem rW_get {sg : Nat → Int32} {b B : Nat} {cy : Nat → ClassId} {aw : List rC} {k : Nat} {q : rC} (h : aw[k]? = some q) : (rW sg b B cy aw)[k]? = some (B + k, rce sg b B cy q) := by
  rw [rW_at, h]; rfl
theorem rW_set {sg : Nat → Int32} {b B : Nat} {cy : Nat → ClassId} (aw : List rC) (k : Nat) (q : rC) : (rW sg b B cy aw).set k (B + k, rce sg b B cy q) = rW sg b B cy (aw.set k q) := by
  apply List.ext_getElem?
  intro i
  rw [rW_at, List.getElem?_set, List.getElem?_set]
  have hl : (rW sg b B cy aw).length = aw.length := by unfold rW; simp
  by_cases e : k = i
  · subst e
    by_cases h : k < aw.length
    · simp [hl, h]
    · simp [hl, h]
  · simp [e, rW_at]
theorem rW_app {sg : Nat → Int32} {b B : Nat} {cy : Nat → ClassId} (aw : List rC) (q : rC) : rW sg b B cy (aw ++ [q]) = rW sg b B cy aw ++ [(B + aw.length, rce sg b B cy q)] := by
  unfold rW
  rw [List.zipIdx_append]
  simp
theorem rW_D {sg : Nat → Int32} {b B : Nat} {cy : Nat → ClassId} (aw : List rC) : va_D (rG B) (rW sg b B cy aw) := by
  have key : ∀ (k : Nat) (q : Nat × va_E), (rW sg b B cy aw)[k]? = some q → q.1 = B + k := by
    intro k q h
    rw [rW_at] at h
    cases hk : aw[k]? with
    | none => rw [hk] at h; cases h
    | some z => rw [hk] at h; cases h; rfl
  refine ⟨fun i j x y hi hj hxy => ?_, fun k q hk => ?_⟩
  · have h1 := key i x hi
    have h2 := key j y hj
    omega
  · have h1 := key k q hk
    show B ≤ q.1
    omega
/-! codes -/
def cN (x : Int32) : Nat := x.toUInt32.toNat
def cL (x : Int64) : Nat := x.toUInt64.toNat
theorem cN_lt (x : Int32) : cN x < 4294967296 := x.toUInt32.toNat_lt
theorem nI_cN (x : Int32) : nI (cN x) = x := by
  unfold nI cN
  apply Int32.toBitVec_inj.mp
  simp
theorem lN_cL (x : Int64) : lN (cL x) = x := by
  unfold lN cL
  apply Int64.toBitVec_inj.mp
  simp
theorem ri_c {sg : Nat → Int32} {n : Nat} (h : n < 4294967296) : ri sg n = nI n := if_pos h
theorem ri_cN {sg : Nat → Int32} (x : Int32) : ri sg (cN x) = x := by rw [ri_c (cN_lt x), nI_cN]
theorem ri_u {sg : Nat → Int32} (j : Nat) : ri sg (4294967296 + j) = sg j := by
  unfold ri
  rw [if_neg (by omega), Nat.add_sub_cancel_left]
/-! the order of ints as an order of numbers -/
def bz (x : Int32) : Nat := (x.toInt + 2147483648).toNat
def un (n : Nat) : Nat := Nat.mod (Nat.add n 2147483648) 4294967296
theorem bz_in (x : Int32) : (bz x : Int) = x.toInt + 2147483648 := by
  unfold bz
  have h1 := x.minValue_le_toInt
  have h2 : Int32.minValue.toInt = -2147483648 := by decide
  omega
theorem bz_lt (x y : Int32) : x < y ↔ bz x < bz y := by
  rw [Int32.lt_iff_toInt_lt]
  have h1 := bz_in x
  have h2 := bz_in y
  omega
theorem bz_le (x y : Int32) : x ≤ y ↔ bz x ≤ bz y := by
  rw [Int32.le_iff_toInt_le]
  have h1 := bz_in x
  have h2 := bz_in y
  omega
theorem bz_eq (x y : Int32) : x = y ↔ bz x = bz y := by
  rw [← Int32.toInt_inj]
  have h1 := bz_in x
  have h2 := bz_in y
  omega
theorem bz_top (x : Int32) : bz x < 4294967296 := by
  have h1 := bz_in x
  have h2 := x.toInt_lt
  omega
theorem nI_int (n : Nat) : (nI n).toInt = (n : Int).bmod 4294967296 := by
  unfold nI
  simp [Int32.toInt_ofNat']
theorem bz_nI {n : Nat} (h : n < 4294967296) : bz (nI n) = un n := by
  have h1 := bz_in (nI n)
  rw [nI_int, Int.bmod_def] at h1
  unfold un
  show bz (nI n) = (n + 2147483648) % 4294967296
  omega
theorem un_un {n : Nat} (h : n < 4294967296) : un (un n) = n := by
  unfold un
  show ((n + 2147483648) % 4294967296 + 2147483648) % 4294967296 = n
  omega
theorem un_lt (n : Nat) : un n < 4294967296 := Nat.mod_lt _ (by decide)
theorem un_bz (x : Int32) : nI (un (bz x)) = x := by
  rw [bz_eq, bz_nI (un_lt _), un_un (bz_top x)]
/-! what is known of the unknowns -/
def eOK (sg : Nat → Int32) (E : rE) : Prop := ∀ (j lo hi : Nat), E[j]? = some (lo, hi) → lo ≤ bz (sg j) ∧ bz (sg j) ≤ hi
def iu (E : rE) (j : Nat) : Nat × Nat := E.getD j (0, 4294967295)
def iv (E : rE) (n : Nat) : Nat × Nat := bif Nat.ble n 4294967295 then (un n, un n) else iu E (Nat.sub n 4294967296)
theorem iu_ok {sg : Nat → Int32} {E : rE} (h : eOK sg E) (j : Nat) : (iu E j).1 ≤ bz (sg j) ∧ bz (sg j) ≤ (iu E j).2 := by
  unfold iu
  rw [List.getD_eq_getElem?_getD]
  cases hj : E[j]? with
  | none =>
    have := bz_top (sg j)
    exact ⟨Nat.zero_le _, by show _ ≤ 4294967295; omega⟩
  | some q => exact h j q.1 q.2 hj
theorem iv_ok {sg : Nat → Int32} {E : rE} (h : eOK sg E) (n : Nat) : (iv E n).1 ≤ bz (ri sg n) ∧ bz (ri sg n) ≤ (iv E n).2 := by
  unfold iv
  cases hb : Nat.ble n 4294967295 with
  | true =>
    have hn : n < 4294967296 := Nat.lt_succ_of_le (Nat.le_of_ble_eq_true hb)
    rw [ri_c hn, bz_nI hn, cond_true]
    generalize un n = z
    exact ⟨Nat.le_refl z, Nat.le_refl z⟩
  | false =>
    have hn : ¬ n < 4294967296 := fun q => by
      have := Nat.ble_eq_true_of_le (Nat.le_of_lt_succ q)
      rw [hb] at this
      cases this
    unfold ri
    rw [if_neg hn]
    exact iu_ok h _
/-- the value, where it is known -/
def nd (E : rE) (n : Nat) : Option Nat := bif Nat.ble n 4294967295 then some n else (bif Nat.beq (iu E (Nat.sub n 4294967296)).1 (iu E (Nat.sub n 4294967296)).2 then some (un (iu E (Nat.sub n 4294967296)).1) else none)
theorem nd_ok {sg : Nat → Int32} {E : rE} (h : eOK sg E) {n k : Nat} (hk : nd E n = some k) : k < 4294967296 ∧ ri sg n = nI k := by
  unfold nd at hk
  cases hb : Nat.ble n 4294967295 with
  | true =>
    rw [hb] at hk
    cases hk
    have hn : n < 4294967296 := Nat.lt_succ_of_le (Nat.le_of_ble_eq_true hb)
    exact ⟨hn, ri_c hn⟩
  | false =>
    rw [hb] at hk
    have hn : ¬ n < 4294967296 := fun q => by
      have := Nat.ble_eq_true_of_le (Nat.le_of_lt_succ q)
      rw [hb] at this
      cases this
    cases hq : Nat.beq (iu E (Nat.sub n 4294967296)).1 (iu E (Nat.sub n 4294967296)).2 with
    | false => rw [hq] at hk; cases hk
    | true =>
      rw [hq, cond_false, cond_true] at hk
      have hk := Option.some.inj hk
      subst hk
      have h1 := Nat.eq_of_beq_eq_true hq
      have h2 := iu_ok h (Nat.sub n 4294967296)
      have h3 : bz (sg (Nat.sub n 4294967296)) = (iu E (Nat.sub n 4294967296)).1 := by omega
      refine ⟨un_lt _, ?_⟩
      unfold ri
      rw [if_neg hn, ← h3, un_bz]
      rfl
/-! lists, read and written at a place, so that the kernel goes straight -/
noncomputable def rget {α : Type} (l : List α) : Nat → Option α := List.rec (motive := fun _ => Nat → Option α) (fun _ => none) (fun x _ ih n => Nat.rec (motive := fun _ => Option α) (some x) (fun m _ => ih m) n) l
theorem rget_eq {α : Type} (l : List α) : ∀ n, rget l n = l[n]? := by
  induction l with
  | nil => intro n; simp [rget]
  | cons x t ih =>
    intro n
    cases n with
    | zero => rfl
    | succ m => rw [List.getElem?_cons_succ, ← ih m]; rfl
noncomputable def rset {α β : Type} (v : α) (l : List α) : Nat → (List α → β) → β := List.rec (motive := fun _ => Nat → (List α → β) → β) (fun _ k => k []) (fun x t ih n k => Nat.rec (motive := fun _ => β) (k (v :: t)) (fun m _ => ih m (fun t' => k (x :: t'))) n) l
theorem rset_eq {α β : Type} (v : α) (l : List α) : ∀ (n : Nat) (k : List α → β), rset v l n k = k (l.set n v) := by
  induction l with
  | nil => intro n k; rfl
  | cons x t ih =>
    intro n k
    cases n with
    | zero => rfl
    | succ m =>
      show rset v t m (fun t' => k (x :: t')) = _
      rw [ih]
      rfl
noncomputable def fN {β : Type} (n : Nat) (k : Nat → β) : β := Nat.rec (motive := fun _ => β) (k 0) (fun m _ => k (Nat.succ m)) n
theorem fN_eq {β : Type} (n : Nat) (k : Nat → β) : fN n k = k n := by cases n <;> rfl
noncomputable def lget (lv : rK) (i : Nat) : Option rV := List.rec (motive := fun _ => Option rV) none (fun q _ ih => bif Nat.beq q.1 i then some q.2 else ih) lv
theorem lget_mem {lv : rK} {i : Nat} {v : rV} (h : lget lv i = some v) : (i, v) ∈ lv := by
  induction lv with
  | nil => cases h
  | cons q t ih =>
    have h' : (bif Nat.beq q.1 i then some q.2 else lget t i) = some v := h
    cases hb : Nat.beq q.1 i with
    | true =>
      rw [hb] at h'
      cases h'
      have := Nat.eq_of_beq_eq_true hb
      subst this
      exact List.mem_cons_self
    | false =>
      rw [hb] at h'
      exact List.mem_cons_of_mem _ (ih h')
def ct (v : rV) : Nat := match v with
  | .inr (.inl _) => 2
  | _ => 1
theorem ct_eq {sg : Nat → Int32} {b B : Nat} (v : rV) : (rv sg b B v).category = ct v := by
  match v with
  | .inl _ => rfl
  | .inr (.inl _) => rfl
  | .inr (.inr (some _)) => rfl
  | .inr (.inr none) => rfl
/-! the cells in rows of sixteen -/
noncomputable def rsnoc {α β : Type} (v : α) (l : List α) (k : List α → β) : β := List.rec (motive := fun _ => (List α → β) → β) (fun k => k [v]) (fun x _ ih k => ih (fun t => k (x :: t))) l k
theorem rsnoc_eq {α β : Type} (v : α) (l : List α) : ∀ (k : List α → β), rsnoc v l k = k (l ++ [v]) := by
  induction l with
  | nil => intro k; rfl
  | cons x t ih =>
    intro k
    show rsnoc v t (fun t => k (x :: t)) = _
    rw [ih]
    rfl
noncomputable def wget (D : rD) (k : Nat) : Option rC := match rget D.2 (Nat.div k 16) with
  | some ch => rget ch (Nat.mod k 16)
  | none => none
noncomputable def wset {β : Type} (v : rC) (D : rD) (k : Nat) (K : rD → β) : β := match rget D.2 (Nat.div k 16) with
  | some ch => rset v ch (Nat.mod k 16) (fun ch => rset ch D.2 (Nat.div k 16) (fun l => K (D.1, l)))
  | none => K D
noncomputable def wsnoc {β : Type} (v : rC) (D : rD) (K : rD → β) : β := fN D.1 (fun n => match rget D.2 (Nat.div n 16) with
  | some ch => rsnoc v ch (fun ch => rset ch D.2 (Nat.div n 16) (fun l => K (Nat.succ n, l)))
  | none => rsnoc [v] D.2 (fun l => K (Nat.succ n, l)))
/-- the rows hold the list -/
def rep (D : rD) (aw : List rC) : Prop := D.1 = aw.length ∧ ∀ k, wget D k = aw[k]?
theorem rep_set {β : Type} {D : rD} {aw : List rC} (h : rep D aw) {k : Nat} (hk : k < aw.length) (v : rC) : ∃ D' : rD, rep D' (aw.set k v) ∧ ∀ K : rD → β, wset v D k K = K D' := by
  have hg := h.2 k
  unfold wget at hg
  cases hc : rget D.2 (Nat.div k 16) with
  | none =>
    rw [hc] at hg
    rw [List.getElem?_eq_getElem hk] at hg
    cases hg
  | some ch =>
    rw [hc] at hg
    refine ⟨(D.1, D.2.set (Nat.div k 16) (ch.set (Nat.mod k 16) v)), ⟨by rw [List.length_set]; exact h.1, fun i => ?_⟩, fun K => ?_⟩
    · have hi := h.2 i
      unfold wget at hi ⊢
      rw [rget_eq] at hc hi ⊢
      have hl : Nat.div k 16 < D.2.length := (List.getElem?_eq_some_iff.mp hc).1
      have hl2 : Nat.mod k 16 < ch.length := by
        dsimp only at hg
        rw [rget_eq] at hg
        have hg : ch[Nat.mod k 16]? = some aw[k] := by
          have e : aw[k]? = some aw[k] := List.getElem?_eq_getElem hk
          rw [← e]; exact hg
        exact (List.getElem?_eq_some_iff.mp hg).1
      rw [List.getElem?_set, List.getElem?_set]
      by_cases e : k = i
      · subst e
        rw [if_pos rfl, if_pos hl, if_pos rfl, if_pos hk]
        dsimp only
        rw [rget_eq, List.getElem?_set, if_pos rfl, if_pos hl2]
      · rw [if_neg e, ← hi]
        by_cases e2 : Nat.div k 16 = Nat.div i 16
        · rw [if_pos e2, if_pos hl, ← e2, hc]
          dsimp only
          rw [rget_eq, rget_eq, List.getElem?_set, if_neg]
          intro e3
          have h1 : k / 16 = i / 16 := e2
          have h2 : k % 16 = i % 16 := e3
          omega
        · rw [if_neg e2]
    · unfold wset
      rw [hc]
      dsimp only
      rw [rset_eq, rset_eq]
theorem rep_snoc {β : Type} {D : rD} {aw : List rC} (h : rep D aw) (v : rC) : ∃ D' : rD, rep D' (aw ++ [v]) ∧ ∀ K : rD → β, wsnoc v D K = K D' := by
  have hlast := h.2 aw.length
  have hnone : aw[aw.length]? = none := List.getElem?_eq_none (Nat.le_refl _)
  rw [hnone] at hlast
  have hprev : ∀ i, i < aw.length → ∃ ch, D.2[i / 16]? = some ch ∧ i % 16 < ch.length := by
    intro i hi
    have h1 := h.2 i
    unfold wget at h1
    rw [rget_eq, List.getElem?_eq_getElem hi] at h1
    cases hc : D.2[Nat.div i 16]? with
    | none => rw [hc] at h1; cases h1
    | some ch =>
      rw [hc] at h1
      dsimp only at h1
      rw [rget_eq] at h1
      exact ⟨ch, by first | rfl | exact hc, (List.getElem?_eq_some_iff.mp h1).1⟩
  unfold wget at hlast
  rw [rget_eq] at hlast
  cases hc : D.2[Nat.div aw.length 16]? with
  | some ch =>
    rw [hc] at hlast
    dsimp only at hlast
    rw [rget_eq] at hlast
    have hlen : ch.length = aw.length % 16 := by
      have h1 : ch.length ≤ aw.length % 16 := by
        rcases Nat.lt_or_ge (aw.length % 16) ch.length with q | q
        · have : ch[Nat.mod aw.length 16]? = some _ := List.getElem?_eq_getElem q
          rw [this] at hlast
          cases hlast
        · exact q
      have h2 : aw.length % 16 ≤ ch.length := by
        by_cases e : aw.length % 16 = 0
        · omega
        · obtain ⟨ch', g1, g2⟩ := hprev (aw.length - 1) (by omega)
          have e2 : (aw.length - 1) / 16 = aw.length / 16 := by omega
          rw [e2] at g1
          have hc' : D.2[aw.length / 16]? = some ch := hc
          rw [hc'] at g1
          cases g1
          omega
      omega
    refine ⟨(aw.length + 1, D.2.set (aw.length / 16) (ch ++ [v])), ⟨by rw [List.length_append]; rfl, fun i => ?_⟩, fun K => ?_⟩
    · have hi := h.2 i
      unfold wget at hi ⊢
      rw [rget_eq] at hi ⊢
      have hl : aw.length / 16 < D.2.length := (List.getElem?_eq_some_iff.mp hc).1
      have hc' : D.2[aw.length / 16]? = some ch := hc
      show (match (D.2.set (aw.length / 16) (ch ++ [v]))[i / 16]? with | some ch => rget ch (i % 16) | none => none) = _
      have hi : (match D.2[i / 16]? with | some ch => rget ch (i % 16) | none => none) = aw[i]? := hi
      rw [List.getElem?_set]
      by_cases e2 : aw.length / 16 = i / 16
      · rw [if_pos e2, if_pos hl]
        dsimp only
        rw [← e2, hc'] at hi
        dsimp only at hi
        rw [rget_eq] at hi ⊢
        rcases Nat.lt_trichotomy i aw.length with q | q | q
        · rw [List.getElem?_append_left (by omega), List.getElem?_append_left q, hi]
        · subst q
          rw [List.getElem?_append_right (by omega), List.getElem?_append_right (Nat.le_refl _)]
          simp [hlen]
        · rw [List.getElem?_append_right (by omega), List.getElem?_append_right (by omega)]
          have h1 : i % 16 - ch.length ≠ 0 := by omega
          have h2 : i - aw.length ≠ 0 := by omega
          rw [List.getElem?_eq_none (by simp; omega), List.getElem?_eq_none (by simp; omega)]
      · rw [if_neg e2, hi]
        rcases Nat.lt_or_ge i aw.length with q | q
        · rw [List.getElem?_append_left q]
        · rw [List.getElem?_append_right q, List.getElem?_eq_none q, List.getElem?_eq_none (by simp; omega)]
    · unfold wsnoc
      rw [fN_eq, h.1, rget_eq, hc]
      dsimp only
      rw [rsnoc_eq, rset_eq]
      try rfl
  | none =>
    have hout : D.2.length = aw.length / 16 := by
      have h1 : D.2.length ≤ aw.length / 16 := List.getElem?_eq_none_iff.mp hc
      have h2 : aw.length / 16 ≤ D.2.length := by
        by_cases e : aw.length < 16
        · omega
        · obtain ⟨ch', g1, g2⟩ := hprev (aw.length / 16 * 16 - 1) (by omega)
          have := (List.getElem?_eq_some_iff.mp g1).1
          omega
      omega
    have hm : aw.length % 16 = 0 := by
      by_cases e : aw.length % 16 = 0
      · exact e
      · obtain ⟨ch', g1, g2⟩ := hprev (aw.length - 1) (by omega)
        have e2 : (aw.length - 1) / 16 = aw.length / 16 := by omega
        rw [e2] at g1
        have hc' : D.2[aw.length / 16]? = none := hc
        rw [hc'] at g1
        cases g1
    refine ⟨(aw.length + 1, D.2 ++ [[v]]), ⟨by rw [List.length_append]; rfl, fun i => ?_⟩, fun K => ?_⟩
    · have hi := h.2 i
      unfold wget at hi ⊢
      rw [rget_eq] at hi ⊢
      show (match (D.2 ++ [[v]])[i / 16]? with | some ch => rget ch (i % 16) | none => none) = _
      have hi : (match D.2[i / 16]? with | some ch => rget ch (i % 16) | none => none) = aw[i]? := hi
      rcases Nat.lt_trichotomy i aw.length with q | q | q
      · rw [List.getElem?_append_left (by omega), List.getElem?_append_left q, hi]
      · subst q
        rw [List.getElem?_append_right (by omega), List.getElem?_append_right (Nat.le_refl _), hout, Nat.sub_self, Nat.sub_self]
        dsimp only [List.getElem?_cons_zero]
        rw [rget_eq, hm]
        rfl
      · by_cases e2 : i / 16 = aw.length / 16
        · rw [List.getElem?_append_right (by omega), List.getElem?_append_right (by omega), hout, e2, Nat.sub_self]
          dsimp only [List.getElem?_cons_zero]
          rw [rget_eq, List.getElem?_eq_none (by simp; omega), List.getElem?_eq_none (by simp; omega)]
        · rw [List.getElem?_append_right (by omega), List.getElem?_append_right (by omega), List.getElem?_eq_none (by simp; omega), List.getElem?_eq_none (by simp; omega)]
    · unfold wsnoc
      rw [fN_eq, h.1, rget_eq, hc]
      dsimp only
      rw [rsnoc_eq]
      try rfl
theorem rep_get {D : rD} {aw : List rC} (h : rep D aw) {k : Nat} {q : rC} (hq : wget D k = some q) : aw[k]? = some q := by rw [← h.2 k]; exact hq
theorem rep_0 : rep (0, []) [] := ⟨rfl, fun k => by simp [wget, rget_eq]⟩
