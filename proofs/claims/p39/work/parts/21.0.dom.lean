/-! a checker of contracts over the plain machine: ints as integers, symbols with intervals -/
def inR (z : Int) : Prop := -2147483648 ≤ z ∧ z ≤ 2147483647
def eI (z : Int) : Nat := (z % 4294967296).toNat
abbrev qI : Type := Nat × Int
abbrev qV : Type := qI ⊕ (qI ⊕ Option Nat)
abbrev qR : Type := Int × Int
abbrev qE : Type := List qR × List (Nat × Nat × Int) × List ((qI × qI) × Nat)
abbrev qC : Type := List ((Nat × Nat) × qV)
abbrev qK : Type := List (Nat × qV)
abbrev qD : Type := qR ⊕ Option Nat
/-- a kind of cell: its tag, its length, its only cell if there is one alone, what lies in it -/
abbrev qKd : Type := Nat × Nat × Option Nat × List qD
abbrev qT : Type := List qKd × List Nat
abbrev qS : Type := qE × qC × Nat × qK × List qV
theorem eI_lt (z : Int) : eI z < 4294967296 := by unfold eI; omega
theorem eI_le (z : Int) : Nat.ble (eI z) 4294967295 = true := Nat.ble_eq_true_of_le (Nat.le_of_lt_succ (eI_lt z))
theorem eI_cast (z : Int) : (eI z : Int) = z % 4294967296 := by unfold eI; omega
theorem nI_eI (z : Int) : nI (eI z) = Int32.ofInt z := by
  apply Int32.toInt_inj.mp
  rw [nI_int, Int32.toInt_ofInt, eI_cast]
  show (z % 4294967296).bmod 4294967296 = z.bmod (2 ^ 32)
  exact Int.emod_bmod z 4294967296
theorem cN_eI (x : Int32) : cN x = eI x.toInt := by
  have h1 : nI (cN x) = nI (eI x.toInt) := by rw [nI_cN, nI_eI, Int32.ofInt_toInt]
  have h2 := congrArg Int32.toInt h1
  rw [nI_int, nI_int] at h2
  have h3 := cN_lt x
  have h4 := eI_lt x.toInt
  rw [Int.bmod_def, Int.bmod_def] at h2
  omega
theorem toInt_in (x : Int32) : inR x.toInt := by
  have h1 := x.minValue_le_toInt
  have h2 : Int32.minValue.toInt = -2147483648 := by decide
  have h3 := x.toInt_lt
  exact ⟨by omega, by omega⟩
theorem ofInt_in {z : Int} (h : inR z) : (Int32.ofInt z).toInt = z := by
  rw [Int32.toInt_ofInt]
  show z.bmod 4294967296 = z
  rw [Int.bmod_def]
  obtain ⟨h1, h2⟩ := h
  omega
theorem eI_inj {y z : Int} (hy : inR y) (hz : inR z) (h : eI y = eI z) : y = z := by
  have h1 := eI_cast y
  have h2 := eI_cast z
  rw [h] at h1
  obtain ⟨a1, a2⟩ := hy
  obtain ⟨b1, b2⟩ := hz
  omega
theorem nd_eI (z : Int) : nd [] (eI z) = some (eI z) := by
  unfold nd
  rw [eI_le, cond_true]
theorem un_eI {z : Int} (h : inR z) : (un (eI z) : Int) = z + 2147483648 := by
  have h1 := eI_cast z
  obtain ⟨a1, a2⟩ := h
  have h2 : un (eI z) = (eI z + 2147483648) % 4294967296 := rfl
  rw [h2]
  omega
/-! valuations -/
def xt (σ σ' : List Int) : Prop := ∀ (j : Nat) (z : Int), σ[j]? = some z → σ'[j]? = some z
theorem xt_refl (σ : List Int) : xt σ σ := fun _ _ h => h
theorem xt_trans {a b c : List Int} (h : xt a b) (g : xt b c) : xt a c := fun j z e => g j z (h j z e)
theorem xt_app (σ τ : List Int) : xt σ (σ ++ τ) := by
  intro j z h
  have hj := (List.getElem?_eq_some_iff.mp h).1
  rw [List.getElem?_append_left hj]
  exact h
def iOK (σ : List Int) (x : qI) (z : Int) : Prop := ∃ y, σ[x.1]? = some y ∧ z = y + x.2
theorem iOK_xt {σ σ' : List Int} (h : xt σ σ') {x : qI} {z : Int} (g : iOK σ x z) : iOK σ' x z := by
  obtain ⟨y, h1, h2⟩ := g
  exact ⟨y, h x.1 y h1, h2⟩
theorem iOK_fun {σ : List Int} {x : qI} {y z : Int} (g : iOK σ x y) (h : iOK σ x z) : y = z := by
  obtain ⟨a, h1, h2⟩ := g
  obtain ⟨b, g1, g2⟩ := h
  rw [h1] at g1
  cases g1
  omega
def vOK (H : qT) (σ : List Int) (a : qV) (v : rV) : Prop := match a with
  | .inl x => ∃ z, iOK σ x z ∧ inR z ∧ v = .inl (eI z)
  | .inr (.inl x) => ∃ z, iOK σ x z ∧ 0 ≤ z ∧ z < 18446744073709551616 ∧ v = .inr (.inl z.toNat)
  | .inr (.inr none) => v = .inr (.inr (some 0))
  | .inr (.inr (some κ)) => ∃ p, v = .inr (.inr (some (p + 1))) ∧ H.2[p]? = some κ
theorem vOK_xt {H : qT} {σ σ' : List Int} (h : xt σ σ') {a : qV} {v : rV} (g : vOK H σ a v) : vOK H σ' a v := by
  match a, g with
  | .inl x, ⟨z, h1, h2⟩ => exact ⟨z, iOK_xt h h1, h2⟩
  | .inr (.inl x), ⟨z, h1, h2⟩ => exact ⟨z, iOK_xt h h1, h2⟩
  | .inr (.inr none), g => exact g
  | .inr (.inr (some κ)), g => exact g
def eOK2 (σ : List Int) (E : qE) : Prop := E.1.length = σ.length ∧ σ[0]? = some 0 ∧ (∀ (j : Nat) (r : qR), E.1[j]? = some r → ∃ z, σ[j]? = some z ∧ r.1 ≤ z ∧ z ≤ r.2) ∧ (∀ f ∈ E.2.1, ∃ x y, σ[f.1]? = some x ∧ σ[f.2.1]? = some y ∧ x + f.2.2 ≤ y) ∧ (∀ f ∈ E.2.2, ∃ x y z, iOK σ f.1.1 x ∧ iOK σ f.1.2 y ∧ σ[f.2]? = some z ∧ z = x + y)
def stOK2 (H : qT) (σ : List Int) : List qV → List rV → Prop
  | [], [] => True
  | a :: s, v :: t => vOK H σ a v ∧ stOK2 H σ s t
  | _, _ => False
theorem stOK2_xt {H : qT} {σ σ' : List Int} (h : xt σ σ') : ∀ {s : List qV} {t : List rV}, stOK2 H σ s t → stOK2 H σ' s t
  | [], [], _ => trivial
  | _ :: _, _ :: _, g => ⟨vOK_xt h g.1, stOK2_xt h g.2⟩
  | [], _ :: _, g => g.elim
  | _ :: _, [], g => g.elim
theorem stOK2_cons {H : qT} {σ : List Int} {a : qV} {s : List qV} {t : List rV} (h : stOK2 H σ (a :: s) t) : ∃ v u, t = v :: u ∧ vOK H σ a v ∧ stOK2 H σ s u := by
  match t, h with
  | v :: u, h => exact ⟨v, u, rfl, h.1, h.2⟩
theorem stOK2_nil {H : qT} {σ : List Int} {t : List rV} (h : stOK2 H σ [] t) : t = [] := by
  match t, h with
  | [], _ => rfl
noncomputable def kget (lv : qK) (i : Nat) : Option qV := List.rec (motive := fun _ => Option qV) none (fun q _ ih => bif Nat.beq q.1 i then some q.2 else ih) lv
theorem kget_cons (q : Nat × qV) (t : qK) (i : Nat) : kget (q :: t) i = bif Nat.beq q.1 i then some q.2 else kget t i := rfl
theorem lget_cons (q : Nat × rV) (t : rK) (i : Nat) : lget (q :: t) i = bif Nat.beq q.1 i then some q.2 else lget t i := rfl
def lvOK (H : qT) (σ : List Int) (lv : qK) (lw : rK) : Prop := ∀ (i : Nat) (a : qV), kget lv i = some a → ∃ v, lget lw i = some v ∧ vOK H σ a v
theorem lvOK_xt {H : qT} {σ σ' : List Int} (h : xt σ σ') {lv : qK} {lw : rK} (g : lvOK H σ lv lw) : lvOK H σ' lv lw := fun i a e => by
  obtain ⟨v, h1, h2⟩ := g i a e
  exact ⟨v, h1, vOK_xt h h2⟩
/-! the kernel's own order of integers, and forcing -/
def zle (a b : Int) : Bool := match Int.sub b a with
  | .ofNat _ => true
  | .negSucc _ => false
theorem zle_iff {a b : Int} : zle a b = true ↔ a ≤ b := by
  unfold zle
  have h : Int.sub b a = b - a := rfl
  constructor
  · intro g
    split at g
    · next n hn => rw [h] at hn; have := Int.natCast_nonneg n; have e : (Int.ofNat n : Int) = (n : Int) := rfl; omega
    · cases g
  · intro g
    split
    · rfl
    · next n hn => rw [h] at hn; have := Int.negSucc_lt_zero n; omega
theorem zle_not {a b : Int} (h : zle a b = false) : b < a := by
  rcases Int.lt_or_le b a with g | g
  · exact g
  · rw [zle_iff.mpr g] at h; cases h
noncomputable def fZ {β : Type} (z : Int) (k : Int → β) : β := match z with
  | .ofNat n => fN n (fun n => k (.ofNat n))
  | .negSucc n => fN n (fun n => k (.negSucc n))
theorem fZ_eq {β : Type} (z : Int) (k : Int → β) : fZ z k = k z := by
  unfold fZ
  split
  · rw [fN_eq]
  · rw [fN_eq]
def zmin (a b : Int) : Int := bif zle a b then a else b
def zmax (a b : Int) : Int := bif zle a b then b else a
theorem zmin_le {a b c : Int} (h : c ≤ a) (g : c ≤ b) : c ≤ zmin a b := by
  unfold zmin
  cases zle a b with
  | true => exact h
  | false => exact g
theorem zmax_le {a b c : Int} (h : a ≤ c) (g : b ≤ c) : zmax a b ≤ c := by
  unfold zmax
  cases zle a b with
  | true => exact g
  | false => exact h
def zeq (a b : Int) : Bool := zle a b && zle b a
theorem zeq_iff {a b : Int} : zeq a b = true ↔ a = b := by
  unfold zeq
  rw [Bool.and_eq_true, zle_iff, zle_iff]
  constructor
  · intro h; omega
  · intro h; omega
/-! intervals of terms -/
noncomputable def civ {β : Type} (E : qE) (x : qI) (d : β) (k : Int → Int → β) : β := match rget E.1 x.1 with
  | some r => fZ (r.1 + x.2) (fun lo => fZ (r.2 + x.2) (fun hi => k lo hi))
  | none => d
theorem civ_ok {β : Type} {σ : List Int} {E : qE} (h : eOK2 σ E) {x : qI} {z : Int} (hx : iOK σ x z) (d : β) : ∃ lo hi : Int, lo ≤ z ∧ z ≤ hi ∧ ∀ k : Int → Int → β, civ E x d k = k lo hi := by
  obtain ⟨y, h1, h2⟩ := hx
  have hj : x.1 < E.1.length := by rw [h.1]; exact (List.getElem?_eq_some_iff.mp h1).1
  obtain ⟨w, g1, g2, g3⟩ := h.2.2.1 x.1 _ (List.getElem?_eq_getElem hj)
  rw [h1] at g1
  cases g1
  refine ⟨(E.1[x.1]).1 + x.2, (E.1[x.1]).2 + x.2, by omega, by omega, fun k => ?_⟩
  unfold civ
  rw [rget_eq, List.getElem?_eq_getElem hj]
  dsimp only
  rw [fZ_eq, fZ_eq]
/-- a new symbol within bounds -/
noncomputable def qsym {β : Type} (E : qE) (lo hi : Int) (k : qE → Nat → β) : β := fN E.1.length (fun n => rsnoc (lo, hi) E.1 (fun l => k (l, E.2) n))
theorem qsym_eq {β : Type} (E : qE) (lo hi : Int) (k : qE → Nat → β) : qsym E lo hi k = k (E.1 ++ [(lo, hi)], E.2) E.1.length := by
  unfold qsym
  rw [fN_eq, rsnoc_eq]
theorem eOK2_new {σ : List Int} {E : qE} (h : eOK2 σ E) {lo hi z : Int} (h1 : lo ≤ z) (h2 : z ≤ hi) : eOK2 (σ ++ [z]) (E.1 ++ [(lo, hi)], E.2) ∧ xt σ (σ ++ [z]) ∧ (σ ++ [z])[E.1.length]? = some z := by
  have hx := xt_app σ [z]
  obtain ⟨e1, e2, e3, e4, e5⟩ := h
  refine ⟨⟨by simp [e1], hx 0 0 e2, fun j r hr => ?_, fun f hf => ?_, fun f hf => ?_⟩, hx, by rw [e1]; simp⟩
  · by_cases hj : j < E.1.length
    · have hr : (E.1 ++ [(lo, hi)])[j]? = some r := hr
      rw [List.getElem?_append_left hj] at hr
      obtain ⟨w, g1, g2, g3⟩ := e3 j r hr
      exact ⟨w, hx j w g1, g2, g3⟩
    · have hr : (E.1 ++ [(lo, hi)])[j]? = some r := hr
      rw [List.getElem?_append_right (by omega)] at hr
      have hjl : j = E.1.length := by
        have := (List.getElem?_eq_some_iff.mp hr).1
        simp at this
        omega
      subst hjl
      simp at hr
      subst hr
      exact ⟨z, by rw [e1]; simp, h1, h2⟩
  · obtain ⟨x, y, g1, g2, g3⟩ := e4 f hf
    exact ⟨x, y, hx _ _ g1, hx _ _ g2, g3⟩
  · obtain ⟨x, y, w, g1, g2, g3, g4⟩ := e5 f hf
    exact ⟨x, y, w, iOK_xt hx g1, iOK_xt hx g2, hx _ _ g3, g4⟩
/-- a value within bounds: a number, or a new symbol -/
noncomputable def qval {β : Type} (E : qE) (lo hi : Int) (k : qE → qI → β) : β := bif zeq lo hi then k E (0, lo) else qsym E lo hi (fun E n => k E (n, 0))
theorem qval_ok {β : Type} {σ : List Int} {E : qE} (h : eOK2 σ E) {lo hi z : Int} (h1 : lo ≤ z) (h2 : z ≤ hi) : ∃ (E' : qE) (x : qI) (σ' : List Int), xt σ σ' ∧ eOK2 σ' E' ∧ iOK σ' x z ∧ ∀ k : qE → qI → β, qval E lo hi k = k E' x := by
  cases hb : zeq lo hi with
  | true =>
    have := zeq_iff.mp hb
    exact ⟨E, (0, lo), σ, xt_refl σ, h, ⟨0, h.2.1, by show z = 0 + lo; omega⟩, fun k => by unfold qval; rw [hb, cond_true]⟩
  | false =>
    obtain ⟨g1, g2, g3⟩ := eOK2_new h h1 h2
    exact ⟨_, (E.1.length, 0), _, g2, g1, ⟨z, g3, by show z = z + 0; omega⟩, fun k => by unfold qval; rw [hb, cond_false, qsym_eq]⟩
/-! what a comparison tells -/
noncomputable def qset {β : Type} (E : List qR) (j : Nat) (r : qR) (k : List qR → β) : β := bif Nat.beq j 0 then k E else rset r E j k
theorem eOK2_set {σ : List Int} {E : qE} (h : eOK2 σ E) {j : Nat} {r : qR} {z : Int} (hz : σ[j]? = some z) (h1 : r.1 ≤ z) (h2 : z ≤ r.2) : eOK2 σ (E.1.set j r, E.2) := by
  obtain ⟨e1, e2, e3, e4, e5⟩ := h
  refine ⟨by simp [e1], e2, fun i q hq => ?_, e4, e5⟩
  have hq : (E.1.set j r)[i]? = some q := hq
  rw [List.getElem?_set] at hq
  by_cases e : j = i
  · subst e
    rw [if_pos rfl] at hq
    split at hq
    · cases hq
      exact ⟨z, hz, h1, h2⟩
    · cases hq
  · rw [if_neg e] at hq
    exact e3 i q hq
theorem qset_ok {β : Type} {σ : List Int} {E : qE} (h : eOK2 σ E) {j : Nat} {r : qR} {z : Int} (hz : σ[j]? = some z) (h1 : r.1 ≤ z) (h2 : z ≤ r.2) : ∃ l, eOK2 σ (l, E.2) ∧ ∀ k : List qR → β, qset E.1 j r k = k l := by
  cases hb : Nat.beq j 0 with
  | true => exact ⟨E.1, h, fun k => by unfold qset; rw [hb, cond_true]⟩
  | false => exact ⟨_, eOK2_set h hz h1 h2, fun k => by unfold qset; rw [hb, cond_false, rset_eq]⟩
/-- x + d ≤ y -/
noncomputable def refLe (E : qE) (x y : qI) (d : Int) : Option qE := match rget E.1 x.1 with
  | some rx => (match rget E.1 y.1 with
    | some ry => fZ (zmin rx.2 (ry.2 + y.2 - d - x.2)) (fun nx => fZ (zmax ry.1 (rx.1 + x.2 + d - y.2)) (fun ny => bif (zle rx.1 nx && zle ny ry.2) then qset E.1 x.1 (rx.1, nx) (fun l => qset l y.1 (ny, bif Nat.beq x.1 y.1 then zmin ry.2 nx else ry.2) (fun l => some (l, (bif (Nat.beq x.1 0 || Nat.beq y.1 0) then E.2.1 else fZ (x.2 + d - y.2) (fun e => (x.1, y.1, e) :: E.2.1)), E.2.2))) else none))
    | none => none)
  | none => none
theorem refLe_ok {σ : List Int} {E : qE} (h : eOK2 σ E) {x y : qI} {d u v : Int} (hx : iOK σ x u) (hy : iOK σ y v) (hd : u + d ≤ v) : ∃ E', refLe E x y d = some E' ∧ eOK2 σ E' := by
  obtain ⟨a, a1, a2⟩ := hx
  obtain ⟨b, b1, b2⟩ := hy
  have hjx : x.1 < E.1.length := by rw [h.1]; exact (List.getElem?_eq_some_iff.mp a1).1
  have hjy : y.1 < E.1.length := by rw [h.1]; exact (List.getElem?_eq_some_iff.mp b1).1
  obtain ⟨w, g1, g2, g3⟩ := h.2.2.1 x.1 _ (List.getElem?_eq_getElem hjx)
  rw [a1] at g1
  cases g1
  obtain ⟨w, k1, k2, k3⟩ := h.2.2.1 y.1 _ (List.getElem?_eq_getElem hjy)
  rw [b1] at k1
  cases k1
  unfold refLe
  rw [rget_eq, List.getElem?_eq_getElem hjx]
  dsimp only
  rw [rget_eq, List.getElem?_eq_getElem hjy]
  dsimp only
  rw [fZ_eq, fZ_eq]
  generalize hrx : E.1[x.1] = rx at *
  generalize hry : E.1[y.1] = ry at *
  have n1 : a ≤ zmin rx.2 (ry.2 + y.2 - d - x.2) := zmin_le g3 (by omega)
  have n2 : zmax ry.1 (rx.1 + x.2 + d - y.2) ≤ b := zmax_le k2 (by omega)
  generalize zmin rx.2 (ry.2 + y.2 - d - x.2) = nx at *
  generalize zmax ry.1 (rx.1 + x.2 + d - y.2) = ny at *
  rw [zle_iff.mpr (show rx.1 ≤ nx by omega), zle_iff.mpr (show ny ≤ ry.2 by omega)]
  rw [Bool.and_self, cond_true]
  obtain ⟨l, e1, e2⟩ := qset_ok (β := Option qE) h a1 (r := (rx.1, nx)) g2 n1
  rw [e2]
  have hup : b ≤ (bif Nat.beq x.1 y.1 then zmin ry.2 nx else ry.2) := by
    cases hb : Nat.beq x.1 y.1 with
    | true =>
      have he := Nat.eq_of_beq_eq_true hb
      rw [he, b1] at a1
      cases a1
      exact zmin_le k3 n1
    | false => exact k3
  obtain ⟨l', e3, e4⟩ := qset_ok (β := Option qE) e1 b1 (r := (ny, bif Nat.beq x.1 y.1 then zmin ry.2 nx else ry.2)) n2 hup
  have e4' := e4 (fun l => some (l, (bif (Nat.beq x.1 0 || Nat.beq y.1 0) then E.2.1 else fZ (x.2 + d - y.2) (fun e => (x.1, y.1, e) :: E.2.1)), E.2.2))
  refine ⟨_, e4', ?_⟩
  obtain ⟨f1, f2, f3, f4, f5⟩ := e3
  refine ⟨f1, f2, f3, ?_, f5⟩
  intro f hf
  dsimp only at hf
  cases hb : (Nat.beq x.1 0 || Nat.beq y.1 0) with
  | true => rw [hb, cond_true] at hf; exact f4 f hf
  | false =>
    rw [hb, cond_false, fZ_eq] at hf
    rcases List.mem_cons.mp hf with e | e
    · subst e
      exact ⟨a, b, a1, b1, by dsimp only; omega⟩
    · exact f4 f e
noncomputable def refEq (E : qE) (x y : qI) : Option qE := match refLe E x y 0 with
  | some E => refLe E y x 0
  | none => none
theorem refEq_ok {σ : List Int} {E : qE} (h : eOK2 σ E) {x y : qI} {u : Int} (hx : iOK σ x u) (hy : iOK σ y u) : ∃ E', refEq E x y = some E' ∧ eOK2 σ E' := by
  obtain ⟨E1, h1, h2⟩ := refLe_ok h hx hy (d := 0) (by omega)
  obtain ⟨E2, h3, h4⟩ := refLe_ok h2 hy hx (d := 0) (by omega)
  exact ⟨E2, by unfold refEq; rw [h1]; exact h3, h4⟩
/-- x is not c -/
noncomputable def refNc (E : qE) (x : qI) (c : Int) : Option qE := match rget E.1 x.1 with
  | some r => fZ (c - x.2) (fun t => bif zeq t r.1 then (bif zle r.2 t then none else qset E.1 x.1 (t + 1, r.2) (fun l => some (l, E.2))) else bif zeq t r.2 then qset E.1 x.1 (r.1, t - 1) (fun l => some (l, E.2)) else some E)
  | none => none
theorem refNc_ok {σ : List Int} {E : qE} (h : eOK2 σ E) {x : qI} {u c : Int} (hx : iOK σ x u) (hd : u ≠ c) : ∃ E', refNc E x c = some E' ∧ eOK2 σ E' := by
  obtain ⟨a, a1, a2⟩ := hx
  have hjx : x.1 < E.1.length := by rw [h.1]; exact (List.getElem?_eq_some_iff.mp a1).1
  obtain ⟨w, g1, g2, g3⟩ := h.2.2.1 x.1 _ (List.getElem?_eq_getElem hjx)
  rw [a1] at g1
  cases g1
  unfold refNc
  rw [rget_eq, List.getElem?_eq_getElem hjx]
  dsimp only
  rw [fZ_eq]
  generalize hrx : E.1[x.1] = rx at *
  cases h1 : zeq (c - x.2) rx.1 with
  | true =>
    have e1 := zeq_iff.mp h1
    rw [cond_true]
    cases h2 : zle rx.2 (c - x.2) with
    | true => have := zle_iff.mp h2; omega
    | false =>
      rw [cond_false]
      obtain ⟨l, e2, e3⟩ := qset_ok (β := Option qE) h a1 (r := (c - x.2 + 1, rx.2)) (by dsimp only; omega) g3
      exact ⟨_, e3 _, e2⟩
  | false =>
    rw [cond_false]
    cases h2 : zeq (c - x.2) rx.2 with
    | true =>
      have e1 := zeq_iff.mp h2
      rw [cond_true]
      obtain ⟨l, e2, e3⟩ := qset_ok (β := Option qE) h a1 (r := (rx.1, c - x.2 - 1)) g2 (by dsimp only; omega)
      exact ⟨_, e3 _, e2⟩
    | false => exact ⟨E, rfl, h⟩
