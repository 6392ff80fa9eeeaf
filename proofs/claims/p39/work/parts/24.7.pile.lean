/-! by hand: the reader's pile and the code that it leaves -/
def PL (aw : List rC) (pile : List (Nat × Nat)) : Prop := ∀ (i : Nat) (e : Nat × Nat), pile[i]? = some e → sl aw 233 i = some (.inl e.1) ∧ sl aw 234 i = some (.inl e.2)
def peOK (e : Nat × Nat) : Prop := (e.1 = 3 ∧ e.2 = 126) ∨ e.1 = 7 ∨ ((e.1 = 1 ∨ e.1 = 2 ∨ e.1 = 4 ∨ e.1 = 5 ∨ e.1 = 6) ∧ opc e.2 ∧ e.2 ≤ 255)
def isB (e : Nat × Nat) : Bool := decide (e.1 = 1 ∨ e.1 = 2 ∨ e.1 = 4 ∨ e.1 = 5 ∨ e.1 = 6)
def isW (e : Nat × Nat) : Bool := decide (e.1 = 3 ∨ e.1 = 7)
def isE (e : Nat × Nat) : Bool := decide (e.1 ≤ 6)
def botOK (pile : List (Nat × Nat)) : Prop := ∃ s0 rest, pile = (8, s0) :: rest ∧ ∀ e ∈ rest, peOK e
def JJ (r : Nat) (w : Bool) (aw : List rC) (c u wn : Nat) (pile : List (Nat × Nat)) : Prop :=
  PL aw pile ∧ botOK pile ∧ wn = pile.countP isW ∧ 560 * r ≤ c ∧ ∃ dp, drun (cd aw) (560 * r) (c - 560 * r) 0 = some dp ∧ dp ≤ u ∧ u ≤ 30 ∧ (w = true → dp = pile.countP isB ∧ (c - 560 * r) + pile.countP isE ≤ 9 * u + wn) ∧ (w = false → dp = 1 + pile.countP isB ∧ (c - 560 * r) + pile.countP isE + 1 ≤ 9 * u)
theorem drun_snoc {f : Nat → Int} : ∀ {n a d d' d'' : Nat}, drun f a n d = some d' → dstep (f (a + n)) d' = some d'' → drun f a (n + 1) d = some d'' := by
  intro n
  induction n with
  | zero =>
    intro a d d' d'' h1 h2
    cases h1
    show (match dstep (f a) d with | some d => drun f (a + 1) 0 d | none => none) = some d''
    rw [Nat.add_zero] at h2
    rw [h2]
    rfl
  | succ n ih =>
    intro a d d' d'' h1 h2
    have h1 : (match dstep (f a) d with | some d => drun f (a + 1) n d | none => none) = some d' := h1
    show (match dstep (f a) d with | some d => drun f (a + 1) (n + 1) d | none => none) = some d''
    cases hs : dstep (f a) d with
    | none => rw [hs] at h1; cases h1
    | some x =>
      rw [hs] at h1
      exact ih h1 (by rw [show a + 1 + n = a + (n + 1) by omega]; exact h2)
theorem drun_congr {f g : Nat → Int} : ∀ {n a d : Nat}, (∀ j, a ≤ j → j < a + n → f j = g j) → drun f a n d = drun g a n d := by
  intro n
  induction n with
  | zero => intro a d _; rfl
  | succ n ih =>
    intro a d h
    show (match dstep (f a) d with | some d => drun f (a + 1) n d | none => none) = (match dstep (g a) d with | some d => drun g (a + 1) n d | none => none)
    rw [h a (Nat.le_refl a) (by omega)]
    cases dstep (g a) d with
    | none => rfl
    | some x => exact ih (fun j h1 h2 => h j (by omega) (by omega))
theorem PL_eq {aw aw' : List rC} {pile : List (Nat × Nat)} (h : PL aw pile) (h1 : ∀ j, sl aw' 233 j = sl aw 233 j) (h2 : ∀ j, sl aw' 234 j = sl aw 234 j) : PL aw' pile := fun i e he => by
  rw [h1, h2]
  exact h i e he
theorem PL_push {aw aw' : List rC} {pile : List (Nat × Nat)} {e : Nat × Nat} (h : PL aw pile) (h1 : ∀ j, sl aw' 233 j = if j = pile.length then some (.inl e.1) else sl aw 233 j) (h2 : ∀ j, sl aw' 234 j = if j = pile.length then some (.inl e.2) else sl aw 234 j) : PL aw' (pile ++ [e]) := by
  intro i x hx
  rw [h1, h2]
  by_cases hi : i < pile.length
  · rw [List.getElem?_append_left hi] at hx
    rw [if_neg (by omega), if_neg (by omega)]
    exact h i x hx
  · rw [List.getElem?_append_right (by omega)] at hx
    have hl := (List.getElem?_eq_some_iff.mp hx).1
    simp at hl
    have e1 : i = pile.length := by omega
    subst e1
    simp at hx
    subst hx
    rw [if_pos rfl, if_pos rfl]
    exact ⟨rfl, rfl⟩
theorem PL_pop {aw : List rC} {pile : List (Nat × Nat)} {e : Nat × Nat} (h : PL aw (pile ++ [e])) : PL aw pile := fun i x hx => h i x (by rw [List.getElem?_append_left (List.getElem?_eq_some_iff.mp hx).1]; exact hx)
theorem PL_top {aw : List rC} {pile : List (Nat × Nat)} {e : Nat × Nat} (h : PL aw (pile ++ [e])) : sl aw 233 pile.length = some (.inl e.1) ∧ sl aw 234 pile.length = some (.inl e.2) := h pile.length e (by simp)
theorem bot_push {pile : List (Nat × Nat)} {e : Nat × Nat} (h : botOK pile) (he : peOK e) : botOK (pile ++ [e]) := by
  obtain ⟨s0, rest, h1, h2⟩ := h
  subst h1
  refine ⟨s0, rest ++ [e], rfl, fun x hx => ?_⟩
  rcases List.mem_append.mp hx with g | g
  · exact h2 x g
  · rw [List.mem_singleton.mp g]; exact he
theorem bot_pop {pile : List (Nat × Nat)} {e : Nat × Nat} (h : botOK (pile ++ [e])) (hne : e.1 ≠ 8) : botOK pile ∧ peOK e := by
  obtain ⟨s0, rest, h1, h2⟩ := h
  cases pile with
  | nil =>
    simp at h1
    exact absurd (by rw [h1.1]) hne
  | cons x t =>
    have h1 : x :: (t ++ [e]) = (8, s0) :: rest := h1
    injection h1 with e1 e2
    subst e1
    subst e2
    exact ⟨⟨s0, t, rfl, fun y hy => h2 y (List.mem_append_left _ hy)⟩, h2 e (List.mem_append_right _ List.mem_cons_self)⟩
theorem pe_pos {e : Nat × Nat} (h : peOK e) : e.1 ≤ 7 ∧ 1 ≤ e.1 ∧ ((isB e = true ∧ isW e = false) ∨ (isB e = false ∧ isW e = true)) := by
  rcases h with ⟨h, -⟩ | h | ⟨h, -⟩
  · refine ⟨by omega, by omega, Or.inr ⟨?_, ?_⟩⟩
    · unfold isB; rw [decide_eq_false]; omega
    · unfold isW; rw [decide_eq_true]; omega
  · refine ⟨by omega, by omega, Or.inr ⟨?_, ?_⟩⟩
    · unfold isB; rw [decide_eq_false]; omega
    · unfold isW; rw [decide_eq_true]; omega
  · refine ⟨by omega, by omega, Or.inl ⟨?_, ?_⟩⟩
    · unfold isB; rw [decide_eq_true]; exact h
    · unfold isW; rw [decide_eq_false]; omega
theorem bot_len {pile : List (Nat × Nat)} (h : botOK pile) : pile.length = 1 + pile.countP isB + pile.countP isW := by
  obtain ⟨s0, rest, h1, h2⟩ := h
  subst h1
  have key : ∀ l : List (Nat × Nat), (∀ e ∈ l, peOK e) → l.length = l.countP isB + l.countP isW := by
    intro l
    induction l with
    | nil => intro _; rfl
    | cons x t ih =>
      intro hx
      have := ih (fun e he => hx e (List.mem_cons_of_mem _ he))
      obtain ⟨-, -, h3⟩ := pe_pos (hx x List.mem_cons_self)
      rw [List.countP_cons, List.countP_cons, List.length_cons]
      rcases h3 with ⟨a, b⟩ | ⟨a, b⟩
      · rw [if_pos a, if_neg (by rw [b]; decide)]; omega
      · rw [if_neg (by rw [a]; decide), if_pos b]; omega
  have := key rest h2
  rw [List.countP_cons, List.countP_cons, List.length_cons, if_neg (by simp [isB]), if_neg (by simp [isW])]
  omega
theorem cd_em {aw aw' : List rC} {c x : Nat} (h : ∀ j, sl aw' pCode j = if j = c then some (.inl x) else sl aw pCode j) (j : Nat) : cd aw' j = if j = c then sgn x else cd aw j := by
  unfold cd
  rw [h]
  by_cases e : j = c
  · rw [if_pos e, if_pos e]
  · rw [if_neg e, if_neg e]
theorem sgn_small {x : Nat} (h : x ≤ 255) : sgn x = (x : Int) := by
  unfold sgn
  rw [blt_of (show x < 2147483648 by omega), cond_true]
  rfl
/-- the code is run on by one sign -/
theorem dr_em {aw aw' : List rC} {r c x dp dp' : Nat} (hc : 560 * r ≤ c) (hd : drun (cd aw) (560 * r) (c - 560 * r) 0 = some dp) (h : ∀ j, sl aw' pCode j = if j = c then some (.inl x) else sl aw pCode j) (hx : x ≤ 255) (hs : dstep (x : Int) dp = some dp') : drun (cd aw') (560 * r) (c + 1 - 560 * r) 0 = some dp' := by
  rw [show c + 1 - 560 * r = (c - 560 * r) + 1 by omega]
  refine drun_snoc (d' := dp) ?_ ?_
  · rw [drun_congr (g := cd aw) (fun j h1 h2 => ?_)]
    · exact hd
    · rw [cd_em h, if_neg (by omega)]
  · rw [cd_em h, if_pos (by omega), sgn_small hx]
    exact hs
theorem JJ_ag {r : Nat} {w : Bool} {aw aw' : List rC} {c u wn : Nat} {pile : List (Nat × Nat)} (h : JJ r w aw c u wn pile) (h1 : ∀ j, sl aw' 233 j = sl aw 233 j) (h2 : ∀ j, sl aw' 234 j = sl aw 234 j) (h3 : ∀ j, sl aw' pCode j = sl aw pCode j) : JJ r w aw' c u wn pile := by
  obtain ⟨a, b, b2, b3, dp, b4⟩ := h
  have e : cd aw' = cd aw := by
    funext j
    unfold cd
    rw [h3]
  exact ⟨PL_eq a h1 h2, b, b2, b3, dp, by rw [e]; exact b4⟩
theorem JJ_leaf {r : Nat} {aw aw' : List rC} {c u wn x : Nat} {pile : List (Nat × Nat)} (h : JJ r true aw c u wn pile) (hw : wn ≤ 7) (hu : u + 1 ≤ 30) (hx : 97 ≤ x ∧ x ≤ 122) (h1 : ∀ j, sl aw' 233 j = sl aw 233 j) (h2 : ∀ j, sl aw' 234 j = sl aw 234 j) (h3 : ∀ j, sl aw' pCode j = if j = c then some (.inl x) else sl aw pCode j) : JJ r false aw' (c + 1) (u + 1) wn pile := by
  obtain ⟨a, b, b2, b3, dp, b4, b5, b6, b7, -⟩ := h
  obtain ⟨b7, b8⟩ := b7 rfl
  refine ⟨PL_eq a h1 h2, b, b2, by omega, dp + 1, dr_em b3 b4 h3 (by omega) ?_, by omega, hu, (fun g => by cases g), fun _ => ⟨by omega, by omega⟩⟩
  unfold dstep
  rw [if_neg (by omega), if_pos (by omega), if_pos (by omega)]
theorem JJ_not {r : Nat} {aw aw' : List rC} {c u wn : Nat} {pile : List (Nat × Nat)} (h : JJ r true aw c u wn pile) (h1 : ∀ j, sl aw' 233 j = if j = pile.length then some (.inl 3) else sl aw 233 j) (h2 : ∀ j, sl aw' 234 j = if j = pile.length then some (.inl 126) else sl aw 234 j) (h3 : ∀ j, sl aw' pCode j = sl aw pCode j) : JJ r true aw' c u (wn + 1) (pile ++ [(3, 126)]) := by
  obtain ⟨a, b, b2, b3, dp, b4, b5, b6, b7, -⟩ := h
  obtain ⟨b7, b8⟩ := b7 rfl
  have e : cd aw' = cd aw := by
    funext j
    unfold cd
    rw [h3]
  have k1 : (pile ++ [(3, 126)]).countP isW = pile.countP isW + 1 := by rw [List.countP_append]; rfl
  have k2 : (pile ++ [(3, 126)]).countP isB = pile.countP isB := by rw [List.countP_append]; rfl
  have k3 : (pile ++ [(3, 126)]).countP isE = pile.countP isE + 1 := by rw [List.countP_append]; rfl
  exact ⟨PL_push a h1 h2, bot_push b (Or.inl ⟨rfl, rfl⟩), by rw [k1]; omega, b3, dp, by rw [e]; exact b4, b5, b6, fun _ => ⟨by rw [k2]; exact b7, by rw [k3]; omega⟩, fun g => by cases g⟩
theorem JJ_bracket {r : Nat} {aw aw' : List rC} {c u wn : Nat} {pile : List (Nat × Nat)} (h : JJ r true aw c u wn pile) (hu : u + 1 ≤ 30) (h1 : ∀ j, sl aw' 233 j = if j = pile.length then some (.inl 7) else sl aw 233 j) (h2 : ∀ j, sl aw' 234 j = if j = pile.length then some (.inl 126) else sl aw 234 j) (h3 : ∀ j, sl aw' pCode j = sl aw pCode j) : JJ r true aw' c (u + 1) (wn + 1) (pile ++ [(7, 126)]) := by
  obtain ⟨a, b, b2, b3, dp, b4, b5, b6, b7, -⟩ := h
  obtain ⟨b7, b8⟩ := b7 rfl
  have e : cd aw' = cd aw := by
    funext j
    unfold cd
    rw [h3]
  have k1 : (pile ++ [(7, 126)]).countP isW = pile.countP isW + 1 := by rw [List.countP_append]; rfl
  have k2 : (pile ++ [(7, 126)]).countP isB = pile.countP isB := by rw [List.countP_append]; rfl
  have k3 : (pile ++ [(7, 126)]).countP isE = pile.countP isE := by rw [List.countP_append]; rfl
  exact ⟨PL_push a h1 h2, bot_push b (Or.inr (Or.inl rfl)), by rw [k1]; omega, b3, dp, by rw [e]; exact b4, by omega, hu, fun _ => ⟨by rw [k2]; exact b7, by rw [k3]; omega⟩, fun g => by cases g⟩
theorem JJ_op {r : Nat} {aw aw' : List rC} {c u wn k g : Nat} {pile : List (Nat × Nat)} (h : JJ r false aw c u wn pile) (hk : k = 1 ∨ k = 2 ∨ k = 4 ∨ k = 5 ∨ k = 6) (hg : opc g) (hg2 : g ≤ 255) (h1 : ∀ j, sl aw' 233 j = if j = pile.length then some (.inl k) else sl aw 233 j) (h2 : ∀ j, sl aw' 234 j = if j = pile.length then some (.inl g) else sl aw 234 j) (h3 : ∀ j, sl aw' pCode j = sl aw pCode j) : JJ r true aw' c u wn (pile ++ [(k, g)]) := by
  obtain ⟨a, b, b2, b3, dp, b4, b5, b6, -, b7⟩ := h
  obtain ⟨b7, b8⟩ := b7 rfl
  have e : cd aw' = cd aw := by
    funext j
    unfold cd
    rw [h3]
  have k1 : (pile ++ [(k, g)]).countP isW = pile.countP isW := by
    rw [List.countP_append, List.countP_cons, if_neg (by unfold isW; rw [decide_eq_false (by dsimp only; omega)]; decide)]
    rfl
  have k2 : (pile ++ [(k, g)]).countP isB = pile.countP isB + 1 := by
    rw [List.countP_append, List.countP_cons, if_pos (by unfold isB; rw [decide_eq_true]; exact hk)]
    rfl
  have k3 : (pile ++ [(k, g)]).countP isE = pile.countP isE + 1 := by
    rw [List.countP_append, List.countP_cons, if_pos (by unfold isE; rw [decide_eq_true]; dsimp only; omega)]
    rfl
  exact ⟨PL_push a h1 h2, bot_push b (Or.inr (Or.inr ⟨hk, hg, hg2⟩)), by rw [k1]; exact b2, b3, dp, by rw [e]; exact b4, b5, b6, fun _ => ⟨by rw [k2]; omega, by rw [k3]; omega⟩, fun g => by cases g⟩
theorem JJ_pop {r : Nat} {aw aw' : List rC} {c u wn : Nat} {pile : List (Nat × Nat)} {e : Nat × Nat} (h : JJ r false aw c u wn (pile ++ [e])) (he : e.1 ≤ 6) (h1 : ∀ j, sl aw' 233 j = sl aw 233 j) (h2 : ∀ j, sl aw' 234 j = sl aw 234 j) (h3 : ∀ j, sl aw' pCode j = if j = c then some (.inl e.2) else sl aw pCode j) : JJ r false aw' (c + 1) u (if e.1 = 3 then wn - 1 else wn) pile ∧ (e.1 = 3 → 1 ≤ wn) := by
  obtain ⟨a, b, b2, b3, dp, b4, b5, b6, -, b7⟩ := h
  obtain ⟨b7, b8⟩ := b7 rfl
  obtain ⟨c1, c2⟩ := bot_pop b (by omega)
  have k3 : (pile ++ [e]).countP isE = pile.countP isE + 1 := by
    rw [List.countP_append, List.countP_cons, if_pos (by unfold isE; rw [decide_eq_true]; exact he)]
    rfl
  rcases c2 with ⟨g1, g2⟩ | g1 | ⟨g1, g2, g3⟩
  · have k1 : (pile ++ [e]).countP isW = pile.countP isW + 1 := by
      rw [List.countP_append, List.countP_cons, if_pos (by unfold isW; rw [decide_eq_true]; omega)]
      rfl
    have k2 : (pile ++ [e]).countP isB = pile.countP isB := by
      rw [List.countP_append, List.countP_cons, if_neg (by unfold isB; rw [decide_eq_false (by omega)]; decide)]
      rfl
    rw [if_pos g1]
    refine ⟨⟨PL_eq (PL_pop a) h1 h2, c1, by omega, by omega, dp, dr_em b3 b4 h3 (by omega) ?_, b5, b6, (fun g => by cases g), fun _ => ⟨by omega, by omega⟩⟩, fun _ => by omega⟩
    unfold dstep
    rw [if_pos (by omega), if_pos (by omega)]
  · omega
  · have k1 : (pile ++ [e]).countP isW = pile.countP isW := by
      rw [List.countP_append, List.countP_cons, if_neg (by unfold isW; rw [decide_eq_false (by omega)]; decide)]
      rfl
    have k2 : (pile ++ [e]).countP isB = pile.countP isB + 1 := by
      rw [List.countP_append, List.countP_cons, if_pos (by unfold isB; rw [decide_eq_true]; exact g1)]
      rfl
    rw [if_neg (by omega)]
    refine ⟨⟨PL_eq (PL_pop a) h1 h2, c1, by omega, by omega, dp - 1, dr_em b3 b4 h3 g3 ?_, by omega, b6, (fun g => by cases g), fun _ => ⟨by omega, by omega⟩⟩, fun q => by omega⟩
    unfold dstep
    obtain ⟨o1, o2⟩ := g2
    rw [if_neg (by omega), if_neg (by omega), if_pos (by omega)]
theorem JJ_close {r : Nat} {aw : List rC} {c u wn : Nat} {pile : List (Nat × Nat)} {e : Nat × Nat} (h : JJ r false aw c u wn (pile ++ [e])) (he : e.1 = 7) : JJ r false aw c u (wn - 1) pile ∧ 1 ≤ wn := by
  obtain ⟨a, b, b2, b3, dp, b4, b5, b6, -, b7⟩ := h
  obtain ⟨b7, b8⟩ := b7 rfl
  obtain ⟨c1, c2⟩ := bot_pop b (by omega)
  have k1 : (pile ++ [e]).countP isW = pile.countP isW + 1 := by
    rw [List.countP_append, List.countP_cons, if_pos (by unfold isW; rw [decide_eq_true]; omega)]
    rfl
  have k2 : (pile ++ [e]).countP isB = pile.countP isB := by
    rw [List.countP_append, List.countP_cons, if_neg (by unfold isB; rw [decide_eq_false (by omega)]; decide)]
    rfl
  have k3 : (pile ++ [e]).countP isE = pile.countP isE := by
    rw [List.countP_append, List.countP_cons, if_neg (by unfold isE; rw [decide_eq_false (by omega)]; decide)]
    rfl
  exact ⟨⟨PL_pop a, c1, by omega, b3, dp, b4, b5, b6, (fun g => by cases g), fun _ => ⟨by omega, by omega⟩⟩, by omega⟩
theorem JJ_bound {r : Nat} {w : Bool} {aw : List rC} {c u wn : Nat} {pile : List (Nat × Nat)} (h : JJ r w aw c u wn pile) (hw : wn ≤ 7) : pile.length ≤ 38 ∧ 1 ≤ pile.length ∧ 560 * r ≤ c ∧ c ≤ 560 * r + 277 ∧ u ≤ 30 ∧ (drun (cd aw) (560 * r) (c - 560 * r) 0).isSome = true := by
  obtain ⟨a, b, b2, b3, dp, b4, b5, b6, b7, b8⟩ := h
  have hl := bot_len b
  refine ⟨?_, by omega, b3, ?_, b6, by rw [b4]; rfl⟩
  · cases w with
    | true => have := (b7 rfl).1; omega
    | false => have := (b8 rfl).1; omega
  · cases w with
    | true => have := (b7 rfl).2; omega
    | false => have := (b8 rfl).2; omega
