/-! the cells of the class and of the reference, by kinds; what lies in them -/
def qKs : List qKd := [(11, 14, some 0, [.inr (some 1), .inr (some 3), .inr (some 14), .inr (some 25), .inr (some 28), .inr (some 30), .inr (some 31), .inr (some 32), .inr (some 34), .inr (some 35), .inr (some 36), .inr (some 37), .inr (some 45), .inl (0, 100000)]),
  (9, 7, some 1, [.inr (some 2), .inl (0, 1600), .inl (0, 1600), .inl ((-2147483648), 2147483647), .inl ((-2147483648), 2147483647), .inl ((-2147483648), 2147483647), .inr none]),
  (13, 1600, some 2, [.inl ((-128), 127)]),
  (5, 10, some 3, [.inr (some 4), .inr (some 5), .inr (some 6), .inr (some 7), .inr (some 8), .inr (some 9), .inl (0, 6), .inl (0, 5), .inl ((-2147483648), 2147483647), .inl ((-2147483648), 2147483647)]),
  (14, 6, some 4, [.inl ((-2147483648), 2147483647)]),
  (14, 6, some 5, [.inl ((-2147483648), 2147483647)]),
  (14, 5, some 6, [.inl ((-2147483648), 2147483647)]),
  (14, 5, some 7, [.inl ((-2147483648), 2147483647)]),
  (14, 5, some 8, [.inl ((-2147483648), 2147483647)]),
  (4, 7, some 9, [.inr (some 10), .inr (some 11), .inr (some 12), .inr (some 13), .inl ((-2147483648), 2147483647), .inl ((-2147483648), 2147483647), .inl (0, 1)]),
  (14, 269, some 10, [.inl ((-2147483648), 2147483647)]),
  (14, 269, some 11, [.inl ((-2147483648), 2147483647)]),
  (14, 30, some 12, [.inl ((-2147483648), 2147483647)]),
  (14, 6, some 13, [.inl ((-2147483648), 2147483647)]),
  (5, 10, some 14, [.inr (some 15), .inr (some 16), .inr (some 17), .inr (some 18), .inr (some 19), .inr (some 20), .inl (0, 6), .inl (0, 5), .inl ((-2147483648), 2147483647), .inl ((-2147483648), 2147483647)]),
  (14, 6, some 15, [.inl ((-2147483648), 2147483647)]),
  (14, 6, some 16, [.inl ((-2147483648), 2147483647)]),
  (14, 5, some 17, [.inl ((-2147483648), 2147483647)]),
  (14, 5, some 18, [.inl ((-2147483648), 2147483647)]),
  (14, 5, some 19, [.inl ((-2147483648), 2147483647)]),
  (4, 7, some 20, [.inr (some 21), .inr (some 22), .inr (some 23), .inr (some 24), .inl ((-2147483648), 2147483647), .inl ((-2147483648), 2147483647), .inl (0, 1)]),
  (14, 269, some 21, [.inl ((-2147483648), 2147483647)]),
  (14, 269, some 22, [.inl ((-2147483648), 2147483647)]),
  (14, 30, some 23, [.inl ((-2147483648), 2147483647)]),
  (14, 6, some 24, [.inl ((-2147483648), 2147483647)]),
  (8, 9, some 25, [.inr (some 1), .inr (some 14), .inr (some 26), .inr (some 27), .inl (0, 1), .inl (0, 1), .inl ((-2147483648), 2147483647), .inl ((-2147483648), 2147483647), .inl ((-2147483648), 2147483647)]),
  (15, 6, some 26, [.inr none]),
  (15, 5, some 27, [.inr none]),
  (6, 4, none, [.inr (some 29), .inl ((-2147483648), 2147483647), .inl ((-2147483648), 2147483647), .inl ((-2147483648), 2147483647)]),
  (14, 30, none, [.inl ((-2147483648), 2147483647)]),
  (17, 3, some 30, [.inr (some 28)]),
  (16, 3, some 31, [.inl (0, 1)]),
  (0, 4, some 38, [.inr (some 33), .inl (0, 40), .inl (0, 40), .inl (0, 40)]),
  (17, 41, some 39, [.inr (some 28)]),
  (10, 7, none, [.inr (some 3), .inl ((-2147483648), 2147483647), .inl ((-2147483648), 2147483647), .inl ((-2147483648), 2147483647), .inl ((-2147483648), 2147483647), .inl ((-2147483648), 2147483647), .inl ((-2147483648), 2147483647)]),
  (1, 3, some 123, [.inr (some 3), .inr (some 28), .inr (some 34)]),
  (2, 6, some 124, [.inr (some 3), .inr (some 28), .inr (some 34), .inr (some 35), .inr none, .inr none]),
  (3, 15, some 125, [.inr (some 3), .inr (some 28), .inr (some 34), .inr (some 35), .inr (some 38), .inl ((-2147483648), 2147483647), .inr (some 39), .inr (some 40), .inr (some 41), .inr (some 42), .inl ((-2147483648), 2147483647), .inl ((-2147483648), 2147483647), .inl ((-2147483648), 2147483647), .inr (some 43), .inr (some 44)]),
  (14, 6, some 126, [.inl ((-2147483648), 2147483647)]),
  (14, 6, some 127, [.inl ((-2147483648), 2147483647)]),
  (14, 5, some 128, [.inl ((-2147483648), 2147483647)]),
  (15, 5, some 129, [.inr none]),
  (15, 5, some 130, [.inr none]),
  (18, 7, some 131, [.inr (some 34)]),
  (14, 1000, some 132, [.inl ((-2147483648), 2147483647)]),
  (7, 10, some 140, [.inr (some 3), .inr (some 34), .inr (some 46), .inr (some 47), .inr (some 48), .inr (some 49), .inr (some 50), .inr (some 51), .inl (0, 1), .inl ((-2147483648), 2147483647)]),
  (14, 30, some 141, [.inl ((-2147483648), 2147483647)]),
  (14, 30, some 142, [.inl ((-2147483648), 2147483647)]),
  (16, 30, some 143, [.inl (0, 1)]),
  (14, 30, some 144, [.inl ((-2147483648), 2147483647)]),
  (14, 30, some 145, [.inl ((-2147483648), 2147483647)]),
  (19, 64, some 146, [.inr (some 52)]),
  (14, 21, none, [.inl ((-2147483648), 2147483647)]),
  (12, 66, some 211, [.inr (some 54), .inr (some 55), .inl (0, 1600), .inl (0, 1600), .inl (0, 4), .inl ((-2147483648), 2147483647), .inl (0, 1600), .inl (0, 1600), .inl (0, 5), .inl ((-2147483648), 2147483647), .inr none, .inr (some 56), .inr (some 57), .inr (some 58), .inr (some 59), .inr (some 60), .inr (some 61), .inr (some 62), .inr (some 63), .inr (some 64), .inr (some 65), .inr (some 66), .inr (some 67), .inr (some 68), .inr (some 69), .inr (some 70), .inr (some 71), .inr (some 72), .inr (some 73), .inr (some 74), .inr (some 75), .inr (some 76), .inr (some 77), .inl (0, 1), .inl (0, 1), .inl (0, 1120), .inl ((-40), 7), .inl (0, 40), .inl (0, 30), .inl ((-2147483648), 2147483647), .inl ((-2147483648), 2147483647), .inl ((-2147483648), 2147483647), .inl ((-2147483648), 2147483647), .inl ((-2147483648), 2147483647), .inl ((-2147483648), 2147483647), .inr (some 78), .inr (some 79), .inl (0, 40), .inl (0, 41), .inr (some 80), .inr (some 81), .inr (some 82), .inr (some 83), .inl ((-32), 6), .inl ((-32), 6), .inr (some 84), .inr (some 85), .inr (some 86), .inr (some 87), .inr (some 88), .inr (some 89), .inl (0, 30), .inl (0, 100000), .inl ((-2147483648), 2147483647), .inr (some 90), .inr (some 91)]),
  (13, 1620, some 212, [.inl ((-128), 127)]),
  (13, 1600, some 213, [.inl ((-128), 127)]),
  (14, 2, some 214, [.inl (0, 6)]),
  (14, 2, some 215, [.inl (0, 5)]),
  (14, 2, some 216, [.inl (0, 60)]),
  (14, 2, some 217, [.inl ((-2147483648), 2147483647)]),
  (14, 2, some 218, [.inl ((-2147483648), 2147483647)]),
  (14, 12, some 219, [.inl ((-2147483648), 2147483647)]),
  (14, 12, some 220, [.inl ((-2147483648), 2147483647)]),
  (14, 10, some 221, [.inl ((-2147483648), 2147483647)]),
  (14, 10, some 222, [.inl ((-2147483648), 2147483647)]),
  (14, 10, some 223, [.inl ((-2147483648), 2147483647)]),
  (14, 2, some 224, [.inl (0, 1120)]),
  (14, 2, some 225, [.inl (0, 1120)]),
  (16, 2, some 226, [.inl (0, 1)]),
  (16, 2, some 227, [.inl (0, 1)]),
  (16, 2, some 228, [.inl (0, 1)]),
  (15, 12, some 229, [.inr none]),
  (15, 10, some 230, [.inr none]),
  (14, 1120, some 231, [.inl ((-2147483648), 2147483647)]),
  (14, 1120, some 232, [.inl ((-2147483648), 2147483647)]),
  (14, 90, some 233, [.inl (0, 8)]),
  (14, 90, some 234, [.inl ((-2147483648), 2147483647)]),
  (14, 60, some 235, [.inl ((-2147483648), 2147483647)]),
  (14, 33, some 236, [.inl ((-2147483648), 2147483647)]),
  (14, 1353, some 237, [.inl ((-2147483648), 2147483647)]),
  (14, 33, some 238, [.inl ((-2147483648), 2147483647)]),
  (16, 320, some 239, [.inl (0, 1)]),
  (14, 6, some 240, [.inl ((-2147483648), 2147483647)]),
  (14, 6, some 241, [.inl ((-2147483648), 2147483647)]),
  (14, 30, some 242, [.inl ((-2147483648), 2147483647)]),
  (14, 30, some 243, [.inl ((-2147483648), 2147483647)]),
  (14, 30, some 244, [.inl ((-2147483648), 2147483647)]),
  (14, 30, some 245, [.inl ((-2147483648), 2147483647)]),
  (14, 30, some 246, [.inl ((-2147483648), 2147483647)]),
  (14, 6, some 247, [.inl ((-2147483648), 2147483647)]),
  (14, 99, some 248, [.inl ((-2147483648), 2147483647)]),
  (16, 3, some 249, [.inl (0, 1)])]
def qCk : List Nat := [0, 1, 2, 3, 4, 5, 6, 7, 8, 9, 10, 11, 12, 13, 14, 15, 16, 17, 18, 19, 20, 21, 22, 23, 24, 25, 26, 27, 28, 29, 30, 31, 28, 29, 28, 29, 28, 29, 32, 33, 28, 29, 28, 29, 28, 29, 28, 29, 28, 29, 28, 29, 28, 29, 28, 29, 28, 29, 28, 29, 28, 29, 28, 29, 28, 29, 28, 29, 28, 29, 28, 29, 28, 29, 28, 29, 28, 29, 28, 29, 28, 29, 28, 29, 28, 29, 28, 29, 28, 29, 28, 29, 28, 29, 28, 29, 28, 29, 28, 29, 28, 29, 28, 29, 28, 29, 28, 29, 28, 29, 28, 29, 28, 29, 28, 29, 28, 29, 28, 29, 28, 29, 34, 35, 36, 37, 38, 39, 40, 41, 42, 43, 44, 34, 34, 34, 34, 34, 34, 34, 45, 46, 47, 48, 49, 50, 51, 52, 52, 52, 52, 52, 52, 52, 52, 52, 52, 52, 52, 52, 52, 52, 52, 52, 52, 52, 52, 52, 52, 52, 52, 52, 52, 52, 52, 52, 52, 52, 52, 52, 52, 52, 52, 52, 52, 52, 52, 52, 52, 52, 52, 52, 52, 52, 52, 52, 52, 52, 52, 52, 52, 52, 52, 52, 52, 52, 52, 52, 52, 52, 52, 53, 54, 55, 56, 57, 58, 59, 60, 61, 62, 63, 64, 65, 66, 67, 68, 69, 70, 71, 72, 73, 74, 75, 76, 77, 78, 79, 80, 81, 82, 83, 84, 85, 86, 87, 88, 89, 90, 91]
def qH : qT := (qKs, qCk)
def hwB (H : qT) : Bool := (List.range H.2.length).all (fun p => match H.2[p]? with
  | some κ => (match H.1[κ]? with
    | some K => (match K.2.2.1 with
      | some p0 => Nat.beq p p0
      | none => true)
    | none => true)
  | none => true)
theorem hwB_ok {H : qT} (h : hwB H = true) : HW H := by
  intro κ K p0 h1 h2 p h3
  have hl : p < H.2.length := (List.getElem?_eq_some_iff.mp h3).1
  have := List.all_eq_true.mp h p (List.mem_range.mpr hl)
  rw [h3] at this
  dsimp only at this
  rw [h1] at this
  dsimp only at this
  rw [h2] at this
  exact Nat.eq_of_beq_eq_true this
theorem qH_w : HW qH := hwB_ok (by decide +kernel)
/-! the lasting fact: the code of both banks is safe to run -/
def pCode : Nat := 231
def pFrom : Nat := 224
def pTo : Nat := 225
def QF : List Nat := [73, 66, 67]
def dstep (c : Int) (d : Nat) : Option Nat := if c = 126 then (if 1 ≤ d then some d else none) else if 97 ≤ c ∧ c ≤ 122 then (if d < 60 then some (d + 1) else none) else (if 2 ≤ d then some (d - 1) else none)
def drun (f : Nat → Int) : Nat → Nat → Nat → Option Nat
  | _, 0, d => some d
  | a, n + 1, d => match dstep (f a) d with
    | some d => drun f (a + 1) n d
    | none => none
def cd (aw : List rC) (j : Nat) : Int := match sl aw pCode j with
  | some (.inl n) => sgn n
  | _ => 0
def QB (aw : List rC) : Prop := ∀ r, r < 2 → ∃ a b : Nat, sl aw pFrom r = some (.inl a) ∧ sl aw pTo r = some (.inl b) ∧ a ≤ b ∧ (a = b ∨ 560 * r ≤ a) ∧ b ≤ 560 * r + 560 ∧ (drun (cd aw) a (b - a) 0).isSome = true
theorem QB_lasts : lasts qH QB QF := by
  intro aw aw' hl hs h r hr
  have e1 : ∀ j, sl aw' pCode j = sl aw pCode j := fun j => hs pCode 73 j (by decide +kernel) (by decide)
  have e2 : ∀ j, sl aw' pFrom j = sl aw pFrom j := fun j => hs pFrom 66 j (by decide +kernel) (by decide)
  have e3 : ∀ j, sl aw' pTo j = sl aw pTo j := fun j => hs pTo 67 j (by decide +kernel) (by decide)
  have e4 : cd aw' = cd aw := by
    funext j
    unfold cd
    rw [e1]
  obtain ⟨a, b, h1, h2, h3⟩ := h r hr
  exact ⟨a, b, by rw [e2]; exact h1, by rw [e3]; exact h2, by rw [e4]; exact h3⟩
theorem all_nil {α : Type} {P : α → Prop} : ∀ x ∈ ([] : List α), P x := fun _ h => absurd h List.not_mem_nil
theorem all_cons {α : Type} {P : α → Prop} {a : α} {l : List α} (h : P a) (t : ∀ x ∈ l, P x) : ∀ x ∈ a :: l, P x := fun x hx => (List.mem_cons.mp hx).elim (fun e => by rw [e]; exact h) (t x)

