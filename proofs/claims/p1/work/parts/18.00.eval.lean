/-! the plain machine runs the law, in the kernel -/
def x0 : rX := (0, [(0, .inr (.inr (some 0)))], [], (0, []), 0, 0)
def is1 (v : Option rV) : Bool := match v with
  | some (.inl n) => Nat.beq n 1
  | _ => false
noncomputable def all1 (r : Option (List rF)) : Bool := match r with
  | none => false
  | some ls => List.rec (motive := fun _ => Bool) true (fun f _ ih => bif is1 f.2.1 then ih else false) ls
theorem all1_ok {r : Option (List rF)} (h : all1 r = true) : ∃ LV, r = some LV ∧ ∀ f ∈ LV, f.2.1 = some (.inl 1) := by
  unfold all1 at h
  split at h
  · cases h
  · next ls =>
    refine ⟨ls, rfl, ?_⟩
    induction ls with
    | nil => intro f hf; cases hf
    | cons a t ih =>
      have h' : (bif is1 a.2.1 then (all1 (some t)) else false) = true := h
      cases hb : is1 a.2.1 with
      | false => rw [hb] at h'; cases h'
      | true =>
        rw [hb, cond_true] at h'
        intro f hf
        rcases List.mem_cons.mp hf with rfl | hf
        · unfold is1 at hb
          split at hb
          · next n hn => rw [hn, Nat.eq_of_beq_eq_true hb]
          · cases hb
        · exact ih h' f hf

set_option maxRecDepth 10000000 in
theorem e_0 : all1 (run2 tT mT 0 100000 12 mL [] x0) = true := by decide +kernel
set_option maxRecDepth 10000000 in
theorem e_1 : all1 (run2 tT mT 1 100000 12 mL [] x0) = true := by decide +kernel
set_option maxRecDepth 10000000 in
theorem e_2 : all1 (run2 tT mT 2 100000 12 mL [] x0) = true := by decide +kernel
set_option maxRecDepth 10000000 in
theorem e_3 : all1 (run2 tT mT 3 100000 12 mL [] x0) = true := by decide +kernel
set_option maxRecDepth 10000000 in
theorem e_4 : all1 (run2 tT mT 4 100000 12 mL [] x0) = true := by decide +kernel
set_option maxRecDepth 10000000 in
theorem e_5 : all1 (run2 tT mT 5 100000 12 mL [] x0) = true := by decide +kernel
