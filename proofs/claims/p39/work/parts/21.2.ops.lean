theorem qin_ok {lo hi z : Int} (h1 : lo ≤ z) (h2 : z ≤ hi) {w : Int} (hw : inR w) (e : inR z → w = z) : (qin lo hi).1 ≤ w ∧ w ≤ (qin lo hi).2 := by
  unfold qin
  cases hb : (zle (-2147483648) lo && zle hi 2147483647) with
  | false => exact hw
  | true =>
    rw [Bool.and_eq_true, zle_iff, zle_iff] at hb
    rw [cond_true]
    have := e ⟨by omega, by omega⟩
    exact ⟨by dsimp only; omega, by dsimp only; omega⟩
theorem zmin_l (a b : Int) : zmin a b ≤ a ∧ zmin a b ≤ b := by
  unfold zmin
  cases h : zle a b with
  | true => have := zle_iff.mp h; exact ⟨Int.le_refl a, this⟩
  | false => have := zle_not h; exact ⟨by rw [cond_false]; omega, Int.le_refl b⟩
theorem zmax_l (a b : Int) : a ≤ zmax a b ∧ b ≤ zmax a b := by
  unfold zmax
  cases h : zle a b with
  | true => have := zle_iff.mp h; exact ⟨this, Int.le_refl b⟩
  | false => have := zle_not h; exact ⟨Int.le_refl a, by rw [cond_false]; omega⟩
theorem mul_b1 {l h x y : Int} (h1 : l ≤ x) (h2 : x ≤ h) : zmin (l * y) (h * y) ≤ x * y ∧ x * y ≤ zmax (l * y) (h * y) := by
  have a := zmin_l (l * y) (h * y)
  have b := zmax_l (l * y) (h * y)
  rcases Int.le_total 0 y with g | g
  · have c1 := Int.mul_le_mul_of_nonneg_right h1 g
    have c2 := Int.mul_le_mul_of_nonneg_right h2 g
    omega
  · have c1 := Int.mul_le_mul_of_nonpos_right h1 g
    have c2 := Int.mul_le_mul_of_nonpos_right h2 g
    omega
theorem mul_b {lx hx ly hy x y : Int} (h1 : lx ≤ x) (h2 : x ≤ hx) (h3 : ly ≤ y) (h4 : y ≤ hy) : zmin (zmin (lx * ly) (lx * hy)) (zmin (hx * ly) (hx * hy)) ≤ x * y ∧ x * y ≤ zmax (zmax (lx * ly) (lx * hy)) (zmax (hx * ly) (hx * hy)) := by
  have a := mul_b1 (y := y) h1 h2
  have b := mul_b1 (y := lx) h3 h4
  have c := mul_b1 (y := hx) h3 h4
  rw [Int.mul_comm ly lx, Int.mul_comm hy lx, Int.mul_comm y lx] at b
  rw [Int.mul_comm ly hx, Int.mul_comm hy hx, Int.mul_comm y hx] at c
  have d1 := zmin_l (zmin (lx * ly) (lx * hy)) (zmin (hx * ly) (hx * hy))
  have d2 := zmax_l (zmax (lx * ly) (lx * hy)) (zmax (hx * ly) (hx * hy))
  have e1 : zmin (zmin (lx * ly) (lx * hy)) (zmin (hx * ly) (hx * hy)) ≤ zmin (lx * y) (hx * y) := zmin_le (by omega) (by omega)
  have e2 : zmax (lx * y) (hx * y) ≤ zmax (zmax (lx * ly) (lx * hy)) (zmax (hx * ly) (hx * hy)) := zmax_le (by omega) (by omega)
  omega
theorem pow_mono {a b : Nat} (h : a ≤ b) : (2 : Int) ^ a ≤ 2 ^ b := by
  have := Nat.pow_le_pow_right (n := 2) (by decide) h
  have e1 : ((2 ^ a : Nat) : Int) = 2 ^ a := by simp
  have e2 : ((2 ^ b : Nat) : Int) = 2 ^ b := by simp
  omega
theorem qop_ok {k : Nat} {lx hx ly hy x y : Int} {r : qR} (h : qop k lx hx ly hy = some r) (h1 : lx ≤ x) (h2 : x ≤ hx) (h3 : ly ≤ y) (h4 : y ≤ hy) (rx : inR x) (ry : inR y) : (8 ≤ k → y ≠ 0) ∧ r.1 ≤ (op k (Int32.ofInt x) (Int32.ofInt y)).toInt ∧ (op k (Int32.ofInt x) (Int32.ofInt y)).toInt ≤ r.2 := by
  unfold qop at h
  cases hb : (zeq lx hx && zeq ly hy) with
  | true =>
    rw [hb, cond_true] at h
    rw [Bool.and_eq_true, zeq_iff, zeq_iff] at hb
    obtain ⟨e1, e2⟩ := hb
    have ex : x = lx := by omega
    have ey : y = ly := by omega
    subst ex
    subst ey
    cases hc : (Nat.ble 8 k && zeq y 0) with
    | true => rw [hc] at h; cases h
    | false =>
      rw [hc, cond_false, fZ_eq] at h
      cases h
      refine ⟨fun g e => ?_, Int.le_refl _, Int.le_refl _⟩
      rw [Nat.ble_eq_true_of_le g, zeq_iff.mpr e] at hc
      cases hc
  | false =>
    rw [hb, cond_false] at h
    have hX : (Int32.ofInt x).toInt = x := ofInt_in rx
    have hY : (Int32.ofInt y).toInt = y := ofInt_in ry
    generalize Int32.ofInt x = X at *
    generalize Int32.ofInt y = Y at *
    subst hX
    subst hY
    match k, h with
    | 0, h =>
      cases h
      refine ⟨fun g => absurd g (by decide), ?_⟩
      exact qin_ok (z := X.toInt + Y.toInt) (by omega) (by omega) (toInt_in _) (fun g => (Int32.toInt_add X Y).trans (bm g))
    | 1, h =>
      cases h
      refine ⟨fun g => absurd g (by decide), ?_⟩
      exact qin_ok (z := X.toInt - Y.toInt) (by omega) (by omega) (toInt_in _) (fun g => (Int32.toInt_sub X Y).trans (bm g))
    | 2, h =>
      cases h
      refine ⟨fun g => absurd g (by decide), ?_⟩
      have m := mul_b h1 h2 h3 h4
      exact qin_ok (z := X.toInt * Y.toInt) m.1 m.2 (toInt_in _) (fun g => (Int32.toInt_mul X Y).trans (bm g))
    | 3, h =>
      refine ⟨fun g => absurd g (by decide), ?_⟩
      have h := Option.some.inj h
      show r.1 ≤ (X &&& Y).toInt ∧ (X &&& Y).toInt ≤ r.2
      cases ha : zle 0 lx with
      | true =>
        have a := zle_iff.mp ha
        have b := and_le (x := X) (y := Y) (by omega)
        rw [ha, cond_true] at h
        cases hc : zle 0 ly with
        | true =>
          have c := zle_iff.mp hc
          have d := and_le (x := Y) (y := X) (by omega)
          rw [and_comm32] at d
          rw [hc, cond_true] at h
          subst h
          exact ⟨b.1, zmin_le (by omega) (by omega)⟩
        | false =>
          rw [hc, cond_false] at h
          subst h
          exact ⟨b.1, by dsimp only; omega⟩
      | false =>
        rw [ha, cond_false] at h
        cases hc : zle 0 ly with
        | true =>
          have c := zle_iff.mp hc
          have d := and_le (x := Y) (y := X) (by omega)
          rw [and_comm32] at d
          rw [hc, cond_true] at h
          subst h
          exact ⟨d.1, by dsimp only; omega⟩
        | false =>
          rw [hc, cond_false] at h
          subst h
          exact toInt_in _
    | 4, h =>
      refine ⟨fun g => absurd g (by decide), ?_⟩
      have h := Option.some.inj h
      show r.1 ≤ (X ||| Y).toInt ∧ (X ||| Y).toInt ≤ r.2
      cases ha : (zle 0 lx && zle 0 ly) with
      | true =>
        rw [ha, cond_true] at h
        rw [Bool.and_eq_true, zle_iff, zle_iff] at ha
        subst h
        by_cases hm : hx ≤ 2147483647 ∧ hy ≤ 2147483647
        · exact qmask_ok (fun m => (0 : Int) ≤ (X ||| Y).toInt ∧ (X ||| Y).toInt ≤ m) (fun k hk c1 c2 => by
            have := or_lt (x := X) (y := Y) hk (by omega) (by omega) (by omega) (by omega)
            omega) hm.1 hm.2
        · have hq : qmask hx hy = 2147483647 := by
            simp only [qmask, masks]
            have f : ∀ m : Int, m ≤ 65535 → (zle hx m && zle hy m) = false := fun m hm' => by
              cases hb' : (zle hx m && zle hy m) with
              | false => rfl
              | true => rw [Bool.and_eq_true, zle_iff, zle_iff] at hb'; omega
            rw [f 1 (by decide), f 3 (by decide), f 7 (by decide), f 15 (by decide), f 31 (by decide), f 63 (by decide), f 127 (by decide), f 255 (by decide), f 511 (by decide), f 1023 (by decide), f 2047 (by decide), f 4095 (by decide), f 65535 (by decide)]
            rfl
          rw [hq]
          have := or_lt (x := X) (y := Y) (k := 31) (by decide) (by omega) (by omega) (by have := (toInt_in X).2; omega) (by have := (toInt_in Y).2; omega)
          exact ⟨this.1, by dsimp only; omega⟩
      | false =>
        rw [ha, cond_false] at h
        subst h
        exact toInt_in _
    | 5, h =>
      refine ⟨fun g => absurd g (by decide), ?_⟩
      have h := Option.some.inj h
      show r.1 ≤ (X ^^^ Y).toInt ∧ (X ^^^ Y).toInt ≤ r.2
      cases ha : (zle 0 lx && zle 0 ly) with
      | true =>
        rw [ha, cond_true] at h
        rw [Bool.and_eq_true, zle_iff, zle_iff] at ha
        subst h
        by_cases hm : hx ≤ 2147483647 ∧ hy ≤ 2147483647
        · exact qmask_ok (fun m => (0 : Int) ≤ (X ^^^ Y).toInt ∧ (X ^^^ Y).toInt ≤ m) (fun k hk c1 c2 => by
            have := xor_lt (x := X) (y := Y) hk (by omega) (by omega) (by omega) (by omega)
            omega) hm.1 hm.2
        · have hq : qmask hx hy = 2147483647 := by
            simp only [qmask, masks]
            have f : ∀ m : Int, m ≤ 65535 → (zle hx m && zle hy m) = false := fun m hm' => by
              cases hb' : (zle hx m && zle hy m) with
              | false => rfl
              | true => rw [Bool.and_eq_true, zle_iff, zle_iff] at hb'; omega
            rw [f 1 (by decide), f 3 (by decide), f 7 (by decide), f 15 (by decide), f 31 (by decide), f 63 (by decide), f 127 (by decide), f 255 (by decide), f 511 (by decide), f 1023 (by decide), f 2047 (by decide), f 4095 (by decide), f 65535 (by decide)]
            rfl
          rw [hq]
          have := xor_lt (x := X) (y := Y) (k := 31) (by decide) (by omega) (by omega) (by have := (toInt_in X).2; omega) (by have := (toInt_in Y).2; omega)
          exact ⟨this.1, by dsimp only; omega⟩
      | false =>
        rw [ha, cond_false] at h
        subst h
        exact toInt_in _
    | 6, h =>
      refine ⟨fun g => absurd g (by decide), ?_⟩
      have h := Option.some.inj h
      show r.1 ≤ (X <<< (Y &&& 31)).toInt ∧ (X <<< (Y &&& 31)).toInt ≤ r.2
      cases ha : (zeq lx 1 && (zeq hx 1 && (zle 0 ly && zle hy 30))) with
      | true =>
        rw [ha, cond_true] at h
        rw [Bool.and_eq_true, Bool.and_eq_true, Bool.and_eq_true, zle_iff, zle_iff, zeq_iff, zeq_iff] at ha
        obtain ⟨c1, c2, c3, c4⟩ := ha
        subst h
        have hX1 : X = 1 := by
          apply Int32.toInt_inj.mp
          have : (1 : Int32).toInt = 1 := by decide
          omega
        rw [hX1, shl1 (by omega) (by omega)]
        refine ⟨?_, pow_mono (by omega)⟩
        have := pow_mono (Nat.zero_le Y.toInt.toNat)
        exact this
      | false =>
        rw [ha, cond_false] at h
        subst h
        exact toInt_in _
    | 7, h =>
      refine ⟨fun g => absurd g (by decide), ?_⟩
      have h := Option.some.inj h
      show r.1 ≤ (X >>> (Y &&& 31)).toInt ∧ (X >>> (Y &&& 31)).toInt ≤ r.2
      cases ha : zle 0 lx with
      | true =>
        rw [ha, cond_true] at h
        have := zle_iff.mp ha
        have b := shr_le (x := X) (Y &&& 31) (by omega)
        subst h
        exact ⟨b.1, by dsimp only; omega⟩
      | false =>
        rw [ha, cond_false] at h
        subst h
        exact toInt_in _
    | 8, h =>
      show (8 ≤ 8 → Y.toInt ≠ 0) ∧ r.1 ≤ (X / Y).toInt ∧ (X / Y).toInt ≤ r.2
      cases ha : zle 1 ly with
      | true =>
        have a := zle_iff.mp ha
        rw [ha, cond_true] at h
        have h := Option.some.inj h
        refine ⟨fun _ => by omega, ?_⟩
        cases hc : zle 0 lx with
        | true =>
          have c := zle_iff.mp hc
          rw [hc, cond_true] at h
          subst h
          have t := tdiv_b (x := X.toInt) (y := Y.toInt) (by omega) (by omega)
          have hx' := (toInt_in X).2
          have e : (X / Y).toInt = X.toInt.tdiv Y.toInt := (Int32.toInt_div X Y).trans (bm ⟨by omega, by omega⟩)
          rw [e]
          exact ⟨t.1, by dsimp only; omega⟩
        | false =>
          rw [hc, cond_false] at h
          subst h
          exact toInt_in _
      | false =>
        rw [ha, cond_false] at h
        cases hc : zle hy (-1) with
        | true =>
          have c := zle_iff.mp hc
          rw [hc, cond_true] at h
          cases h
          exact ⟨fun _ => by omega, toInt_in _⟩
        | false => rw [hc] at h; cases h
    | n + 9, h =>
      show (8 ≤ n + 9 → Y.toInt ≠ 0) ∧ r.1 ≤ (X - X / Y * Y).toInt ∧ (X - X / Y * Y).toInt ≤ r.2
      cases ha : zle 1 ly with
      | true =>
        have a := zle_iff.mp ha
        rw [ha, cond_true] at h
        have h := Option.some.inj h
        refine ⟨fun _ => by omega, ?_⟩
        rw [rem_eq (by omega)]
        have t1 : X.toInt.tmod Y.toInt < Y.toInt := Int.tmod_lt_of_pos _ (by omega)
        have t2 : -Y.toInt < X.toInt.tmod Y.toInt := by
          have := Int.tmod_lt_of_pos (-X.toInt) (b := Y.toInt) (by omega)
          rw [Int.neg_tmod] at this
          omega
        cases hc : zle 0 lx with
        | true =>
          have c := zle_iff.mp hc
          rw [hc, cond_true] at h
          subst h
          have t3 : 0 ≤ X.toInt.tmod Y.toInt := Int.tmod_nonneg _ (by omega)
          have t4 : X.toInt.tmod Y.toInt ≤ X.toInt := by
            rw [Int.tmod_eq_emod_of_nonneg (by omega)]
            have e := Int.emod_def X.toInt Y.toInt
            have p := Int.mul_nonneg (show 0 ≤ Y.toInt by omega) (Int.ediv_nonneg (show 0 ≤ X.toInt by omega) (show 0 ≤ Y.toInt by omega))
            omega
          exact ⟨t3, zmin_le (by omega) (by omega)⟩
        | false =>
          rw [hc, cond_false] at h
          subst h
          exact ⟨by dsimp only; omega, by dsimp only; omega⟩
      | false =>
        rw [ha, cond_false] at h
        cases hc : zle hy (-1) with
        | true =>
          have c := zle_iff.mp hc
          rw [hc, cond_true] at h
          cases h
          exact ⟨fun _ => by omega, toInt_in _⟩
        | false => rw [hc] at h; cases h
