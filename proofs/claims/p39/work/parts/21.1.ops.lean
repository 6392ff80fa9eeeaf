/-! comparisons, and bounds of what ints' operations give -/
noncomputable def refNe (hint : Nat) (E : qE) (x y : qI) : List qE := bif (Nat.beq x.1 y.1 && zeq x.2 y.2) then [] else bif Nat.beq hint 1 then (refLe E x y 1).toList ++ (refLe E y x 1).toList else bif Nat.beq y.1 0 then (refNc E x y.2).toList else bif Nat.beq x.1 0 then (refNc E y x.2).toList else [E]
theorem refNe_ok {hint : Nat} {σ : List Int} {E : qE} (h : eOK2 σ E) {x y : qI} {u v : Int} (hx : iOK σ x u) (hy : iOK σ y v) (hd : u ≠ v) : ∃ E' ∈ refNe hint E x y, eOK2 σ E' := by
  have hxy : (Nat.beq x.1 y.1 && zeq x.2 y.2) = false := by
    cases hb : (Nat.beq x.1 y.1 && zeq x.2 y.2) with
    | false => rfl
    | true =>
      rw [Bool.and_eq_true, zeq_iff] at hb
      exfalso
      apply hd
      refine iOK_fun (x := x) hx ?_
      obtain ⟨b, b1, b2⟩ := hy
      exact ⟨b, by rw [Nat.eq_of_beq_eq_true hb.1]; exact b1, by rw [hb.2]; exact b2⟩
  unfold refNe
  rw [hxy, cond_false]
  cases h1 : Nat.beq hint 1 with
  | true =>
    rw [cond_true]
    rcases Int.lt_or_le u v with g | g
    · obtain ⟨E', e1, e2⟩ := refLe_ok h hx hy (d := 1) (by omega)
      exact ⟨E', List.mem_append_left _ (by rw [e1]; exact List.mem_singleton.mpr rfl), e2⟩
    · obtain ⟨E', e1, e2⟩ := refLe_ok h hy hx (d := 1) (by omega)
      exact ⟨E', List.mem_append_right _ (by rw [e1]; exact List.mem_singleton.mpr rfl), e2⟩
  | false =>
    rw [cond_false]
    cases h2 : Nat.beq y.1 0 with
    | true =>
      rw [cond_true]
      have e0 := Nat.eq_of_beq_eq_true h2
      have ev : v = y.2 := by
        obtain ⟨b, b1, b2⟩ := hy
        rw [e0, h.2.1] at b1
        cases b1
        omega
      obtain ⟨E', e1, e2⟩ := refNc_ok h hx (c := y.2) (by omega)
      exact ⟨E', by rw [e1]; exact List.mem_singleton.mpr rfl, e2⟩
    | false =>
      rw [cond_false]
      cases h3 : Nat.beq x.1 0 with
      | true =>
        rw [cond_true]
        have e0 := Nat.eq_of_beq_eq_true h3
        have ev : u = x.2 := by
          obtain ⟨b, b1, b2⟩ := hx
          rw [e0, h.2.1] at b1
          cases b1
          omega
        obtain ⟨E', e1, e2⟩ := refNc_ok h hy (c := x.2) (by omega)
        exact ⟨E', by rw [e1]; exact List.mem_singleton.mpr rfl, e2⟩
      | false => exact ⟨E, List.mem_singleton.mpr rfl, h⟩
def q_cnd (q : ClassFile.Cond) (u v : Int) : Bool := match q with
  | .eq => decide (u = v)
  | .ne => !(decide (u = v))
  | .lt => decide (u < v)
  | .ge => !(decide (u < v))
  | .gt => decide (v < u)
  | .le => !(decide (v < u))
noncomputable def qcmp (hint : Nat) (E : qE) (q : ClassFile.Cond) (x y : qI) : List qE × List qE := match q with
  | .eq => ((refEq E x y).toList, refNe hint E x y)
  | .ne => (refNe hint E x y, (refEq E x y).toList)
  | .lt => ((refLe E x y 1).toList, (refLe E y x 0).toList)
  | .ge => ((refLe E y x 0).toList, (refLe E x y 1).toList)
  | .gt => ((refLe E y x 1).toList, (refLe E x y 0).toList)
  | .le => ((refLe E x y 0).toList, (refLe E y x 1).toList)
theorem toL {α : Type} {P : α → Prop} {o : Option α} (h : ∃ a, o = some a ∧ P a) : ∃ a ∈ o.toList, P a := by
  obtain ⟨a, h1, h2⟩ := h
  exact ⟨a, by rw [h1]; exact List.mem_singleton.mpr rfl, h2⟩
theorem qcmp_ok {hint : Nat} {σ : List Int} {E : qE} (h : eOK2 σ E) {x y : qI} {u v : Int} (hx : iOK σ x u) (hy : iOK σ y v) (q : ClassFile.Cond) : (q_cnd q u v = true → ∃ E' ∈ (qcmp hint E q x y).1, eOK2 σ E') ∧ (q_cnd q u v = false → ∃ E' ∈ (qcmp hint E q x y).2, eOK2 σ E') := by
  have lt1 : u < v → ∃ E' ∈ (refLe E x y 1).toList, eOK2 σ E' := fun g => toL (refLe_ok h hx hy (by omega))
  have ge1 : v ≤ u → ∃ E' ∈ (refLe E y x 0).toList, eOK2 σ E' := fun g => toL (refLe_ok h hy hx (by omega))
  have gt1 : v < u → ∃ E' ∈ (refLe E y x 1).toList, eOK2 σ E' := fun g => toL (refLe_ok h hy hx (by omega))
  have le1 : u ≤ v → ∃ E' ∈ (refLe E x y 0).toList, eOK2 σ E' := fun g => toL (refLe_ok h hx hy (by omega))
  have eq1 : u = v → ∃ E' ∈ (refEq E x y).toList, eOK2 σ E' := fun g => by subst g; exact toL (refEq_ok h hx hy)
  have ne1 : ¬ u = v → ∃ E' ∈ refNe hint E x y, eOK2 σ E' := fun g => refNe_ok h hx hy g
  cases q
  · exact ⟨fun g => eq1 (of_decide_eq_true g), fun g => ne1 (of_decide_eq_false g)⟩
  · exact ⟨fun g => ne1 (by simpa [q_cnd] using g), fun g => eq1 (by simpa [q_cnd] using g)⟩
  · exact ⟨fun g => lt1 (of_decide_eq_true g), fun g => ge1 (Int.not_lt.mp (of_decide_eq_false g))⟩
  · exact ⟨fun g => ge1 (by simpa [q_cnd] using g), fun g => lt1 (by simpa [q_cnd] using g)⟩
  · exact ⟨fun g => gt1 (of_decide_eq_true g), fun g => le1 (Int.not_lt.mp (of_decide_eq_false g))⟩
  · exact ⟨fun g => le1 (by simpa [q_cnd] using g), fun g => gt1 (by simpa [q_cnd] using g)⟩
/-- the machine's own comparison of codes -/
theorem iv_e (z : Int) : iv [] (eI z) = (un (eI z), un (eI z)) := by
  unfold iv
  rw [eI_le, cond_true]
theorem blt_of {a b : Nat} (h : a < b) : Nat.blt a b = true := Nat.ble_eq_true_of_le h
theorem blt_not {a b : Nat} (h : ¬ a < b) : Nat.blt a b = false := by
  cases hb : Nat.blt a b with
  | false => rfl
  | true => exact absurd (Nat.le_of_ble_eq_true hb) h
theorem ltD_e {u v : Int} (hu : inR u) (hv : inR v) : ltD [] (eI u) (eI v) = some (.inl (decide (u < v))) := by
  unfold ltD
  rw [iv_e, iv_e]
  have h1 := un_eI hu
  have h2 := un_eI hv
  dsimp only
  by_cases g : u < v
  · rw [blt_of (show un (eI u) < un (eI v) by omega), cond_true, decide_eq_true g]
  · rw [blt_not (show ¬ un (eI u) < un (eI v) by omega), cond_false, Nat.ble_eq_true_of_le (show un (eI v) ≤ un (eI u) by omega), cond_true, decide_eq_false g]
theorem eqD_e {u v : Int} (hu : inR u) (hv : inR v) : eqD [] (eI u) (eI v) = some (.inl (decide (u = v))) := by
  unfold eqD
  rw [iv_e, iv_e]
  have h1 := un_eI hu
  have h2 := un_eI hv
  dsimp only
  by_cases g : u = v
  · subst g
    rw [Nat.beq_refl, cond_true, decide_eq_true rfl]
  · have hb : Nat.beq (eI u) (eI v) = false := by
      cases hb : Nat.beq (eI u) (eI v) with
      | false => rfl
      | true => exact absurd (eI_inj hu hv (Nat.eq_of_beq_eq_true hb)) g
    rw [hb, cond_false, decide_eq_false g]
    rcases Int.lt_or_le u v with k | k
    · rw [blt_of (show un (eI u) < un (eI v) by omega), cond_true]
    · rw [blt_not (show ¬ un (eI u) < un (eI v) by omega), cond_false, blt_of (show un (eI v) < un (eI u) by omega), cond_true]
theorem cmpD_e {u v : Int} (hu : inR u) (hv : inR v) (q : ClassFile.Cond) : ∃ w, cmpD [] q (eI u) (eI v) = some (.inl w) ∧ Bool.xor w (neg q) = q_cnd q u v := by
  cases q
  · exact ⟨_, eqD_e hu hv, by simp [neg, q_cnd]⟩
  · exact ⟨_, eqD_e hu hv, by simp [neg, q_cnd]⟩
  · exact ⟨_, ltD_e hu hv, by simp [neg, q_cnd]⟩
  · exact ⟨_, ltD_e hu hv, by simp [neg, q_cnd]⟩
  · exact ⟨_, ltD_e hv hu, by simp [neg, q_cnd]⟩
  · exact ⟨_, ltD_e hv hu, by simp [neg, q_cnd]⟩
/-! bounds -/
def fullR : qR := (-2147483648, 2147483647)
noncomputable def qin (lo hi : Int) : qR := bif (zle (-2147483648) lo && zle hi 2147483647) then (lo, hi) else fullR
theorem full_in {r : Int} (h : inR r) : fullR.1 ≤ r ∧ r ≤ fullR.2 := h
def masks : List Int := [1, 3, 7, 15, 31, 63, 127, 255, 511, 1023, 2047, 4095, 65535]
noncomputable def qmask (a b : Int) : Int := List.rec (motive := fun _ => Int) 2147483647 (fun m _ ih => bif (zle a m && zle b m) then m else ih) masks
/-- the bounds of an operation's result; none: it may fail -/
noncomputable def qop (k : Nat) (lx hx ly hy : Int) : Option qR := bif (zeq lx hx && zeq ly hy) then (bif (Nat.ble 8 k && zeq ly 0) then none else fZ (op k (Int32.ofInt lx) (Int32.ofInt ly)).toInt (fun r => some (r, r))) else match k with
  | 0 => some (qin (lx + ly) (hx + hy))
  | 1 => some (qin (lx - hy) (hx - ly))
  | 2 => some (qin (zmin (zmin (lx * ly) (lx * hy)) (zmin (hx * ly) (hx * hy))) (zmax (zmax (lx * ly) (lx * hy)) (zmax (hx * ly) (hx * hy))))
  | 3 => some (bif zle 0 lx then (0, bif zle 0 ly then zmin hx hy else hx) else bif zle 0 ly then (0, hy) else fullR)
  | 4 => some (bif (zle 0 lx && zle 0 ly) then (0, qmask hx hy) else fullR)
  | 5 => some (bif (zle 0 lx && zle 0 ly) then (0, qmask hx hy) else fullR)
  | 6 => some (bif (zeq lx 1 && (zeq hx 1 && (zle 0 ly && zle hy 30))) then (1, 2 ^ hy.toNat) else fullR)
  | 7 => some (bif zle 0 lx then (0, hx) else fullR)
  | 8 => bif zle 1 ly then some (bif zle 0 lx then (0, hx) else fullR) else bif zle hy (-1) then some fullR else none
  | _ => bif zle 1 ly then some (bif zle 0 lx then (0, zmin hx (hy - 1)) else (1 - hy, hy - 1)) else bif zle hy (-1) then some fullR else none
theorem bm {z : Int} (h : inR z) : z.bmod (2 ^ 32) = z := by
  obtain ⟨h1, h2⟩ := h
  show z.bmod 4294967296 = z
  rw [Int.bmod_def]
  omega
theorem nn32 {x : Int32} (h : 0 ≤ x.toInt) : (x.toBitVec.toNat : Int) = x.toInt := by
  have h1 : x.toBitVec.toInt = x.toInt := rfl
  rw [← h1] at h ⊢
  rw [BitVec.toInt_eq_toNat_cond] at h ⊢
  split
  · rfl
  · next g =>
    rw [if_neg g] at h
    have := x.toBitVec.isLt
    omega
theorem ofnn32 {x : Int32} {n : Nat} (h : x.toBitVec.toNat = n) (hn : n < 2147483648) : x.toInt = n := by
  have h1 : x.toBitVec.toInt = x.toInt := rfl
  rw [← h1, BitVec.toInt_eq_toNat_cond, h, if_pos (by omega)]
theorem and_le {x y : Int32} (h : 0 ≤ x.toInt) : 0 ≤ (x &&& y).toInt ∧ (x &&& y).toInt ≤ x.toInt := by
  have h1 := nn32 h
  have h2 := (toInt_in x).2
  have h3 : (x &&& y).toBitVec.toNat = x.toBitVec.toNat &&& y.toBitVec.toNat := by rw [Int32.toBitVec_and, BitVec.toNat_and]
  have h4 : x.toBitVec.toNat &&& y.toBitVec.toNat ≤ x.toBitVec.toNat := Nat.and_le_left
  have h5 := ofnn32 h3 (by omega)
  omega
theorem and_comm32 (x y : Int32) : x &&& y = y &&& x := by
  apply Int32.toBitVec_inj.mp
  rw [Int32.toBitVec_and, Int32.toBitVec_and, BitVec.and_comm]
theorem or_lt {x y : Int32} {k : Nat} (hk : k ≤ 31) (hx : 0 ≤ x.toInt) (hy : 0 ≤ y.toInt) (h1 : x.toInt < 2 ^ k) (h2 : y.toInt < 2 ^ k) : 0 ≤ (x ||| y).toInt ∧ (x ||| y).toInt < 2 ^ k := by
  have a1 := nn32 hx
  have a2 := nn32 hy
  have b1 : x.toBitVec.toNat < 2 ^ k := by have : ((2 ^ k : Nat) : Int) = 2 ^ k := by simp
                                           omega
  have b2 : y.toBitVec.toNat < 2 ^ k := by have : ((2 ^ k : Nat) : Int) = 2 ^ k := by simp
                                           omega
  have h3 : (x ||| y).toBitVec.toNat = x.toBitVec.toNat ||| y.toBitVec.toNat := by rw [Int32.toBitVec_or, BitVec.toNat_or]
  have h4 : x.toBitVec.toNat ||| y.toBitVec.toNat < 2 ^ k := Nat.or_lt_two_pow b1 b2
  have h6 : 2 ^ k ≤ 2 ^ 31 := Nat.pow_le_pow_right (by decide) hk
  have h5 := ofnn32 h3 (by omega)
  have : ((2 ^ k : Nat) : Int) = 2 ^ k := by simp
  omega
theorem xor_lt {x y : Int32} {k : Nat} (hk : k ≤ 31) (hx : 0 ≤ x.toInt) (hy : 0 ≤ y.toInt) (h1 : x.toInt < 2 ^ k) (h2 : y.toInt < 2 ^ k) : 0 ≤ (x ^^^ y).toInt ∧ (x ^^^ y).toInt < 2 ^ k := by
  have a1 := nn32 hx
  have a2 := nn32 hy
  have e : ((2 ^ k : Nat) : Int) = 2 ^ k := by simp
  have b1 : x.toBitVec.toNat < 2 ^ k := by omega
  have b2 : y.toBitVec.toNat < 2 ^ k := by omega
  have h3 : (x ^^^ y).toBitVec.toNat = x.toBitVec.toNat ^^^ y.toBitVec.toNat := by rw [Int32.toBitVec_xor, BitVec.toNat_xor]
  have h4 : x.toBitVec.toNat ^^^ y.toBitVec.toNat < 2 ^ k := Nat.xor_lt_two_pow b1 b2
  have h6 : 2 ^ k ≤ 2 ^ 31 := Nat.pow_le_pow_right (by decide) hk
  have h5 := ofnn32 h3 (by omega)
  omega
theorem qmask_ok (P : Int → Prop) {a b : Int} (h : ∀ k : Nat, k ≤ 31 → a < 2 ^ k → b < 2 ^ k → P (2 ^ k - 1)) (ha : a ≤ 2147483647) (hb : b ≤ 2147483647) : P (qmask a b) := by
  have key : ∀ l : List Int, (∀ m ∈ l, ∃ k : Nat, k ≤ 31 ∧ m = 2 ^ k - 1) → P (List.rec (motive := fun _ => Int) 2147483647 (fun m _ ih => bif (zle a m && zle b m) then m else ih) l) := by
    intro l
    induction l with
    | nil => intro _; exact h 31 (Nat.le_refl _) (by omega) (by omega)
    | cons m t ih =>
      intro hm
      show P (bif (zle a m && zle b m) then m else _)
      cases hb : (zle a m && zle b m) with
      | true =>
        rw [Bool.and_eq_true, zle_iff, zle_iff] at hb
        obtain ⟨k, h1, h2⟩ := hm m List.mem_cons_self
        rw [cond_true, h2]
        exact h k h1 (by omega) (by omega)
      | false => exact ih (fun m hm' => hm m (List.mem_cons_of_mem _ hm'))
  refine key masks (fun m hm => ?_)
  simp only [masks, List.mem_cons, List.not_mem_nil, or_false] at hm
  rcases hm with e | e | e | e | e | e | e | e | e | e | e | e | e
  · exact ⟨1, by decide, by rw [e]; rfl⟩
  · exact ⟨2, by decide, by rw [e]; rfl⟩
  · exact ⟨3, by decide, by rw [e]; rfl⟩
  · exact ⟨4, by decide, by rw [e]; rfl⟩
  · exact ⟨5, by decide, by rw [e]; rfl⟩
  · exact ⟨6, by decide, by rw [e]; rfl⟩
  · exact ⟨7, by decide, by rw [e]; rfl⟩
  · exact ⟨8, by decide, by rw [e]; rfl⟩
  · exact ⟨9, by decide, by rw [e]; rfl⟩
  · exact ⟨10, by decide, by rw [e]; rfl⟩
  · exact ⟨11, by decide, by rw [e]; rfl⟩
  · exact ⟨12, by decide, by rw [e]; rfl⟩
  · exact ⟨16, by decide, by rw [e]; rfl⟩
theorem shl1 {y : Int32} (h1 : 0 ≤ y.toInt) (h2 : y.toInt ≤ 30) : ((1 : Int32) <<< (y &&& 31)).toInt = 2 ^ y.toInt.toNat := by
  have key : ∀ n : Nat, n < 31 → ((1 : Int32) <<< (Int32.ofNat n &&& 31)).toInt = 2 ^ n := by decide
  have h3 : y = Int32.ofNat y.toInt.toNat := by
    apply Int32.toInt_inj.mp
    have : (nI y.toInt.toNat).toInt = _ := nI_int y.toInt.toNat
    show y.toInt = (nI y.toInt.toNat).toInt
    rw [this, Int.bmod_def]
    omega
  have := key y.toInt.toNat (by omega)
  rw [← h3] at this
  exact this
theorem shr_le {x : Int32} (y : Int32) (h : 0 ≤ x.toInt) : 0 ≤ (x >>> y).toInt ∧ (x >>> y).toInt ≤ x.toInt := by
  have e : (x >>> y).toInt = x.toInt >>> (y.toBitVec.smod 32).toNat := by
    show (x >>> y).toBitVec.toInt = _
    rw [Int32.toBitVec_shiftRight, BitVec.toInt_sshiftRight']
    rfl
  rw [e, Int.shiftRight_eq_div_pow]
  generalize (y.toBitVec.smod 32).toNat = n
  have hp : (0 : Int) < ((2 ^ n : Nat) : Int) := by have := Nat.two_pow_pos n; omega
  exact ⟨Int.ediv_nonneg h (by omega), Int.ediv_le_self _ h⟩
theorem tdiv_b {x y : Int} (hx : 0 ≤ x) (hy : 1 ≤ y) : 0 ≤ x.tdiv y ∧ x.tdiv y ≤ x := by
  rw [Int.tdiv_eq_ediv_of_nonneg hx]
  exact ⟨Int.ediv_nonneg hx (by omega), Int.ediv_le_self _ hx⟩
theorem rem_eq {x y : Int32} (hy : 1 ≤ y.toInt) : (x - x / y * y).toInt = x.toInt.tmod y.toInt := by
  have hx := toInt_in x
  have hyr := toInt_in y
  have hne : y ≠ -1 := fun e => by rw [e] at hy; exact absurd hy (by decide)
  have hd : (x / y).toInt = x.toInt.tdiv y.toInt := Int32.toInt_div_of_ne_right x y hne
  have ht : x.toInt.tmod y.toInt = x.toInt - y.toInt * x.toInt.tdiv y.toInt := Int.tmod_def _ _
  have hb : -2147483648 ≤ x.toInt.tmod y.toInt ∧ x.toInt.tmod y.toInt ≤ 2147483647 ∧ (0 ≤ x.toInt → 0 ≤ x.toInt.tmod y.toInt) ∧ (x.toInt ≤ 0 → x.toInt.tmod y.toInt ≤ 0) := by
    have h1 : x.toInt.tmod y.toInt < y.toInt := Int.tmod_lt_of_pos _ (by omega)
    have h2 : -y.toInt < x.toInt.tmod y.toInt := by
      have := Int.tmod_lt_of_pos (-x.toInt) (b := y.toInt) (by omega)
      rw [Int.neg_tmod] at this
      omega
    obtain ⟨a1, a2⟩ := hyr
    refine ⟨by omega, by omega, fun g => Int.tmod_nonneg _ g, fun g => ?_⟩
    have h3 : (-x.toInt).tmod y.toInt = -(x.toInt.tmod y.toInt) := Int.neg_tmod _ _
    have h4 : 0 ≤ (-x.toInt).tmod y.toInt := Int.tmod_nonneg _ (by omega)
    omega
  obtain ⟨a1, a2⟩ := hx
  have hm : (x / y * y).toInt = x.toInt.tdiv y.toInt * y.toInt := by
    rw [Int32.toInt_mul, hd]
    apply bm
    rw [Int.mul_comm]
    constructor
    · omega
    · omega
  rw [Int32.toInt_sub, hm, Int.mul_comm, ← ht]
  exact bm ⟨hb.1, hb.2.1⟩
