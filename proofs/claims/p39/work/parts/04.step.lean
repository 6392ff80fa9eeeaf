/-! one instruction of the plain machine -/
/-- the signs of the class's string constant -/
def wordsL : List Nat := [109, 101, 109, 98, 101, 114, 32, 98, 114, 101, 97, 116, 104, 32, 107, 101, 101, 112, 115, 32, 98, 105, 108, 108, 32, 110, 101, 101, 100, 115, 32, 111, 112, 101, 110, 115, 32, 102, 97, 100, 101, 32, 121, 97, 119, 110, 32, 100, 114, 97, 119, 32, 111, 114, 32, 97, 110, 100, 32, 110, 111, 116, 32, 118, 111, 108, 117, 109, 101, 32, 97, 103, 101, 32, 108, 111, 115, 115, 32, 115, 104, 101, 108, 102, 32, 115, 104, 97, 107, 101, 110, 32, 100, 97, 121, 32]
noncomputable def lput {β : Type} (lv : rK) (i : Nat) (v : rV) (k : rK → β) : β := List.rec (motive := fun _ => (rK → β) → β) (fun k => k []) (fun q _ ih k => bif (!(Nat.beq q.1 i) && !(Nat.beq (Nat.succ q.1) i && Nat.beq (ct q.2) 2)) then ih (fun t => k (q :: t)) else ih k) lv (fun t => k ((i, v) :: t))
noncomputable def lput2 {β : Type} (lv : rK) (i : Nat) (v : rV) (k : rK → β) : β := List.rec (motive := fun _ => (rK → β) → β) (fun k => k []) (fun q _ ih k => bif (!(Nat.beq q.1 i) && (!(Nat.beq q.1 (Nat.succ i)) && !(Nat.beq (Nat.succ q.1) i && Nat.beq (ct q.2) 2))) then ih (fun t => k (q :: t)) else ih k) lv (fun t => k ((i, v) :: t))
noncomputable def kf {α : Type} (l : List ((Nat × Nat) × α)) (a i : Nat) : Option α := List.rec (motive := fun _ => Option α) none (fun q _ ih => bif (Nat.beq q.1.1 a && Nat.beq q.1.2 i) then some q.2 else ih) l
theorem kf_mem {α : Type} {l : List ((Nat × Nat) × α)} {a i : Nat} {v : α} (h : kf l a i = some v) : ((a, i), v) ∈ l := by
  induction l with
  | nil => cases h
  | cons q t ih =>
    have h' : (bif (Nat.beq q.1.1 a && Nat.beq q.1.2 i) then some q.2 else kf t a i) = some v := h
    cases hb : (Nat.beq q.1.1 a && Nat.beq q.1.2 i) with
    | true =>
      rw [hb] at h'
      cases h'
      rw [Bool.and_eq_true] at hb
      have h1 := Nat.eq_of_beq_eq_true hb.1
      have h2 := Nat.eq_of_beq_eq_true hb.2
      subst h1
      subst h2
      exact List.mem_cons_self
    | false =>
      rw [hb] at h'
      exact List.mem_cons_of_mem _ (ih h')
/-- the ints' own operations -/
def op (k : Nat) (x y : Int32) : Int32 := match k with
  | 0 => x + y
  | 1 => x - y
  | 2 => x * y
  | 3 => x &&& y
  | 4 => x ||| y
  | 5 => x ^^^ y
  | 6 => x <<< (y &&& 31)
  | 7 => x >>> (y &&& 31)
  | 8 => x / y
  | _ => x - x / y * y
/-- what is known of an operation on an unknown -/
noncomputable def sp (k x y : Nat) : Option Nat := match k with
  | 0 => bif Nat.beq x 0 then some y else bif Nat.beq y 0 then some x else none
  | 3 => bif (Nat.beq y 63 && (Nat.ble 4294967296 x && Nat.ble x 4294967303)) then some (Nat.add x 8) else none
  | 7 => bif Nat.beq x 0 then some 0 else bif (Nat.ble 4294967296 x && (Nat.ble x 4294967303 && Nat.ble y 31)) then some (Nat.add 4294967312 (Nat.add (Nat.mul 32 (Nat.sub x 4294967296)) y)) else none
  | _ => none
/-- an unknown of a narrow kind is split; another ends the walk -/
noncomputable def spl (E : rE) (n : Nat) : Option rO := bif (Nat.ble 4294967296 n && Nat.ble (Nat.sub (iv E n).2 (iv E n).1) 64) then some (.inr (.inl (Nat.sub n 4294967296, Nat.succ (iv E n).1))) else none
noncomputable def aop (k : Nat) (E : rE) (pc : Nat) (lv : rK) (st : List rV) (aw : rD) (c z : Nat) : Option rO := match st with
  | .inl y :: .inl x :: r => match nd E x with
    | some a => match nd E y with
      | some d => bif (Nat.ble 8 k && Nat.beq d 0) then none else fN (cN (op k (nI a) (nI d))) (fun n => some (.inl (Nat.add pc 1, lv, .inl n :: r, aw, c, z)))
      | none => match sp k x y with
        | some n => some (.inl (Nat.add pc 1, lv, .inl n :: r, aw, c, z))
        | none => spl E y
    | none => match sp k x y with
      | some n => some (.inl (Nat.add pc 1, lv, .inl n :: r, aw, c, z))
      | none => spl E x
  | _ => none
/-- the longs' own operations -/
def opL (k : Nat) (x y : Int64) : Int64 := match k with
  | 0 => x + y
  | 1 => x - y
  | 2 => x &&& y
  | 3 => x ||| y
  | _ => x * y
def opS (k : Nat) (x : Int64) (y : Int32) : Int64 := match k with
  | 0 => x <<< (y.toInt64 &&& 63)
  | 1 => x >>> (y.toInt64 &&& 63)
  | _ => (x.toUInt64 >>> (y.toInt64.toUInt64 &&& Int64.toUInt64 63)).toInt64
noncomputable def aopL (k : Nat) (pc : Nat) (lv : rK) (st : List rV) (aw : rD) (c z : Nat) : Option rO := match st with
  | .inr (.inl y) :: .inr (.inl x) :: r => fN (cL (opL k (lN x) (lN y))) (fun n => some (.inl (Nat.add pc 1, lv, .inr (.inl n) :: r, aw, c, z)))
  | _ => none
noncomputable def aopS (k : Nat) (E : rE) (pc : Nat) (lv : rK) (st : List rV) (aw : rD) (c z : Nat) : Option rO := match st with
  | .inl y :: .inr (.inl x) :: r => match nd E y with
    | some d => fN (cL (opS k (lN x) (nI d))) (fun n => some (.inl (Nat.add pc 1, lv, .inr (.inl n) :: r, aw, c, z)))
    | none => none
  | _ => none
/-- is x less than y: known, or which unknown to split where, or neither -/
noncomputable def ltD (E : rE) (x y : Nat) : Option (Bool ⊕ (Nat × Nat)) :=
  bif Nat.blt (iv E x).2 (iv E y).1 then some (.inl true) else bif Nat.ble (iv E y).2 (iv E x).1 then some (.inl false) else
  bif (Nat.beq (iv E y).1 (iv E y).2 && Nat.ble 4294967296 x) then some (.inr (Nat.sub x 4294967296, (iv E y).1)) else
  bif (Nat.beq (iv E x).1 (iv E x).2 && Nat.ble 4294967296 y) then some (.inr (Nat.sub y 4294967296, Nat.succ (iv E x).1)) else none
noncomputable def eqD (E : rE) (x y : Nat) : Option (Bool ⊕ (Nat × Nat)) := bif Nat.beq x y then some (.inl true) else
  bif Nat.blt (iv E x).2 (iv E y).1 then some (.inl false) else bif Nat.blt (iv E y).2 (iv E x).1 then some (.inl false) else
  bif (Nat.ble (iv E x).2 (iv E y).1 && Nat.ble (iv E y).2 (iv E x).1) then some (.inl true) else
  bif (Nat.beq (iv E y).1 (iv E y).2 && Nat.ble 4294967296 x) then some (.inr (Nat.sub x 4294967296, bif Nat.blt (iv E x).1 (iv E y).1 then (iv E y).1 else Nat.succ (iv E y).1)) else
  bif (Nat.beq (iv E x).1 (iv E x).2 && Nat.ble 4294967296 y) then some (.inr (Nat.sub y 4294967296, bif Nat.blt (iv E y).1 (iv E x).1 then (iv E x).1 else Nat.succ (iv E x).1)) else none
noncomputable def cmpD (E : rE) (q : ClassFile.Cond) (x y : Nat) : Option (Bool ⊕ (Nat × Nat)) := match q with
  | .eq => eqD E x y
  | .ne => eqD E x y
  | .lt => ltD E x y
  | .ge => ltD E x y
  | .gt => ltD E y x
  | .le => ltD E y x
def neg (q : ClassFile.Cond) : Bool := match q with
  | .ne => true
  | .ge => true
  | .le => true
  | _ => false
def tg (pc : Nat) (off : Int) : Option Nat := match Int.add (Int.ofNat pc) off with
  | .ofNat t => some t
  | .negSucc _ => none
noncomputable def abr (E : rE) (q : ClassFile.Cond) (x y : Nat) (off : Int) (pc : Nat) (lv : rK) (r : List rV) (aw : rD) (c z : Nat) : Option rO := match tg pc off with
  | none => none
  | some t => match cmpD E q x y with
    | some (.inl w) => bif Bool.xor w (neg q) then some (.inl (t, lv, r, aw, c, z)) else some (.inl (Nat.add pc 3, lv, r, aw, c, z))
    | some (.inr s) => some (.inr (.inl s))
    | none => some (.inr (.inr (.inl ((t, lv, r, aw, c, z), (Nat.add pc 3, lv, r, aw, c, z)))))
/-- is v of an array's kind -/
def vt (t : Nat) (v : rV) : Bool := match v with
  | .inl _ => Nat.ble t 14 || Nat.beq t 16
  | .inr (.inl _) => Nat.beq t 15
  | .inr (.inr _) => Nat.ble 17 t
noncomputable def ald (t1 t2 : Nat) (L : List Nat) (E : rE) (pc : Nat) (lv : rK) (st : List rV) (aw : rD) (c z : Nat) : Option rO := match st with
  | .inl i :: .inr (.inr (some k)) :: r => match nd E i with
    | some n => match k with
      | 0 => match rget L n with
        | some v => bif (Nat.beq t1 14 && (Nat.ble n 2147483647 && Nat.ble v 4294967295)) then some (.inl (Nat.add pc 1, lv, .inl v :: r, aw, c, z)) else none
        | none => none
      | k + 1 => match wget aw k with
        | some q => bif (Nat.beq q.1 t1 || Nat.beq q.1 t2) then (match rget q.2 n with
          | some v => bif (Nat.ble n 2147483647 && vt q.1 v) then some (.inl (Nat.add pc 1, lv, v :: r, aw, c, z)) else none
          | none => none) else none
        | none => none
    | none => spl E i
  | _ => none
/-- may v lie in an array of this kind -/
def ok_el (t : Nat) (v : rV) : Bool := match v with
  | .inl n => Nat.beq t 14 || (Nat.beq t 16 && Nat.ble n 1) || (Nat.beq t 13 && (Nat.ble n 127 || (Nat.ble 4294967168 n && Nat.ble n 4294967295)))
  | .inr (.inl _) => Nat.beq t 15
  | _ => false
noncomputable def ast (t1 t2 : Nat) (E : rE) (pc : Nat) (lv : rK) (st : List rV) (aw : rD) (c z : Nat) : Option rO := match st with
  | v :: .inl i :: .inr (.inr (some (k + 1))) :: r => match nd E i with
    | some n => match wget aw k with
      | some q => bif ((Nat.beq q.1 t1 || Nat.beq q.1 t2) && (ok_el q.1 v && (Nat.blt n q.2.length && Nat.ble n 2147483647))) then rset v q.2 n (fun l => wset (q.1, l) aw k (fun aw => some (.inl (Nat.add pc 1, lv, r, aw, c, z)))) else none
      | none => none
    | none => spl E i
  | _ => none
/-- a reference into an array of references: the arrays 17 and 18 hold objects of the classes 6 and 10 -/
noncomputable def aasr (E : rE) (pc : Nat) (lv : rK) (st : List rV) (aw : rD) (c z : Nat) : Option rO := match st with
  | .inr (.inr (some (j + 1))) :: .inl i :: .inr (.inr (some (k + 1))) :: r => match nd E i with
    | some n => match wget aw k with
      | some q => match wget aw j with
        | some o => bif (((Nat.beq q.1 17 && Nat.beq o.1 6) || (Nat.beq q.1 18 && Nat.beq o.1 10)) && (Nat.blt n q.2.length && Nat.ble n 2147483647)) then rset (.inr (.inr (some (j + 1)))) q.2 n (fun l => wset (q.1, l) aw k (fun aw => some (.inl (Nat.add pc 1, lv, r, aw, c, z)))) else none
        | none => none
      | none => none
    | none => spl E i
  | _ => none
/-- may v lie in a field of this kind: 0 int, 1 boolean, 2 long, else a reference -/
def ok_fi (t : Nat) (v : rV) : Bool := match v with
  | .inl n => Nat.beq t 0 || (Nat.beq t 1 && Nat.ble n 1)
  | .inr (.inl _) => Nat.beq t 2
  | .inr (.inr (some _)) => Nat.beq t 3
  | _ => false
/-- a field's kind, and its first value -/
def fk (ty : FieldType) : Nat := match ty with
  | .int => 0
  | .boolean => 1
  | .long => 2
  | .object _ => 3
  | .array _ => 3
  | _ => 4
def fd (k : Nat) : rV := match k with
  | 0 => .inl 0
  | 1 => .inl 0
  | 2 => .inr (.inl 0)
  | _ => .inr (.inr none)
def fty (ci : Nat) : Nat → FieldType := match ci with
  | 0 => tyX0
  | 1 => tyX1
  | 2 => tyX2
  | 3 => tyX3
  | 4 => tyX4
  | 5 => tyX5
  | 6 => tyX6
  | 7 => tyX7
  | 8 => tyX8
  | 9 => tyX9
  | 10 => tyX10
  | 11 => tyX11
  | _ => tyX12
def fnn (ci : Nat) : Nat := match ci with
  | 0 => 4
  | 1 => 3
  | 2 => 6
  | 3 => 15
  | 4 => 7
  | 5 => 10
  | 6 => 4
  | 7 => 10
  | 8 => 9
  | 9 => 7
  | 10 => 7
  | 11 => 14
  | _ => 66
noncomputable def blank_ (ci : Nat) : List rV := (List.range (fnn ci)).map (fun k => fd (fk (fty ci k)))
def ztag (t : ArrayType) : Nat := match t with
  | .byte => 13
  | .int => 14
  | .long => 15
  | .boolean => 16
  | _ => 0
def zval (t : Nat) : rV := match t with
  | 15 => .inr (.inl 0)
  | _ => .inl 0
/-- tables: a class's fields by the index in the using class: (class, field, final, kind); classes; constants; calls: (kind, method, parameters, class of the receiver) -/
abbrev rT : Type := List ((Nat × Nat) × (Nat × Nat × Nat × Nat)) × List ((Nat × Nat) × Nat) × List ((Nat × Nat) × Nat) × List ((Nat × Nat) × (Nat × Nat × Nat × Nat))
noncomputable def cut (n : Nat) (st : List rV) (acc : List rV) : Option (List rV × List rV) := Nat.rec (motive := fun _ => List rV → List rV → Option (List rV × List rV)) (fun st acc => some (acc, st)) (fun _ ih st acc => match st with
  | v :: r => ih r (v :: acc)
  | [] => none) n st acc
def csum (st : List rV) : Nat := (st.map ct).sum
/-- what a method may answer -/
def ok_rt (ret : Option FieldType) (v : rV) : Bool := match ret with
  | some .int => (match v with
    | .inl _ => true
    | _ => false)
  | some .boolean => (match v with
    | .inl n => Nat.ble n 1
    | _ => false)
  | some .long => (match v with
    | .inr (.inl _) => true
    | _ => false)
  | some (.object _) => (match v with
    | .inr (.inr (some _)) => true
    | _ => false)
  | _ => false
noncomputable def acopy (E : rE) (pc : Nat) (lv : rK) (st : List rV) (aw : rD) (c z : Nat) : Option rO := match st with
  | .inl n :: .inl dp :: .inr (.inr (some (k + 1))) :: .inl sp :: .inr (.inr (some (j + 1))) :: r => match nd E n with
    | some n => match nd E dp with
      | some dp => match nd E sp with
        | some sp => match wget aw k with
          | some q => match wget aw j with
            | some o => bif (Nat.beq q.1 14 && Nat.beq o.1 14 && Nat.beq sp 0 && Nat.beq dp 0 && Nat.beq n q.2.length && Nat.beq n o.2.length && Nat.ble n 2147483647 && Nat.ble (csum r) 8) then wset (14, o.2) aw k (fun aw => some (.inl (Nat.add pc 3, lv, r, aw, c, z))) else none
            | none => none
          | none => none
        | none => none
      | none => none
    | none => none
  | _ => none
noncomputable def acall (T : rT) (own idx kind : Nat) (E : rE) (pc : Nat) (lv : rK) (st : List rV) (aw : rD) (c z : Nat) : Option rO := match kf T.2.2.2 own idx with
  | some (k, mi, np, rc) => match k with
    | 0 => bif Nat.beq kind 0 then (match cut np st [] with
      | some (As, .inr (.inr (some (j + 1))) :: r) => (match wget aw j with
        | some q => bif Nat.beq q.1 rc then (bif Nat.ble (csum r) 8 then some (.inr (.inr (.inr (.inr (mi, .inr (.inr (some (j + 1))) :: As, r))))) else none) else none
        | none => none)
      | _ => none) else none
    | 1 => bif Nat.beq kind 1 then (match cut np st [] with
      | some (As, r) => bif Nat.ble (csum r) 8 then some (.inr (.inr (.inr (.inr (mi, As, r))))) else none
      | none => none) else none
    | 4 => bif Nat.beq kind 2 then (match st with
      | .inr (.inr (some _)) :: r => bif Nat.ble (csum r) 8 then some (.inl (Nat.add pc 3, lv, r, aw, c, z)) else none
      | _ => none) else none
    | 5 => bif Nat.beq kind 1 then acopy E pc lv st aw c z else none
    | _ => bif Nat.beq kind 2 then (match cut np st [] with
      | some (As, .inr (.inr (some j)) :: r) => bif Nat.ble (csum r) 8 then some (.inr (.inr (.inr (.inr (mi, .inr (.inr (some j)) :: As, r))))) else none
      | _ => none) else none
  | none => none
/-- which of the keys lies within: for a switch over pairs -/
noncomputable def lkS (E : rE) (x : Nat) (ps : List (Int × Int)) : Option (Nat × Nat) := List.rec (motive := fun _ => Option (Nat × Nat)) none (fun q _ ih => bif (Nat.ble (iv E x).1 (bz (Int32.ofInt q.1)) && Nat.ble (bz (Int32.ofInt q.1)) (iv E x).2) then some (Nat.sub x 4294967296, bif Nat.blt (iv E x).1 (bz (Int32.ofInt q.1)) then bz (Int32.ofInt q.1) else Nat.succ (iv E x).1) else ih) ps
/-- a handler: tables, class, answer, constructor?, cells, slots, the script's length; then the state -/
abbrev rH : Type := rT → Nat → Option FieldType → Bool → Nat → Nat → List Nat → rE → Nat → rK → List rV → rD → Nat → Nat → Option rO
noncomputable def h_ildI (i w : Nat) : rH := fun _ _ _ _ _ _ _ _ pc lv st aw c z => match lget lv i with
  | some (.inl v) => some (.inl (Nat.add pc w, lv, .inl v :: st, aw, c, z))
  | _ => none
noncomputable def h_ildA (i w : Nat) : rH := fun _ _ _ _ _ _ _ _ pc lv st aw c z => match lget lv i with
  | some (.inr (.inr (some v))) => some (.inl (Nat.add pc w, lv, .inr (.inr (some v)) :: st, aw, c, z))
  | _ => none
noncomputable def h_ildL (i w : Nat) : rH := fun _ _ _ _ _ _ _ _ pc lv st aw c z => match lget lv i with
  | some (.inr (.inl v)) => some (.inl (Nat.add pc w, lv, .inr (.inl v) :: st, aw, c, z))
  | _ => none
noncomputable def h_istI (i w : Nat) : rH := fun _ _ _ _ _ _ _ _ pc lv st aw c z => match st with
  | .inl v :: r => lput lv i (.inl v) (fun lv => some (.inl (Nat.add pc w, lv, r, aw, c, z)))
  | _ => none
noncomputable def h_istA (i w : Nat) : rH := fun _ _ _ _ _ _ _ _ pc lv st aw c z => match st with
  | .inr (.inr (some v)) :: r => lput lv i (.inr (.inr (some v))) (fun lv => some (.inl (Nat.add pc w, lv, r, aw, c, z)))
  | _ => none
noncomputable def h_istL (i w : Nat) : rH := fun _ _ _ _ _ _ _ _ pc lv st aw c z => match st with
  | .inr (.inl v) :: r => lput2 lv i (.inr (.inl v)) (fun lv => some (.inl (Nat.add pc w, lv, r, aw, c, z)))
  | _ => none
noncomputable def h_con (n w : Nat) : rH := fun _ _ _ _ _ _ _ _ pc lv st aw c z => some (.inl (Nat.add pc w, lv, .inl n :: st, aw, c, z))
noncomputable def h_conL (n w : Nat) : rH := fun _ _ _ _ _ _ _ _ pc lv st aw c z => some (.inl (Nat.add pc w, lv, .inr (.inl n) :: st, aw, c, z))
noncomputable def h_ldcw (i : Nat) : rH := fun T own _ _ _ _ _ _ pc lv st aw c z => match kf T.2.2.1 own i with
  | some n => bif Nat.ble n 4294967295 then some (.inl (Nat.add pc 3, lv, .inl n :: st, aw, c, z)) else none
  | none => none
noncomputable def h_ldc2 (i : Nat) : rH := fun T own _ _ _ _ _ _ pc lv st aw c z => match kf T.2.2.1 (Nat.add 100 own) i with
  | some n => some (.inl (Nat.add pc 3, lv, .inr (.inl n) :: st, aw, c, z))
  | none => none
noncomputable def h_iinc (i : Nat) (k : Int) : rH := fun _ _ _ _ _ _ _ E pc lv st aw c z => match lget lv i with
  | some (.inl v) => (match nd E v with
    | some n => fN (cN (nI n + Int32.ofInt k)) (fun n => lput lv i (.inl n) (fun lv => some (.inl (Nat.add pc 3, lv, st, aw, c, z))))
    | none => none)
  | _ => none
noncomputable def h_goto (off : Int) : rH := fun _ _ _ _ _ _ _ _ pc lv st aw c z => match tg pc off with
  | some t => some (.inl (t, lv, st, aw, c, z))
  | none => none
noncomputable def h_dup : rH := fun _ _ _ _ _ _ _ _ pc lv st aw c z => match st with
  | v :: r => bif Nat.beq (ct v) 1 then some (.inl (Nat.add pc 1, lv, v :: v :: r, aw, c, z)) else none
  | _ => none
noncomputable def h_dup2 : rH := fun _ _ _ _ _ _ _ _ pc lv st aw c z => match st with
  | v :: w :: r => bif (Nat.beq (ct v) 1 && Nat.beq (ct w) 1) then some (.inl (Nat.add pc 1, lv, v :: w :: v :: w :: r, aw, c, z)) else none
  | _ => none
noncomputable def h_aop (k : Nat) : rH := fun _ _ _ _ _ _ _ E pc lv st aw c z => aop k E pc lv st aw c z
noncomputable def h_aopL (k : Nat) : rH := fun _ _ _ _ _ _ _ _ pc lv st aw c z => aopL k pc lv st aw c z
noncomputable def h_aopS (k : Nat) : rH := fun _ _ _ _ _ _ _ E pc lv st aw c z => aopS k E pc lv st aw c z
noncomputable def h_lcmp : rH := fun _ _ _ _ _ _ _ _ pc lv st aw c z => match st with
  | .inr (.inl y) :: .inr (.inl x) :: r => fN (cN (lg_cmp (lN x) (lN y))) (fun n => some (.inl (Nat.add pc 1, lv, .inl n :: r, aw, c, z)))
  | _ => none
noncomputable def h_l2i : rH := fun _ _ _ _ _ _ _ _ pc lv st aw c z => match st with
  | .inr (.inl x) :: r => fN (cN (lN x).toInt32) (fun n => some (.inl (Nat.add pc 1, lv, .inl n :: r, aw, c, z)))
  | _ => none
noncomputable def h_i2b : rH := fun _ _ _ _ _ _ _ E pc lv st aw c z => match st with
  | .inl x :: r => (match nd E x with
    | some a => fN (cN (nI a).toInt8.toInt32) (fun n => some (.inl (Nat.add pc 1, lv, .inl n :: r, aw, c, z)))
    | none => none)
  | _ => none
noncomputable def h_i2l : rH := fun _ _ _ _ _ _ _ E pc lv st aw c z => match st with
  | .inl x :: r => (match nd E x with
    | some a => fN (cL (nI a).toInt64) (fun n => some (.inl (Nat.add pc 1, lv, .inr (.inl n) :: r, aw, c, z)))
    | none => none)
  | _ => none
def opU (x y : Int32) : Int32 := (x.toUInt32 >>> (y.toUInt32 &&& Int32.toUInt32 31)).toInt32
noncomputable def h_ush : rH := fun _ _ _ _ _ _ _ E pc lv st aw c z => match st with
  | .inl y :: .inl x :: r => (match nd E x with
    | some a => (match nd E y with
      | some d => fN (cN (opU (nI a) (nI d))) (fun n => some (.inl (Nat.add pc 1, lv, .inl n :: r, aw, c, z)))
      | none => none)
    | none => none)
  | _ => none
def opD (k : Nat) (x y : Int64) : Int64 := match k with
  | 0 => x / y
  | _ => x - x / y * y
noncomputable def h_aopD (k : Nat) : rH := fun _ _ _ _ _ _ _ _ pc lv st aw c z => match st with
  | .inr (.inl y) :: .inr (.inl x) :: r => bif Nat.beq (cL (lN y)) 0 then none else fN (cL (opD k (lN x) (lN y))) (fun n => some (.inl (Nat.add pc 1, lv, .inr (.inl n) :: r, aw, c, z)))
  | _ => none
noncomputable def h_pop : rH := fun _ _ _ _ _ _ _ _ pc lv st aw c z => match st with
  | v :: r => bif Nat.beq (ct v) 1 then some (.inl (Nat.add pc 1, lv, r, aw, c, z)) else none
  | _ => none
noncomputable def h_if1 (q : ClassFile.Cond) (off : Int) : rH := fun _ _ _ _ _ _ _ E pc lv st aw c z => match st with
  | .inl x :: r => abr E q x 0 off pc lv r aw c z
  | _ => none
noncomputable def h_if2 (q : ClassFile.Cond) (off : Int) : rH := fun _ _ _ _ _ _ _ E pc lv st aw c z => match st with
  | .inl y :: .inl x :: r => abr E q x y off pc lv r aw c z
  | _ => none
noncomputable def h_tsw (d lo hi : Int) (offs : Array Int) : rH := fun _ _ _ _ _ _ _ E pc lv st aw c z => match st with
  | .inl x :: r => bif (Nat.blt (iv E x).2 (bz (Int32.ofInt lo)) || Nat.blt (bz (Int32.ofInt hi)) (iv E x).1) then (match tg pc d with
      | some t => bif (decide ((Int32.ofInt lo).toInt = lo) && decide ((Int32.ofInt hi).toInt = hi)) then some (.inl (t, lv, r, aw, c, z)) else none
      | none => none) else (match nd E x with
    | some n => (match offs[((nI n).toInt - lo).toNat]? with
      | some o => (match tg pc o with
        | some t => bif (decide (lo ≤ (nI n).toInt) && decide ((nI n).toInt ≤ hi)) then some (.inl (t, lv, r, aw, c, z)) else none
        | none => none)
      | none => none)
    | none => bif Nat.blt (iv E x).1 (bz (Int32.ofInt lo)) then some (.inr (.inl (Nat.sub x 4294967296, bz (Int32.ofInt lo)))) else bif Nat.blt (bz (Int32.ofInt hi)) (iv E x).2 then some (.inr (.inl (Nat.sub x 4294967296, Nat.succ (bz (Int32.ofInt hi))))) else spl E x)
  | _ => none
noncomputable def h_lsw (d : Int) (ps : Array (Int × Int)) : rH := fun _ _ _ _ _ _ _ E pc lv st aw c z => match st with
  | .inl x :: r => bif (ps.toList.zip (ps.toList.drop 1)).all (fun (a, next) => a.1 < next.1) then (match nd E x with
    | some n => (match tg pc (Op.lookupswitch.offset ps.toList d (nI n).toInt) with
      | some t => some (.inl (t, lv, r, aw, c, z))
      | none => none)
    | none => (match lkS E x ps.toList with
      | some s => some (.inr (.inl s))
      | none => bif ps.toList.all (fun q => decide ((Int32.ofInt q.1).toInt = q.1)) then (match tg pc d with
        | some t => some (.inl (t, lv, r, aw, c, z))
        | none => none) else none)) else none
  | _ => none
noncomputable def h_ald (t1 t2 : Nat) : rH := fun _ _ _ _ _ _ L E pc lv st aw c z => ald t1 t2 L E pc lv st aw c z
noncomputable def h_aald : rH := fun _ _ _ _ _ _ L E pc lv st aw c z => match (match ald 17 19 L E pc lv st aw c z with | some o => some o | none => ald 18 18 L E pc lv st aw c z) with
  | some (.inl (pc, lv, .inr (.inr (some k)) :: r, aw, c, z)) => some (.inl (pc, lv, .inr (.inr (some k)) :: r, aw, c, z))
  | some (.inr w) => some (.inr w)
  | _ => none
noncomputable def h_ast (t1 t2 : Nat) : rH := fun _ _ _ _ _ _ _ E pc lv st aw c z => ast t1 t2 E pc lv st aw c z
noncomputable def h_aasr : rH := fun _ _ _ _ _ _ _ E pc lv st aw c z => aasr E pc lv st aw c z
noncomputable def h_alen : rH := fun _ _ _ _ _ _ L _ pc lv st aw c z => match st with
  | .inr (.inr (some k)) :: r => (match k with
    | 0 => fN L.length (fun n => some (.inl (Nat.add pc 1, lv, .inl n :: r, aw, c, z)))
    | k + 1 => (match wget aw k with
      | some q => bif (Nat.ble 13 q.1 && (Nat.ble q.1 19 && Nat.ble q.2.length 4294967295)) then fN q.2.length (fun n => some (.inl (Nat.add pc 1, lv, .inl n :: r, aw, c, z))) else none
      | none => none))
  | _ => none
noncomputable def h_getf (i : Nat) : rH := fun T own _ _ _ _ _ _ pc lv st aw c z => match st with
  | .inr (.inr (some (j + 1))) :: r => (match kf T.1 own i with
    | some (ci, k, _) => (match wget aw j with
      | some q => bif Nat.beq q.1 ci then (match rget q.2 k with
        | some v => some (.inl (Nat.add pc 3, lv, v :: r, aw, c, z))
        | none => none) else none
      | none => none)
    | none => none)
  | _ => none
noncomputable def h_putf (i : Nat) : rH := fun T own _ ini _ _ _ _ pc lv st aw c z => match st with
  | v :: .inr (.inr (some (j + 1))) :: r => (match kf T.1 own i with
    | some (ci, k, fi, kd) => (match wget aw j with
      | some q => bif (Nat.beq q.1 ci && (ok_fi kd v && (Nat.blt k q.2.length && (Nat.beq fi 0 || (Nat.beq fi 1 && ini))))) then rset v q.2 k (fun l => wset (q.1, l) aw j (fun aw => some (.inl (Nat.add pc 3, lv, r, aw, c, z)))) else none
      | none => none)
    | none => none)
  | _ => none
noncomputable def h_new (i : Nat) : rH := fun T own _ _ mc ms _ _ pc lv st aw c z => match kf T.2.1 own i with
  | some ci => bif (Nat.blt ci 13 && (Nat.ble (Nat.add c 1) mc && Nat.ble (Nat.add z (fnn ci)) ms)) then wsnoc (ci, blank_ ci) aw (fun aw' => some (.inl (Nat.add pc 3, lv, .inr (.inr (some (Nat.succ aw.1))) :: st, aw', Nat.add c 1, Nat.add z (fnn ci)))) else none
  | none => none
noncomputable def h_newa (t : ArrayType) : rH := fun _ _ _ _ mc ms _ E pc lv st aw c z => match st with
  | .inl x :: r => (match nd E x with
    | some n => bif (Nat.ble 13 (ztag t) && (Nat.ble n 100000 && (Nat.ble (Nat.add c 1) mc && Nat.ble (Nat.add z n) ms))) then wsnoc (ztag t, List.replicate n (zval (ztag t))) aw (fun aw' => some (.inl (Nat.add pc 2, lv, .inr (.inr (some (Nat.succ aw.1))) :: r, aw', Nat.add c 1, Nat.add z n))) else none
    | none => none)
  | _ => none
noncomputable def h_anew (i : Nat) : rH := fun T own _ _ mc ms _ E pc lv st aw c z => match st with
  | .inl x :: r => (match kf T.2.1 own i with
    | some ci => (match nd E x with
      | some n => bif ((Nat.beq ci 6 || Nat.beq ci 10) && (Nat.ble n 100000 && (Nat.ble (Nat.add c 1) mc && Nat.ble (Nat.add z n) ms))) then wsnoc (bif Nat.beq ci 6 then 17 else 18, List.replicate n (.inr (.inr none))) aw (fun aw' => some (.inl (Nat.add pc 3, lv, .inr (.inr (some (Nat.succ aw.1))) :: r, aw', Nat.add c 1, Nat.add z n))) else none
      | none => none)
    | none => none)
  | _ => none
noncomputable def wsn {β : Type} (n : Nat) (v : rC) : rD → (rD → β) → β := Nat.rec (motive := fun _ => rD → (rD → β) → β) (fun D K => K D) (fun _ ih D K => wsnoc v D (fun D => ih D K)) n
noncomputable def h_mnew (i d : Nat) : rH := fun T own _ _ mc ms _ E pc lv st aw c z => match st with
  | .inl y :: .inl x :: r => (match kf T.2.1 own i with
    | some ci => (match nd E x with
      | some n => (match nd E y with
        | some k => bif (Nat.beq d 2 && (Nat.beq ci 19 && (Nat.ble n 1000 && (Nat.ble k 1000 && (Nat.ble (Nat.add c (Nat.add 1 n)) mc && Nat.ble (Nat.add z (Nat.add n (Nat.mul n k))) ms))))) then wsnoc (19, (List.range n).map (fun j => .inr (.inr (some (Nat.add aw.1 (Nat.add 2 j)))))) aw (fun a1 => wsn n (14, List.replicate k (.inl 0)) a1 (fun a2 => some (.inl (Nat.add pc 4, lv, .inr (.inr (some (Nat.succ aw.1))) :: r, a2, Nat.add (Nat.add c 1) n, Nat.add (Nat.add z n) (Nat.mul n k))))) else none
        | none => none)
      | none => none)
    | none => none)
  | _ => none
noncomputable def h_call (i kind : Nat) : rH := fun T own _ _ _ _ _ E pc lv st aw c z => acall T own i kind E pc lv st aw c z
noncomputable def h_retI : rH := fun _ _ ret _ mc ms _ _ _ _ st _ c z => match st with
  | .inl v :: [] => bif (ok_rt ret (.inl v) && (Nat.ble c mc && Nat.ble z ms)) then some (.inr (.inr (.inr (.inl (some (.inl v)))))) else none
  | _ => none
noncomputable def h_retL : rH := fun _ _ ret _ mc ms _ _ _ _ st _ c z => match st with
  | .inr (.inl v) :: [] => bif (ok_rt ret (.inr (.inl v)) && (Nat.ble c mc && Nat.ble z ms)) then some (.inr (.inr (.inr (.inl (some (.inr (.inl v))))))) else none
  | _ => none
noncomputable def h_retA : rH := fun _ _ ret _ mc ms _ _ _ _ st _ c z => match st with
  | .inr (.inr (some v)) :: [] => bif (ok_rt ret (.inr (.inr (some v))) && (Nat.ble c mc && Nat.ble z ms)) then some (.inr (.inr (.inr (.inl (some (.inr (.inr (some v)))))))) else none
  | _ => none
def no_rt (ret : Option FieldType) : Bool := match ret with
  | none => true
  | _ => false
noncomputable def h_retV : rH := fun _ _ ret _ mc ms _ _ _ _ st _ c z => match st with
  | [] => bif (no_rt ret && (Nat.ble c mc && Nat.ble z ms)) then some (.inr (.inr (.inr (.inl none)))) else none
  | _ => none
/-- an instruction's length (0: any), and its handler -/
noncomputable def disp (ins : Instr) : Option (Nat × rH) := match ins with
  | .iload_n i => some (1, h_ildI i.val 1)
  | .iload i => some (2, h_ildI i 2)
  | .aload_n i => some (1, h_ildA i.val 1)
  | .aload i => some (2, h_ildA i 2)
  | .lload_n i => some (1, h_ildL i.val 1)
  | .istore_n i => some (1, h_istI i.val 1)
  | .istore i => some (2, h_istI i 2)
  | .astore_n i => some (1, h_istA i.val 1)
  | .lstore_n i => some (1, h_istL i.val 1)
  | .iconst i => some (1, h_con (cN (Int32.ofInt i)) 1)
  | .bipush i => some (2, h_con (cN (Int8.ofInt i).toInt32) 2)
  | .sipush i => some (3, h_con (cN (Int16.ofInt i).toInt32) 3)
  | .lconst i => some (1, h_conL i.val 1)
  | .ldc_w i => some (3, h_ldcw i)
  | .ldc2_w i => some (3, h_ldc2 i)
  | .iinc i k => some (3, h_iinc i k)
  | .goto off => some (3, h_goto off)
  | .dup => some (1, h_dup)
  | .pop => some (1, h_pop)
  | .lload i => some (2, h_ildL i 2)
  | .astore i => some (2, h_istA i 2)
  | .lstore i => some (2, h_istL i 2)
  | .i2l => some (1, h_i2l)
  | .iushr => some (1, h_ush)
  | .lmul => some (1, h_aopL 4)
  | .ldiv => some (1, h_aopD 0)
  | .lrem => some (1, h_aopD 1)
  | .dup2 => some (1, h_dup2)
  | .iadd => some (1, h_aop 0)
  | .isub => some (1, h_aop 1)
  | .imul => some (1, h_aop 2)
  | .iand => some (1, h_aop 3)
  | .ior => some (1, h_aop 4)
  | .ixor => some (1, h_aop 5)
  | .ishl => some (1, h_aop 6)
  | .ishr => some (1, h_aop 7)
  | .idiv => some (1, h_aop 8)
  | .irem => some (1, h_aop 9)
  | .ladd => some (1, h_aopL 0)
  | .lsub => some (1, h_aopL 1)
  | .land => some (1, h_aopL 2)
  | .lor => some (1, h_aopL 3)
  | .lshl => some (1, h_aopS 0)
  | .lshr => some (1, h_aopS 1)
  | .lushr => some (1, h_aopS 2)
  | .lcmp => some (1, h_lcmp)
  | .l2i => some (1, h_l2i)
  | .i2b => some (1, h_i2b)
  | .ifCond q off => some (3, h_if1 q off)
  | .if_icmp q off => some (3, h_if2 q off)
  | .tableswitch d lo hi offs => some (0, h_tsw d lo hi offs)
  | .lookupswitch d ps => some (0, h_lsw d ps)
  | .iaload => some (1, h_ald 14 14)
  | .baload => some (1, h_ald 13 16)
  | .laload => some (1, h_ald 15 15)
  | .aaload => some (1, h_aald)
  | .iastore => some (1, h_ast 14 14)
  | .bastore => some (1, h_ast 13 16)
  | .lastore => some (1, h_ast 15 15)
  | .aastore => some (1, h_aasr)
  | .arraylength => some (1, h_alen)
  | .getfield i => some (3, h_getf i)
  | .putfield i => some (3, h_putf i)
  | .new i => some (3, h_new i)
  | .newarray t => some (2, h_newa t)
  | .anewarray i => some (3, h_anew i)
  | .multianewarray i d => some (4, h_mnew i d)
  | .invokevirtual i => some (3, h_call i 0)
  | .invokestatic i => some (3, h_call i 1)
  | .invokespecial i => some (3, h_call i 2)
  | .ireturn => some (1, h_retI)
  | .lreturn => some (1, h_retL)
  | .areturn => some (1, h_retA)
  | .return_ => some (1, h_retV)
  | _ => none
/-! a whole method -/
/-- a method: its class, its bytes, its instructions, its locals, its answer, is it a constructor, the cells and slots that it makes -/
abbrev rM : Type := Nat × ByteArray × (Nat → Option (Instr × Nat)) × Nat × Option FieldType × Bool × Nat × Nat
def mOwn (M : rM) : Nat := M.1
def mBy (M : rM) : ByteArray := M.2.1
def mTab (M : rM) : Nat → Option (Instr × Nat) := M.2.2.1
def mLoc (M : rM) : Nat := M.2.2.2.1
def mRet (M : rM) : Option FieldType := M.2.2.2.2.1
def mIni (M : rM) : Bool := M.2.2.2.2.2.1
def mC (M : rM) : Nat := M.2.2.2.2.2.2.1
def mS (M : rM) : Nat := M.2.2.2.2.2.2.2
/-- a table of instructions, as a tree -/
def nT (p : Nat) (v : Instr × Nat) (l r : Nat → Option (Instr × Nat)) : Nat → Option (Instr × Nat) := fun pc => bif Nat.beq pc p then some v else bif Nat.blt pc p then l pc else r pc
def nE : Nat → Option (Instr × Nat) := fun _ => none
/-- the locals that an instruction writes lie among the method's -/
def stOK (n : Nat) (ins : Instr) : Bool := match ins with
  | .istore_n i => Nat.blt i.val n
  | .istore i => Nat.blt i n
  | .astore_n i => Nat.blt i.val n
  | .lstore_n i => Nat.blt (Nat.succ i.val) n
  | .astore i => Nat.blt i n
  | .lstore i => Nat.blt (Nat.succ i) n
  | .iinc i _ => Nat.blt i n
  | _ => true
def okT (cc : ByteArray) (n : Nat) (t : Nat → Option (Instr × Nat)) : Prop := ∀ (pc : Nat) (q : Instr × Nat), t pc = some q → decode cc pc = .ok q ∧ stOK n q.1 = true
theorem okE {cc : ByteArray} {n : Nat} : okT cc n nE := fun _ _ h => by cases h
theorem okN {cc : ByteArray} {n p : Nat} {v : Instr × Nat} {l r : Nat → Option (Instr × Nat)} (hl : okT cc n l) (hv : decode cc p = .ok v) (hs : stOK n v.1 = true) (hr : okT cc n r) : okT cc n (nT p v l r) := by
  intro pc q h
  unfold nT at h
  cases h1 : Nat.beq pc p with
  | true =>
    rw [h1, cond_true] at h
    cases h
    rw [Nat.eq_of_beq_eq_true h1]
    exact ⟨hv, hs⟩
  | false =>
    rw [h1, cond_false] at h
    cases h2 : Nat.blt pc p with
    | true =>
      rw [h2, cond_true] at h
      exact hl pc q h
    | false =>
      rw [h2, cond_false] at h
      exact hr pc q h
/-- a string constant, and what is asked of it: its length, or the char at a local's place -/
noncomputable def strS (E : rE) (M : rM) (pc : Nat) (lv : rK) (st : List rV) (aw : rD) (c z : Nat) : Option rO := bif (Nat.beq (mOwn M) 9 && (Nat.ble (csum st) 8 && (Nat.ble c (mC M) && Nat.ble z (mS M)))) then (match mTab M (Nat.add pc 2) with
  | some (.invokevirtual i, w) => bif (Nat.beq i 63 && Nat.beq w 3) then some (.inl (Nat.add pc 5, lv, .inl 96 :: st, aw, c, z)) else none
  | some (.iload i, w) => bif Nat.beq w 2 then (match mTab M (Nat.add pc 4) with
    | some (.invokevirtual j, w2) => bif (Nat.beq j 68 && Nat.beq w2 3) then (match lget lv i with
      | some (.inl n) => (match nd E n with
        | some k => (match rget wordsL k with
          | some v => some (.inl (Nat.add pc 7, lv, .inl v :: st, aw, c, z))
          | none => none)
        | none => none)
      | _ => none) else none
    | _ => none) else none
  | _ => none) else none
def isStr (q : Instr × Nat) : Bool := match q.1 with
  | .ldc i => Nat.beq i 61 && Nat.beq q.2 2
  | _ => false
noncomputable def step (T : rT) (L : List Nat) (M : rM) (E : rE) (pc : Nat) (lv : rK) (st : List rV) (aw : rD) (c z : Nat) : Option rO := match mTab M pc with
  | some q => bif isStr q then strS E M pc lv st aw c z else (match disp q.1 with
    | some h => bif (Nat.beq h.1 0 || Nat.beq h.1 q.2) then h.2 T (mOwn M) (mRet M) (mIni M) (mC M) (mS M) L E pc lv st aw c z else none
    | none => none)
  | none => none
def cat2 (a b : Option (List rF)) : Option (List rF) := match a with
  | none => none
  | some x => match b with
    | none => none
    | some y => some (x ++ y)
noncomputable def argsL (As : List rV) : Nat → rK := List.rec (motive := fun _ => Nat → rK) (fun _ => []) (fun v _ ih i => (i, v) :: ih (Nat.add i (ct v))) As
def asum (As : List rV) : Nat := (As.map ct).sum
abbrev rN : Type := Nat → rM → rE → rX → Option (List rF)
noncomputable def runL (ih : rN) (d : Nat) (M : rM) (pc : Nat) (lv : rK) (r : List rV) (c z : Nat) (ls : List rF) : Option (List rF) := List.rec (motive := fun _ => Option (List rF)) (some []) (fun f _ acc => cat2 (ih d M f.1 (pc, lv, f.2.1.toList ++ r, f.2.2, c, z)) acc) ls
noncomputable def runC (ih : rN) (d : Nat) (M M' : rM) (E : rE) (pc : Nat) (lv : rK) (As r : List rV) (aw : rD) (c z : Nat) : Option (List rF) := Nat.rec (motive := fun _ => Option (List rF)) none (fun d' _ =>
  bif (Nat.ble (asum As) (mLoc M') && (Nat.ble (mLoc M') 80 && (Nat.ble (Nat.add c (mC M')) (mC M) && Nat.ble (Nat.add z (mS M')) (mS M)))) then (match ih d' M' E (0, argsL As 0, [], aw, 0, 0) with
    | none => none
    | some ls => runL ih d M (Nat.add pc 3) lv r (Nat.add c (mC M')) (Nat.add z (mS M')) ls) else none) d
noncomputable def runS (ih : rN) (d : Nat) (M : rM) (E : rE) (x : rX) (j w : Nat) : Option (List rF) := match rget E j with
  | some q => cat2 (ih d M (E.set j (q.1, Nat.pred w)) x) (ih d M (E.set j (w, q.2)) x)
  | none => none
noncomputable def runB (T : rT) (mt : Nat → Option rM) (L : List Nat) (ih : rN) (d : Nat) (M : rM) (E : rE) (pc : Nat) (lv : rK) (st : List rV) (aw : rD) (c z : Nat) : Option (List rF) := match step T L M E pc lv st aw c z with
  | none => none
  | some (.inl x') => ih d M E x'
  | some (.inr (.inl (j, w))) => runS ih d M E (pc, lv, st, aw, c, z) j w
  | some (.inr (.inr (.inl (x1, x2)))) => cat2 (ih d M E x1) (ih d M E x2)
  | some (.inr (.inr (.inr (.inl v)))) => some [(E, v, aw)]
  | some (.inr (.inr (.inr (.inr (mi, As, r))))) => (match mt mi with
    | none => none
    | some M' => runC ih d M M' E pc lv As r aw c z)
noncomputable def run (T : rT) (mt : Nat → Option rM) (L : List Nat) (n : Nat) : rN :=
  Nat.rec (motive := fun _ => rN) (fun _ _ _ _ => none) (fun _ ih d M E x => fN x.1 (fun pc => runB T mt L ih d M E pc x.2.1 x.2.2.1 x.2.2.2.1 x.2.2.2.2.1 x.2.2.2.2.2)) n
