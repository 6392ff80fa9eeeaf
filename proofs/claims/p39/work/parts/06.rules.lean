/-! what the plain machine's states mean, and what is said of its steps -/
def TG : List Cond := lw_tbl.filter goodWord
def tys0 (cy : Nat → ClassId) : List (ClassId × FieldType) := [(cy 13, .byte), (cy 14, .int), (cy 15, .long), (cy 16, .boolean), (cy 17, .object "AyeJars$Jars"), (cy 18, .object "AyeJars$Trial"), (cy 19, .array .int)]
def nws : List (String × Nat × MethodName) := [("AyeJars", 9, ⟨"AyeJars$Tokens", "<init>", "()V"⟩), ("AyeJars", 18, ⟨"AyeJars$House", "<init>", "()V"⟩), ("AyeJars$House", 29, ⟨"AyeJars$Formula", "<init>", "()V"⟩), ("AyeJars", 37, ⟨"AyeJars$Jars", "<init>", "()V"⟩), ("AyeJars$Acts", 15, ⟨"AyeJars$Jars", "<init>", "()V"⟩)]
def aoW (U : State) : Prop := va_AO "AyeJars$Jars" U ∧ va_AO "AyeJars$Trial" U ∧ va_Nw (.arrayOver (.array .int)) U
/-- the class's string constant: the object, its bytes, what the statics of its class hold; all of it lies below B -/
def wordsS : String := "member breath keeps bill needs opens fade yawn draw or and not volume age loss shelf shaken day "
def wordsB : List Int32 := wordsL.map Int32.ofNat
/-- a static that may be null -/
def rvf : Nat → Value
  | 0 => .null
  | t + 1 => .ref t
def SS (a v fr B : Nat) (U : State) : Prop := vk_S 1 [96] [wordsB] (fun _ => a) (fun _ => v) (rG B) U U.heap ∧ va_Z "java/lang/String" "COMPACT_STRINGS" "Z" (.int 1) (rG B) U U.heap ∧ va_Z "jdk/internal/util/Preconditions" "SIOOBE_FORMATTER" "Ljava/util/function/BiFunction;" (rvf fr) (rG B) U U.heap
def STR (B : Nat) (U : State) : Prop := ∃ (a v fr : Nat), vk_R "AyeJars$Tokens" 61 wordsS a U ∧ SS a v fr B U
/-- what holds of the state with which a frame begins -/
def SF (dC : Nat → ClassId) (dI : Nat → Nat → Nat) (cy : Nat → ClassId) (b B : Nat) (L : List Nat) (xs : Nat → Int32) (U : State) : Prop := va_K (dC, dI) vwCl (tys0 cy) U ∧ aoW U ∧ (∀ q ∈ nws, va_Nw (.methodLinkNest q.1 q.2.1 q.2.2 "AyeJars") U) ∧ va_X b L.length xs U U.heap ∧ b < B ∧ B ≤ U.heap.size ∧ STR B U
def FF (p : Program) (s : State) (m : MethodId) (args : Array Value) (meth : Method) (c : Code) (cc : ByteArray) (nL own : Nat) (ini : Bool) (b B : Nat) (L : List Nat) (xs : Nat → Int32) (dC : Nat → ClassId) (dI : Nat → Nat → Nat) (cy : Nat → ClassId) : Prop := p.tables.exec = Jvm.exec ∧ c.code = cc ∧ c.maxLocals = nL ∧ s.vm.findClass (oN own) = some m.cls ∧ (∀ w ∈ TG, w.before args s = true) ∧ SF dC dI cy b B L xs s ∧ (ini = true → meth.name = "<init>")
def clv (sg : Nat → Int32) (b B : Nat) (lv : rK) : List (Nat × Value) := lv.map (fun q => (q.1, rv sg b B q.2))
def Wx (p : Program) (l : Launch) (e : Env) (R : Room) (s : State) (m : MethodId) (args : Array Value) (below : List Frame) (meth : Method) (c : Code) (Q : State → Prop) (sg : Nat → Int32) (b B : Nat) (cy : Nat → ClassId) (dC : Nat → ClassId) (dI : Nat → Nat → Nat) (nL : Nat) (x : rX) : Prop :=
  ∀ (aw : List rC) (H : Heap) (locs : List Loc) (ls : Array Slot), rep x.2.2.2.1 aw → va_P (dC, dI) vwCl (rW sg b B cy aw) H → H.size = B + aw.length → va_S (rG B) s.heap H locs → lv_has ls nL (clv sg b B x.2.1) → W p l e R s m args below meth c H locs x.2.2.2.2.1 x.2.2.2.2.2 Q (F0 m x.1 ls (x.2.2.1.map (rv sg b B)))
def SG (sg : Nat → Int32) (L : List Nat) (xs : Nat → Int32) : Prop := (∀ j, j < 8 → sg (j + 8) = sg j &&& 63) ∧ (∀ j t, j < 8 → t < 32 → sg (16 + (32 * j + t)) = sg j >>> (nI t &&& 31)) ∧ (∀ u, 16 ≤ u → u < 512 → sg (u + 512) = (sg u).toInt8.toInt32) ∧ (∀ j, j < L.length → L[j]? = some (cN (xs j))) ∧ L.length < 2147483648
def RetOK (cc : ByteArray) (ret : Option FieldType) (mc ms : Nat) (v : Option rV) (x : rX) : Prop := x.2.2.2.2.1 ≤ mc ∧ x.2.2.2.2.2 ≤ ms ∧ x.2.2.1 = v.toList ∧ ((v = none ∧ ret = none ∧ decode cc x.1 = .ok (.return_, 1)) ∨ (∃ n, v = some (.inl n) ∧ ok_rt ret (.inl n) = true ∧ decode cc x.1 = .ok (.ireturn, 1)) ∨ (∃ n, v = some (.inr (.inl n)) ∧ ok_rt ret (.inr (.inl n)) = true ∧ decode cc x.1 = .ok (.lreturn, 1)) ∨ (∃ n, v = some (.inr (.inr (some n))) ∧ ok_rt ret (.inr (.inr (some n))) = true ∧ decode cc x.1 = .ok (.areturn, 1)))
def CallOK (cc : ByteArray) (own mi : Nat) (As r : List rV) (x : rX) : Prop := csum r ≤ 8 ∧ ∃ (i k np rc : Nat), kf tA own i = some (k, mi, np, rc) ∧ ((k = 0 ∧ ∃ (j : Nat) (q : rC) (As' : List rV), As = .inr (.inr (some (j + 1))) :: As' ∧ x.2.2.1 = As'.reverse ++ .inr (.inr (some (j + 1))) :: r ∧ As'.length = np ∧ wget x.2.2.2.1 j = some q ∧ q.1 = rc ∧ decode cc x.1 = .ok (.invokevirtual i, 3)) ∨ (k = 1 ∧ x.2.2.1 = As.reverse ++ r ∧ As.length = np ∧ decode cc x.1 = .ok (.invokestatic i, 3)) ∨ (k ≠ 0 ∧ k ≠ 1 ∧ k ≠ 4 ∧ k ≠ 5 ∧ ∃ (j : Nat) (As' : List rV), As = .inr (.inr (some j)) :: As' ∧ x.2.2.1 = As'.reverse ++ .inr (.inr (some j)) :: r ∧ As'.length = np ∧ decode cc x.1 = .ok (.invokespecial i, 3)))
def Sem (p : Program) (l : Launch) (e : Env) (R : Room) (s : State) (m : MethodId) (args : Array Value) (below : List Frame) (meth : Method) (c : Code) (Q : State → Prop) (sg : Nat → Int32) (b B : Nat) (cy : Nat → ClassId) (dC : Nat → ClassId) (dI : Nat → Nat → Nat) (nL : Nat) (cc : ByteArray) (own : Nat) (ret : Option FieldType) (mc ms : Nat) (o : rO) (x : rX) : Prop := match o with
  | .inl x' => Wx p l e R s m args below meth c Q sg b B cy dC dI nL x' → Wx p l e R s m args below meth c Q sg b B cy dC dI nL x
  | .inr (.inl _) => True
  | .inr (.inr (.inl q)) => Wx p l e R s m args below meth c Q sg b B cy dC dI nL q.1 → Wx p l e R s m args below meth c Q sg b B cy dC dI nL q.2 → Wx p l e R s m args below meth c Q sg b B cy dC dI nL x
  | .inr (.inr (.inr (.inl v))) => RetOK cc ret mc ms v x
  | .inr (.inr (.inr (.inr q))) => CallOK cc own q.1 q.2.1 q.2.2 x
/-! what is to be known of the tables -/
def OKCl : Prop := ∀ (ci : Nat) (C : String) (T : u_T) (N : Nat), vwCl[ci]? = some (C, T, N) → (∀ w ∈ u_ws C T N, w ∈ TG) ∧ (∀ k, k < N → parseFieldDescriptor (T k).2.2.1 = some (fty ci k)) ∧ (∀ a, a < N → ∀ b, b < N → a ≠ b → (T a).2.1 ≠ (T b).2.1) ∧ Cond.instantiable C N ∈ TG ∧ Cond.initialized C ∈ TG ∧ N = fnn ci ∧ ci < 13 ∧ (∀ k, k < N → fk (fty ci k) ≠ 4)
def OKF : Prop := ∀ (own i ci k fi kd : Nat), ((own, i), (ci, k, fi, kd)) ∈ tF → ∃ (C : String) (T : u_T) (N : Nat), vwCl[ci]? = some (C, T, N) ∧ k < N ∧ Cond.fieldLink (oN own) i (T k).1 (T k).2.1 (T k).2.2.1 ∈ TG ∧ fk (fty ci k) = kd ∧ ((fi = 0 ∧ (T k).2.2.2 = false) ∨ (fi = 1 ∧ (T k).2.2.2 = true ∧ (T k).1 = oN own) ∨ fi = 2)
def OKC : Prop := ∀ (own i ci : Nat), ((own, i), ci) ∈ tC → (ci < 13 → ∃ (C : String) (T : u_T) (N : Nat), vwCl[ci]? = some (C, T, N) ∧ Cond.classLink (oN own) i C ∈ TG) ∧ (ci = 19 → Cond.classLink (oN own) i "[[I" ∈ TG)
def OKK : Prop := ∀ (own i n : Nat), ((own, i), n) ∈ tK → (own < 100 → Cond.constant (oN own) i (nI n) ∈ TG) ∧ (100 ≤ own → Cond.constantLong (oN (own - 100)) i (lN n) ∈ TG)
def OKA4 : Prop := ∀ (own i mi np rc : Nat), ((own, i), (4, mi, np, rc)) ∈ tA → Cond.methodLink (oN own) i Lib.objectInit ∈ TG
def OKA5 : Prop := ∀ (own i mi np rc : Nat), ((own, i), (5, mi, np, rc)) ∈ tA → Cond.methodLink (oN own) i arraycopyName ∈ TG
def OKW : Prop := Cond.instanceMethod Lib.objectInit ∈ TG ∧ Cond.code Lib.objectInit ⟨#[0xb1]⟩ 1 none ∈ TG ∧ Cond.native arraycopyName ∈ TG ∧ Cond.static arraycopyName ∈ TG ∧ Cond.initialized "java/lang/System" ∈ TG ∧ Cond.arrayClass .byte ∈ TG ∧ Cond.arrayClass .int ∈ TG ∧ Cond.arrayClass .long ∈ TG ∧ Cond.arrayClass .boolean ∈ TG
def OT : Prop := OKCl ∧ OKF ∧ OKC ∧ OKK ∧ OKA4 ∧ OKA5 ∧ OKW
/-! locals -/
theorem clv_mem {sg : Nat → Int32} {b B : Nat} {lv : rK} {i : Nat} {v : rV} (h : lget lv i = some v) : (i, rv sg b B v) ∈ clv sg b B lv := List.mem_map.mpr ⟨(i, v), lget_mem h, rfl⟩
theorem clv_at {sg : Nat → Int32} {b B : Nat} {lv : rK} {i nL : Nat} {v : rV} {ls : Array Slot} (hl : lv_has ls nL (clv sg b B lv)) (h : lget lv i = some v) : ls[i]? = some (.val (rv sg b B v)) := hl.2.2 (i, rv sg b B v) (clv_mem h)
theorem nbeq (a b : Nat) : (a == b) = Nat.beq a b := by
  cases h : Nat.beq a b with
  | true => rw [Nat.eq_of_beq_eq_true h]; exact beq_self_eq_true b
  | false =>
    cases h2 : (a == b) with
    | false => rfl
    | true =>
      have := eq_of_beq h2
      subst this
      rw [Nat.beq_refl] at h
      cases h
theorem clv_filter {sg : Nat → Int32} {b B : Nat} (lv : rK) (i : Nat) : (clv sg b B lv).filter (fun q => !(q.1 == i) && !(q.1 + 1 == i && q.2.category == 2)) = clv sg b B (lv.filter (fun q => !(Nat.beq q.1 i) && !(Nat.beq (Nat.succ q.1) i && Nat.beq (ct q.2) 2))) := by
  unfold clv
  rw [List.filter_map]
  congr 1
  apply List.filter_congr
  intro q _
  show (!(q.1 == i) && !(q.1 + 1 == i && (rv sg b B q.2).category == 2)) = _
  rw [ct_eq, nbeq, nbeq, nbeq]
theorem clv_filter2 {sg : Nat → Int32} {b B : Nat} (lv : rK) (i : Nat) : (clv sg b B lv).filter (fun q => !(q.1 == i) && (!(q.1 == i + 1) && !(q.1 + 1 == i && q.2.category == 2))) = clv sg b B (lv.filter (fun q => !(Nat.beq q.1 i) && (!(Nat.beq q.1 (Nat.succ i)) && !(Nat.beq (Nat.succ q.1) i && Nat.beq (ct q.2) 2)))) := by
  unfold clv
  rw [List.filter_map]
  congr 1
  apply List.filter_congr
  intro q _
  show (!(q.1 == i) && (!(q.1 == i + 1) && !(q.1 + 1 == i && (rv sg b B q.2).category == 2))) = _
  rw [ct_eq, nbeq, nbeq, nbeq, nbeq]
theorem lput_eq {β : Type} (lv : rK) (i : Nat) (v : rV) (k : rK → β) : lput lv i v k = k ((i, v) :: lv.filter (fun q => !(Nat.beq q.1 i) && !(Nat.beq (Nat.succ q.1) i && Nat.beq (ct q.2) 2))) := by
  unfold lput
  generalize hk : (fun t => k ((i, v) :: t)) = k'
  have : k ((i, v) :: lv.filter (fun q => !(Nat.beq q.1 i) && !(Nat.beq (Nat.succ q.1) i && Nat.beq (ct q.2) 2))) = k' (lv.filter (fun q => !(Nat.beq q.1 i) && !(Nat.beq (Nat.succ q.1) i && Nat.beq (ct q.2) 2))) := by rw [← hk]
  rw [this]
  clear this hk
  induction lv generalizing k' with
  | nil => rfl
  | cons q t ih =>
    rw [List.filter_cons]
    cases hb : (!(Nat.beq q.1 i) && !(Nat.beq (Nat.succ q.1) i && Nat.beq (ct q.2) 2)) with
    | true =>
      show (bif (!(Nat.beq q.1 i) && !(Nat.beq (Nat.succ q.1) i && Nat.beq (ct q.2) 2)) then _ else _) = _
      rw [hb]
      exact ih (fun t => k' (q :: t))
    | false =>
      show (bif (!(Nat.beq q.1 i) && !(Nat.beq (Nat.succ q.1) i && Nat.beq (ct q.2) 2)) then _ else _) = _
      rw [hb]
      exact ih k'
theorem lput2_eq {β : Type} (lv : rK) (i : Nat) (v : rV) (k : rK → β) : lput2 lv i v k = k ((i, v) :: lv.filter (fun q => !(Nat.beq q.1 i) && (!(Nat.beq q.1 (Nat.succ i)) && !(Nat.beq (Nat.succ q.1) i && Nat.beq (ct q.2) 2)))) := by
  unfold lput2
  generalize hk : (fun t => k ((i, v) :: t)) = k'
  have : k ((i, v) :: lv.filter (fun q => !(Nat.beq q.1 i) && (!(Nat.beq q.1 (Nat.succ i)) && !(Nat.beq (Nat.succ q.1) i && Nat.beq (ct q.2) 2)))) = k' (lv.filter (fun q => !(Nat.beq q.1 i) && (!(Nat.beq q.1 (Nat.succ i)) && !(Nat.beq (Nat.succ q.1) i && Nat.beq (ct q.2) 2)))) := by rw [← hk]
  rw [this]
  clear this hk
  induction lv generalizing k' with
  | nil => rfl
  | cons q t ih =>
    rw [List.filter_cons]
    cases hb : (!(Nat.beq q.1 i) && (!(Nat.beq q.1 (Nat.succ i)) && !(Nat.beq (Nat.succ q.1) i && Nat.beq (ct q.2) 2))) with
    | true =>
      show (bif (!(Nat.beq q.1 i) && (!(Nat.beq q.1 (Nat.succ i)) && !(Nat.beq (Nat.succ q.1) i && Nat.beq (ct q.2) 2))) then _ else _) = _
      rw [hb]
      exact ih (fun t => k' (q :: t))
    | false =>
      show (bif (!(Nat.beq q.1 i) && (!(Nat.beq q.1 (Nat.succ i)) && !(Nat.beq (Nat.succ q.1) i && Nat.beq (ct q.2) 2))) then _ else _) = _
      rw [hb]
      exact ih k'
