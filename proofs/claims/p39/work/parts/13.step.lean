/-! one step of the plain machine is a step of the machine -/
theorem len_ok {α : Type} {k len : Nat} {x : Option α} {o : α} (h : (bif (Nat.beq k 0 || Nat.beq k len) then x else none) = some o) : x = some o ∧ (k = 0 ∨ k = len) := by
  cases hb : (Nat.beq k 0 || Nat.beq k len) with
  | false => rw [hb] at h; cases h
  | true =>
    rw [hb, cond_true] at h
    rw [Bool.or_eq_true] at hb
    exact ⟨h, hb.imp Nat.eq_of_beq_eq_true Nat.eq_of_beq_eq_true⟩
theorem sp_no {k x y : Nat} (h : 8 ≤ k) : sp k x y = none := by
  unfold sp
  split
  · omega
  · omega
  · omega
  · rfl
set_option maxHeartbeats 4000000 in
theorem step_ok {p : Program} {l : Launch} {e : Env} {R : Room} {s : State} {m : MethodId} {args : Array Value} {below : List Frame} {meth : Method} {c : Code} {Q : State → Prop} {sg : Nat → Int32} {b B : Nat} {L : List Nat} {xs : Nat → Int32} {dC : Nat → ClassId} {dI : Nat → Nat → Nat} {cy : Nat → ClassId} {M : rM} {E : rE} {pc : Nat} {lv : rK} {st : List rV} {aw : rD} {cn z : Nat} {o : rO} (hR : R.cells = mC M ∧ R.slots = mS M) (hF : 1 ≤ R.frames ∧ 8 + (nativeFrameWords "java/lang/System" "arraycopy" 5 + 11) ≤ R.locals ∧ 20 ≤ R.locals) (hz : OKZ) (hF8 : 8 ≤ R.frames ∧ 1600 ≤ R.locals) (F : FF p s m args meth c (mBy M) (mLoc M) (mOwn M) (mIni M) b B L xs dC dI cy) (hO : OT) (hs : SG sg L xs) (hE : eOK sg E) (hT : okT (mBy M) (mLoc M) (mTab M)) (ho : mOwn M < 100) (h : step tT L M E pc lv st aw cn z = some o) : Sem p l e R s m args below meth c Q sg b B cy dC dI (mLoc M) (mBy M) (mOwn M) (mRet M) (mC M) (mS M) o (pc, lv, st, aw, cn, z) := by
  unfold step at h
  split at h
  · next q hq =>
    cases his : isStr q with
    | true =>
      rw [his, cond_true] at h
      exact s_str hz hR hF8 F hE hT (by rw [hq, isStr_ok his]) h
    | false =>
    rw [his, cond_false] at h
    obtain ⟨ins, len⟩ := q
    obtain ⟨hd, hst⟩ := hT pc (ins, len) hq
    obtain ⟨hx, hb, -⟩ := id F
    have blt : ∀ {a b : Nat}, Nat.blt a b = true → a < b := fun h => Nat.le_of_ble_eq_true h
    cases ins <;> first | (exfalso; simp [disp] at h; done) | (replace h := len_ok h; obtain ⟨h, hl⟩ := h; try dsimp only at h; try dsimp only at hl; try dsimp only at hst)
    case iload_n i => cases (show len = 1 by omega); exact s_ildI (fun x H locs cn z ls rest h1 k => lv_iload_n hx hb hd rfl h1 k) h
    case iload i => cases (show len = 2 by omega); exact s_ildI (fun x H locs cn z ls rest h1 k => lv_iload hx hb hd h1 k) h
    case aload_n i => cases (show len = 1 by omega); exact s_ildA (fun x H locs cn z ls rest h1 k => lv_aload_n hx hb hd rfl h1 k) h
    case aload i => cases (show len = 2 by omega); exact s_ildA (fun x H locs cn z ls rest h1 k => lv_aload hx hb hd h1 k) h
    case lload_n i => cases (show len = 1 by omega); exact s_ildL (fun x H locs cn z ls rest h1 k => lv_lload_n hx hb hd rfl h1 k) h
    case istore_n i => cases (show len = 1 by omega); exact s_istI (fun x H locs cn z ls rest lv lv' h1 h2 k => lv_istore_n hx hb hd rfl h1 (blt hst) h2 k) h
    case istore i => cases (show len = 2 by omega); exact s_istI (fun x H locs cn z ls rest lv lv' h1 h2 k => lv_istore hx hb hd h1 (blt hst) h2 k) h
    case astore_n i => cases (show len = 1 by omega); exact s_istA (fun x H locs cn z ls rest lv lv' h1 h2 k => lv_astore_n hx hb hd rfl h1 (blt hst) h2 k) h
    case lstore_n i => cases (show len = 1 by omega); exact s_istL (fun x H locs cn z ls rest lv lv' h1 h2 k => lv_lstore_n hx hb hd rfl h1 (blt hst) h2 k) h
    case iconst i => cases (show len = 1 by omega); exact s_con (ri_cN _) (fun H locs cn z ls rest k => lv_iconst hx hb hd rfl k) h
    case bipush i => cases (show len = 2 by omega); exact s_con (ri_cN _) (fun H locs cn z ls rest k => lv_bipush hx hb hd rfl k) h
    case sipush i => cases (show len = 3 by omega); exact s_con (ri_cN _) (fun H locs cn z ls rest k => lv_sipush hx hb hd rfl k) h
    case lconst i => cases (show len = 1 by omega); exact s_conL rfl (fun H locs cn z ls rest k => lv_lconst hx hb hd (by match i with | 0 => rfl | 1 => rfl) k) h
    case ldc_w i => cases (show len = 3 by omega); exact s_ldcw F hO hd ho h
    case ldc2_w i => cases (show len = 3 by omega); exact s_ldc2 F hO hd h
    case iinc i k => cases (show len = 3 by omega); exact s_iinc F hE hd (blt hst) h
    case goto off => cases (show len = 3 by omega); exact s_goto F hd h
    case dup => cases (show len = 1 by omega); exact s_dup F hd h
    case dup2 => cases (show len = 1 by omega); exact s_dup2 F hd h
    case iadd => cases (show len = 1 by omega); exact s_aop (k := 0) hs hE (fun x y H locs cn z ls rest _ k => lv_iadd hx hb hd k) (fun h8 => absurd h8 (by decide)) h
    case isub => cases (show len = 1 by omega); exact s_aop (k := 1) hs hE (fun x y H locs cn z ls rest _ k => lv_isub hx hb hd k) (fun h8 => absurd h8 (by decide)) h
    case imul => cases (show len = 1 by omega); exact s_aop (k := 2) hs hE (fun x y H locs cn z ls rest _ k => lv_imul hx hb hd k) (fun h8 => absurd h8 (by decide)) h
    case iand => cases (show len = 1 by omega); exact s_aop (k := 3) hs hE (fun x y H locs cn z ls rest _ k => lv_iand hx hb hd k) (fun h8 => absurd h8 (by decide)) h
    case ior => cases (show len = 1 by omega); exact s_aop (k := 4) hs hE (fun x y H locs cn z ls rest _ k => lv_ior hx hb hd k) (fun h8 => absurd h8 (by decide)) h
    case ixor => cases (show len = 1 by omega); exact s_aop (k := 5) hs hE (fun x y H locs cn z ls rest _ k => lv_ixor hx hb hd k) (fun h8 => absurd h8 (by decide)) h
    case ishl => cases (show len = 1 by omega); exact s_aop (k := 6) hs hE (fun x y H locs cn z ls rest _ k => lv_ishl hx hb hd k) (fun h8 => absurd h8 (by decide)) h
    case ishr => cases (show len = 1 by omega); exact s_aop (k := 7) hs hE (fun x y H locs cn z ls rest _ k => lv_ishr hx hb hd k) (fun h8 => absurd h8 (by decide)) h
    case idiv => cases (show len = 1 by omega); exact s_aop (k := 8) hs hE (fun x y H locs cn z ls rest h0 k => lv_idiv hx hb hd (h0 (by decide)) k) (fun h8 x y => sp_no h8) h
    case irem => cases (show len = 1 by omega); exact s_aop (k := 9) hs hE (fun x y H locs cn z ls rest h0 k => lv_irem hx hb hd (h0 (by decide)) k) (fun h8 x y => sp_no h8) h
    case ladd => cases (show len = 1 by omega); exact s_aopL (k := 0) (fun x y H locs cn z ls rest k => lv_ladd hx hb hd k) h
    case lsub => cases (show len = 1 by omega); exact s_aopL (k := 1) (fun x y H locs cn z ls rest k => lv_lsub hx hb hd k) h
    case land => cases (show len = 1 by omega); exact s_aopL (k := 2) (fun x y H locs cn z ls rest k => lv_land hx hb hd k) h
    case lor => cases (show len = 1 by omega); exact s_aopL (k := 3) (fun x y H locs cn z ls rest k => lv_lor hx hb hd k) h
    case lshl => cases (show len = 1 by omega); exact s_aopS (k := 0) hE (fun x y H locs cn z ls rest k => lv_lshl hx hb hd rfl k) h
    case lshr => cases (show len = 1 by omega); exact s_aopS (k := 1) hE (fun x y H locs cn z ls rest k => lv_lshr hx hb hd rfl k) h
    case lushr => cases (show len = 1 by omega); exact s_aopS (k := 2) hE (fun x y H locs cn z ls rest k => lv_lushr hx hb hd rfl k) h
    case lcmp => cases (show len = 1 by omega); exact s_lcmp F hd h
    case pop => cases (show len = 1 by omega); exact s_pop F hd h
    case lload i => cases (show len = 2 by omega); exact s_ildL (fun x H locs cn z ls rest h1 k => lv_lload hx hb hd h1 k) h
    case astore i => cases (show len = 2 by omega); exact s_istA (fun x H locs cn z ls rest lv lv' h1 h2 k => lv_astore hx hb hd h1 (blt hst) h2 k) h
    case lstore i => cases (show len = 2 by omega); exact s_istL (fun x H locs cn z ls rest lv lv' h1 h2 k => lv_lstore hx hb hd h1 (blt hst) h2 k) h
    case i2l => cases (show len = 1 by omega); exact s_i2l F hE hd h
    case iushr => cases (show len = 1 by omega); exact s_ush F hE hd h
    case lmul => cases (show len = 1 by omega); exact s_aopL (k := 4) (fun x y H locs cn z ls rest k => lv_lmul hx hb hd k) h
    case ldiv => cases (show len = 1 by omega); exact s_aopD (k := 0) (fun x y H locs cn z ls rest h0 k => lv_ldiv hx hb hd h0 k) h
    case lrem => cases (show len = 1 by omega); exact s_aopD (k := 1) (fun x y H locs cn z ls rest h0 k => lv_lrem hx hb hd h0 k) h
    case l2i => cases (show len = 1 by omega); exact s_l2i F hd h
    case i2b => cases (show len = 1 by omega); exact s_i2b F hE hd h
    case ifCond q off => cases (show len = 3 by omega); exact s_if1 F hE hd h
    case if_icmp q off => cases (show len = 3 by omega); exact s_if2 F hE hd h
    case tableswitch d lo hi offs => exact s_tsw F hE hd h
    case lookupswitch d ps => exact s_lsw F hE hd h
    case iaload => cases (show len = 1 by omega); exact s_iald F hs hE hd h
    case baload => cases (show len = 1 by omega); exact s_bald F hs hE hd h
    case laload => cases (show len = 1 by omega); exact s_lald F hs hE hd h
    case aaload => cases (show len = 1 by omega); exact s_aald F hs hE hd h
    case iastore => cases (show len = 1 by omega); exact s_iast F hs hE hd h
    case bastore => cases (show len = 1 by omega); exact s_bast F hs hE hd h
    case lastore => cases (show len = 1 by omega); exact s_last F hs hE hd h
    case aastore => cases (show len = 1 by omega); exact s_aasr F hE hd h
    case arraylength => cases (show len = 1 by omega); exact s_alen F hs hd h
    case getfield i => cases (show len = 3 by omega); exact s_getf F hO hd h
    case putfield i => cases (show len = 3 by omega); exact s_putf F hO hd h
    case new i => cases (show len = 3 by omega); exact s_new hR F hO hd h
    case newarray t => cases (show len = 2 by omega); exact s_newa hR F hO hE hd h
    case anewarray i => cases (show len = 3 by omega); exact s_anew hR F hO hE hd h
    case multianewarray i d => cases (show len = 4 by omega); exact s_mnew hR F hO hE hd h
    case invokevirtual i => cases (show len = 3 by omega); exact s_call hF F hO hE (fun _ => hd) (fun q => by cases q) (fun q => by cases q) h
    case invokestatic i => cases (show len = 3 by omega); exact s_call hF F hO hE (fun q => by cases q) (fun _ => hd) (fun q => by cases q) h
    case invokespecial i => cases (show len = 3 by omega); exact s_call hF F hO hE (fun q => by cases q) (fun q => by cases q) (fun _ => hd) h
    case ireturn => cases (show len = 1 by omega); exact s_retI hd h
    case lreturn => cases (show len = 1 by omega); exact s_retL hd h
    case areturn => cases (show len = 1 by omega); exact s_retA hd h
    case return_ => cases (show len = 1 by omega); exact s_retV hd h
  · cases h
