theorem q_ins_ok {H : qT} {md : List (Nat × Nat)} {σ : List Int} {E : qE} {C : qC} {lv : qK} {st : List qV} {lw : rK} {sw : List rV} {D : rD} {aw : List rC} (hw : HW H) (hr : qrl H σ E C lv st lw sw D aw) {scr : Bool} {L : List Nat} (hsc : scOK scr L σ) {hint own : Nat} {ret : Option FieldType} {ini : Bool} {mc ms pc c z : Nat} (hcz : c ≤ mc ∧ z ≤ ms) {ins : Instr} {hh : Nat × rH} (hd : disp ins = some hh) {o : qO} (h : q_ins H scr md hint own ret ins E C pc lv st = some o) : qsnd H md σ aw c z o (hh.2 tT own ret ini mc ms L [] pc lw sw D c z) := by
  cases ins <;> first | (have h : (none : Option qO) = some o := h; cases h; done) | (have hd := Option.some.inj hd; subst hd)
  case iload_n i =>
    obtain ⟨ss, h1, h2⟩ := mapL h
    subst h2
    exact q_ildI_ok (T := tT) (own := own) (ret := ret) (ini := ini) (mc := mc) (ms := ms) (L := L) hr h1
  case iload i =>
    obtain ⟨ss, h1, h2⟩ := mapL h
    subst h2
    exact q_ildI_ok (T := tT) (own := own) (ret := ret) (ini := ini) (mc := mc) (ms := ms) (L := L) hr h1
  case aload_n i =>
    obtain ⟨ss, h1, h2⟩ := mapL h
    subst h2
    exact q_ildA_ok (T := tT) (own := own) (ret := ret) (ini := ini) (mc := mc) (ms := ms) (L := L) hr h1
  case aload i =>
    obtain ⟨ss, h1, h2⟩ := mapL h
    subst h2
    exact q_ildA_ok (T := tT) (own := own) (ret := ret) (ini := ini) (mc := mc) (ms := ms) (L := L) hr h1
  case lload_n i =>
    obtain ⟨ss, h1, h2⟩ := mapL h
    subst h2
    exact q_ildL_ok (T := tT) (own := own) (ret := ret) (ini := ini) (mc := mc) (ms := ms) (L := L) hr h1
  case lload i =>
    obtain ⟨ss, h1, h2⟩ := mapL h
    subst h2
    exact q_ildL_ok (T := tT) (own := own) (ret := ret) (ini := ini) (mc := mc) (ms := ms) (L := L) hr h1
  case istore_n i =>
    obtain ⟨ss, h1, h2⟩ := mapL h
    subst h2
    exact q_istI_ok (T := tT) (own := own) (ret := ret) (ini := ini) (mc := mc) (ms := ms) (L := L) hr h1
  case istore i =>
    obtain ⟨ss, h1, h2⟩ := mapL h
    subst h2
    exact q_istI_ok (T := tT) (own := own) (ret := ret) (ini := ini) (mc := mc) (ms := ms) (L := L) hr h1
  case astore_n i =>
    obtain ⟨ss, h1, h2⟩ := mapL h
    subst h2
    exact q_istA_ok (T := tT) (own := own) (ret := ret) (ini := ini) (mc := mc) (ms := ms) (L := L) hr h1
  case astore i =>
    obtain ⟨ss, h1, h2⟩ := mapL h
    subst h2
    exact q_istA_ok (T := tT) (own := own) (ret := ret) (ini := ini) (mc := mc) (ms := ms) (L := L) hr h1
  case lstore_n i =>
    obtain ⟨ss, h1, h2⟩ := mapL h
    subst h2
    exact q_istL_ok (T := tT) (own := own) (ret := ret) (ini := ini) (mc := mc) (ms := ms) (L := L) hr h1
  case lstore i =>
    obtain ⟨ss, h1, h2⟩ := mapL h
    subst h2
    exact q_istL_ok (T := tT) (own := own) (ret := ret) (ini := ini) (mc := mc) (ms := ms) (L := L) hr h1
  case iconst i =>
    obtain ⟨ss, h1, h2⟩ := mapL h
    subst h2
    exact q_con_ok hr h1
  case bipush i =>
    obtain ⟨ss, h1, h2⟩ := mapL h
    subst h2
    exact q_con_ok hr h1
  case sipush i =>
    obtain ⟨ss, h1, h2⟩ := mapL h
    subst h2
    exact q_con_ok hr h1
  case lconst i =>
    obtain ⟨ss, h1, h2⟩ := mapL h
    subst h2
    exact q_conL_ok hr h1
  case iinc i k =>
    obtain ⟨ss, h1, h2⟩ := mapL h
    subst h2
    exact q_iinc_ok (T := tT) (own := own) (ret := ret) (ini := ini) (mc := mc) (ms := ms) (L := L) hr h1
  case iadd =>
    obtain ⟨ss, h1, h2⟩ := mapL h
    subst h2
    exact q_aop_ok hr h1
  case isub =>
    obtain ⟨ss, h1, h2⟩ := mapL h
    subst h2
    exact q_aop_ok hr h1
  case imul =>
    obtain ⟨ss, h1, h2⟩ := mapL h
    subst h2
    exact q_aop_ok hr h1
  case iand =>
    obtain ⟨ss, h1, h2⟩ := mapL h
    subst h2
    exact q_aop_ok hr h1
  case ior =>
    obtain ⟨ss, h1, h2⟩ := mapL h
    subst h2
    exact q_aop_ok hr h1
  case ixor =>
    obtain ⟨ss, h1, h2⟩ := mapL h
    subst h2
    exact q_aop_ok hr h1
  case ishl =>
    obtain ⟨ss, h1, h2⟩ := mapL h
    subst h2
    exact q_aop_ok hr h1
  case ishr =>
    obtain ⟨ss, h1, h2⟩ := mapL h
    subst h2
    exact q_aop_ok hr h1
  case idiv =>
    obtain ⟨ss, h1, h2⟩ := mapL h
    subst h2
    exact q_aop_ok hr h1
  case irem =>
    obtain ⟨ss, h1, h2⟩ := mapL h
    subst h2
    exact q_aop_ok hr h1
  case ldiv =>
    obtain ⟨ss, h1, h2⟩ := mapL h
    subst h2
    exact q_aopD_ok (T := tT) (own := own) (ret := ret) (ini := ini) (mc := mc) (ms := ms) (L := L) (k := 0) hr h1
  case lrem =>
    obtain ⟨ss, h1, h2⟩ := mapL h
    subst h2
    exact q_aopD_ok (T := tT) (own := own) (ret := ret) (ini := ini) (mc := mc) (ms := ms) (L := L) (k := 1) hr h1
  case lcmp =>
    obtain ⟨ss, h1, h2⟩ := mapL h
    subst h2
    cases hh : Nat.beq hint 5 with
    | true =>
      rw [hh, cond_true] at h1
      exact q_lcmpC_ok (T := tT) (own := own) (ret := ret) (ini := ini) (mc := mc) (ms := ms) (L := L) hr h1
    | false =>
      rw [hh, cond_false] at h1
      exact q_lcmp_ok (T := tT) (own := own) (ret := ret) (ini := ini) (mc := mc) (ms := ms) (L := L) hr h1
  case tableswitch d lo hi offs =>
    obtain ⟨ss, h1, h2⟩ := mapL h
    subst h2
    exact q_tsw_ok (T := tT) (own := own) (ret := ret) (ini := ini) (mc := mc) (ms := ms) (L := L) hr h1
  case lookupswitch d ps =>
    obtain ⟨ss, h1, h2⟩ := mapL h
    subst h2
    exact q_lsw_ok (T := tT) (own := own) (ret := ret) (ini := ini) (mc := mc) (ms := ms) (L := L) hr h1
  case iaload =>
    obtain ⟨ss, h1, h2⟩ := mapL h
    subst h2
    exact q_ald_ok hw hr hsc h1
  case baload =>
    obtain ⟨ss, h1, h2⟩ := mapL h
    subst h2
    exact q_ald_ok hw hr hsc h1
  case laload =>
    obtain ⟨ss, h1, h2⟩ := mapL h
    subst h2
    exact q_ald_ok hw hr hsc h1
  case aaload =>
    obtain ⟨ss, h1, h2⟩ := mapL h
    subst h2
    exact q_aald_ok (T := tT) (own := own) (ret := ret) (ini := ini) (mc := mc) (ms := ms) (L := L) hw hr h1
  case iastore =>
    obtain ⟨ss, h1, h2⟩ := mapL h
    subst h2
    exact q_ast_ok hw hr h1
  case bastore =>
    obtain ⟨ss, h1, h2⟩ := mapL h
    subst h2
    exact q_ast_ok hw hr h1
  case lastore =>
    obtain ⟨ss, h1, h2⟩ := mapL h
    subst h2
    exact q_ast_ok hw hr h1
  case arraylength =>
    obtain ⟨ss, h1, h2⟩ := mapL h
    subst h2
    exact q_alen_ok (T := tT) (own := own) (ret := ret) (ini := ini) (mc := mc) (ms := ms) (L := L) hr hsc h1
  case getfield i =>
    obtain ⟨ss, h1, h2⟩ := mapL h
    subst h2
    exact q_getf_ok (own := own) (ret := ret) (ini := ini) (mc := mc) (ms := ms) (L := L) hw hr h1
  case putfield i =>
    obtain ⟨ss, h1, h2⟩ := mapL h
    subst h2
    exact q_putf_ok (own := own) (ret := ret) (ini := ini) (mc := mc) (ms := ms) (L := L) hw hr h1
  case ldc_w i =>
    have h : (match kf tK own i with
      | some n => bif Nat.ble n 4294967295 then (q_con n 3 E C pc lv st).map .inl else none
      | none => none) = some o := h
    show qsnd H md σ aw c z o (h_ldcw i tT own ret ini mc ms L [] pc lw sw D c z)
    unfold h_ldcw
    split at h
    · next n hn =>
      rw [show kf tT.2.2.1 own i = some n from hn]
      dsimp only
      cases hb : Nat.ble n 4294967295 with
      | false => rw [hb] at h; cases h
      | true =>
        rw [hb, cond_true] at h
        rw [cond_true]
        obtain ⟨ss, h1, h2⟩ := mapL h
        subst h2
        exact q_con_ok hr h1
    · cases h
  case ldc2_w i =>
    have h : (match kf tK (Nat.add 100 own) i with
      | some n => (q_conL n 3 E C pc lv st).map .inl
      | none => none) = some o := h
    show qsnd H md σ aw c z o (h_ldc2 i tT own ret ini mc ms L [] pc lw sw D c z)
    unfold h_ldc2
    split at h
    · next n hn =>
      rw [show kf tT.2.2.1 (Nat.add 100 own) i = some n from hn]
      dsimp only
      obtain ⟨ss, h1, h2⟩ := mapL h
      subst h2
      exact q_conL_ok hr h1
    · cases h
  case goto off =>
    have h : (match tg pc off with
      | some t => some (.inl [(E, C, t, lv, st)])
      | none => none) = some o := h
    show qsnd H md σ aw c z o (h_goto off tT own ret ini mc ms L [] pc lw sw D c z)
    unfold h_goto
    split at h
    · next t ht =>
      rw [ht]
      cases h
      exact qn_one rfl (xt_refl σ) (ag_refl H md aw) hr
    · cases h
  case dup =>
    obtain ⟨r1, r2, r3, r4, r5⟩ := hr
    match st, h, r4 with
    | v :: r, h, r4 =>
      have h : (bif Nat.beq (kct v) 1 then some (.inl [(E, C, Nat.add pc 1, lv, v :: v :: r)]) else none) = some o := h
      obtain ⟨v1, u1, e1, a1, s1⟩ := stOK2_cons r4
      subst e1
      show qsnd H md σ aw c z o (bif Nat.beq (ct v1) 1 then some (.inl (Nat.add pc 1, lw, v1 :: v1 :: u1, D, c, z)) else none)
      rw [ct_k a1]
      cases hb : Nat.beq (kct v) 1 with
      | false => rw [hb] at h; cases h
      | true =>
        rw [hb, cond_true] at h
        cases h
        exact qn_one rfl (xt_refl σ) (ag_refl H md aw) ⟨r1, r2, r3, ⟨a1, a1, s1⟩, r5⟩
    | [], h, _ => exact absurd h (fun g => by cases g)
  case pop =>
    obtain ⟨r1, r2, r3, r4, r5⟩ := hr
    match st, h, r4 with
    | v :: r, h, r4 =>
      have h : (bif Nat.beq (kct v) 1 then some (.inl [(E, C, Nat.add pc 1, lv, r)]) else none) = some o := h
      obtain ⟨v1, u1, e1, a1, s1⟩ := stOK2_cons r4
      subst e1
      show qsnd H md σ aw c z o (bif Nat.beq (ct v1) 1 then some (.inl (Nat.add pc 1, lw, u1, D, c, z)) else none)
      rw [ct_k a1]
      cases hb : Nat.beq (kct v) 1 with
      | false => rw [hb] at h; cases h
      | true =>
        rw [hb, cond_true] at h
        cases h
        exact qn_one rfl (xt_refl σ) (ag_refl H md aw) ⟨r1, r2, r3, s1, r5⟩
    | [], h, _ => exact absurd h (fun g => by cases g)
  case dup2 =>
    obtain ⟨r1, r2, r3, r4, r5⟩ := hr
    match st, h, r4 with
    | v :: w :: r, h, r4 =>
      have h : (bif (Nat.beq (kct v) 1 && Nat.beq (kct w) 1) then some (.inl [(E, C, Nat.add pc 1, lv, v :: w :: v :: w :: r)]) else none) = some o := h
      obtain ⟨v1, u1, e1, a1, s1⟩ := stOK2_cons r4
      obtain ⟨v2, u2, e2, a2, s2⟩ := stOK2_cons s1
      subst e1
      subst e2
      show qsnd H md σ aw c z o (bif (Nat.beq (ct v1) 1 && Nat.beq (ct v2) 1) then some (.inl (Nat.add pc 1, lw, v1 :: v2 :: v1 :: v2 :: u2, D, c, z)) else none)
      rw [ct_k a1, ct_k a2]
      cases hb : (Nat.beq (kct v) 1 && Nat.beq (kct w) 1) with
      | false => rw [hb] at h; cases h
      | true =>
        rw [hb, cond_true] at h
        cases h
        exact qn_one rfl (xt_refl σ) (ag_refl H md aw) ⟨r1, r2, r3, ⟨a1, a2, a1, a2, s2⟩, r5⟩
    | [_], h, _ => exact absurd h (fun g => by cases g)
    | [], h, _ => exact absurd h (fun g => by cases g)
  case iushr =>
    obtain ⟨r1, r2, r3, r4, r5⟩ := hr
    unfold q_ins at h
    dsimp only at h
    split at h
    · next y x r =>
      cases h
      obtain ⟨v1, u1, e1, ⟨yz, y1, y2, y3⟩, s1⟩ := stOK2_cons r4
      obtain ⟨v2, u2, e2, ⟨xz, x1, x2, x3⟩, s2⟩ := stOK2_cons s1
      subst e1
      subst e2
      subst y3
      subst x3
      show qnext H md σ aw c z (q_pI (-2147483648) 2147483647 E C (Nat.add pc 1) lv r) (h_ush tT own ret ini mc ms L [] pc lw (.inl (eI yz) :: .inl (eI xz) :: u2) D c z)
      unfold h_ush
      dsimp only
      rw [nd_eI]
      dsimp only
      rw [nd_eI]
      dsimp only
      rw [fN_eq]
      have hb := toInt_in (opU (nI (eI xz)) (nI (eI yz)))
      exact q_pI_ok ⟨r1, r2, r3, s2, r5⟩ hb.1 hb.2
    · cases h
  case ladd =>
    obtain ⟨r1, r2, r3, r4, r5⟩ := hr
    unfold q_ins at h
    dsimp only at h
    split at h
    · next y x r =>
      cases h
      obtain ⟨v1, u1, e1, ⟨yz, y1, y2, y3, y4⟩, s1⟩ := stOK2_cons r4
      obtain ⟨v2, u2, e2, ⟨xz, x1, x2, x3, x4⟩, s2⟩ := stOK2_cons s1
      subst e1
      subst e2
      subst y4
      subst x4
      show qnext H md σ aw c z _ (aopL _ pc lw (.inr (.inl yz.toNat) :: .inr (.inl xz.toNat) :: u2) D c z)
      unfold aopL
      dsimp only
      rw [fN_eq]
      exact q_pL_ok ⟨r1, r2, r3, s2, r5⟩
    · cases h
  case lsub =>
    obtain ⟨r1, r2, r3, r4, r5⟩ := hr
    unfold q_ins at h
    dsimp only at h
    split at h
    · next y x r =>
      cases h
      obtain ⟨v1, u1, e1, ⟨yz, y1, y2, y3, y4⟩, s1⟩ := stOK2_cons r4
      obtain ⟨v2, u2, e2, ⟨xz, x1, x2, x3, x4⟩, s2⟩ := stOK2_cons s1
      subst e1
      subst e2
      subst y4
      subst x4
      show qnext H md σ aw c z _ (aopL _ pc lw (.inr (.inl yz.toNat) :: .inr (.inl xz.toNat) :: u2) D c z)
      unfold aopL
      dsimp only
      rw [fN_eq]
      exact q_pL_ok ⟨r1, r2, r3, s2, r5⟩
    · cases h
  case land =>
    obtain ⟨r1, r2, r3, r4, r5⟩ := hr
    unfold q_ins at h
    dsimp only at h
    split at h
    · next y x r =>
      cases h
      obtain ⟨v1, u1, e1, ⟨yz, y1, y2, y3, y4⟩, s1⟩ := stOK2_cons r4
      obtain ⟨v2, u2, e2, ⟨xz, x1, x2, x3, x4⟩, s2⟩ := stOK2_cons s1
      subst e1
      subst e2
      subst y4
      subst x4
      show qnext H md σ aw c z _ (aopL _ pc lw (.inr (.inl yz.toNat) :: .inr (.inl xz.toNat) :: u2) D c z)
      unfold aopL
      dsimp only
      rw [fN_eq]
      exact q_pL_ok ⟨r1, r2, r3, s2, r5⟩
    · cases h
  case lor =>
    obtain ⟨r1, r2, r3, r4, r5⟩ := hr
    unfold q_ins at h
    dsimp only at h
    split at h
    · next y x r =>
      cases h
      obtain ⟨v1, u1, e1, ⟨yz, y1, y2, y3, y4⟩, s1⟩ := stOK2_cons r4
      obtain ⟨v2, u2, e2, ⟨xz, x1, x2, x3, x4⟩, s2⟩ := stOK2_cons s1
      subst e1
      subst e2
      subst y4
      subst x4
      show qnext H md σ aw c z _ (aopL _ pc lw (.inr (.inl yz.toNat) :: .inr (.inl xz.toNat) :: u2) D c z)
      unfold aopL
      dsimp only
      rw [fN_eq]
      exact q_pL_ok ⟨r1, r2, r3, s2, r5⟩
    · cases h
  case lmul =>
    obtain ⟨r1, r2, r3, r4, r5⟩ := hr
    unfold q_ins at h
    dsimp only at h
    split at h
    · next y x r =>
      cases h
      obtain ⟨v1, u1, e1, ⟨yz, y1, y2, y3, y4⟩, s1⟩ := stOK2_cons r4
      obtain ⟨v2, u2, e2, ⟨xz, x1, x2, x3, x4⟩, s2⟩ := stOK2_cons s1
      subst e1
      subst e2
      subst y4
      subst x4
      show qnext H md σ aw c z _ (aopL _ pc lw (.inr (.inl yz.toNat) :: .inr (.inl xz.toNat) :: u2) D c z)
      unfold aopL
      dsimp only
      rw [fN_eq]
      exact q_pL_ok ⟨r1, r2, r3, s2, r5⟩
    · cases h
  case lshl =>
    obtain ⟨r1, r2, r3, r4, r5⟩ := hr
    unfold q_ins at h
    dsimp only at h
    split at h
    · next y x r =>
      cases h
      obtain ⟨v1, u1, e1, ⟨yz, y1, y2, y3⟩, s1⟩ := stOK2_cons r4
      obtain ⟨v2, u2, e2, ⟨xz, x1, x2, x3, x4⟩, s2⟩ := stOK2_cons s1
      subst e1
      subst e2
      subst y3
      subst x4
      show qnext H md σ aw c z _ (aopS _ [] pc lw (.inl (eI yz) :: .inr (.inl xz.toNat) :: u2) D c z)
      unfold aopS
      dsimp only
      rw [nd_eI]
      dsimp only
      rw [fN_eq]
      exact q_pL_ok ⟨r1, r2, r3, s2, r5⟩
    · cases h
  case lshr =>
    obtain ⟨r1, r2, r3, r4, r5⟩ := hr
    unfold q_ins at h
    dsimp only at h
    split at h
    · next y x r =>
      cases h
      obtain ⟨v1, u1, e1, ⟨yz, y1, y2, y3⟩, s1⟩ := stOK2_cons r4
      obtain ⟨v2, u2, e2, ⟨xz, x1, x2, x3, x4⟩, s2⟩ := stOK2_cons s1
      subst e1
      subst e2
      subst y3
      subst x4
      show qnext H md σ aw c z _ (aopS _ [] pc lw (.inl (eI yz) :: .inr (.inl xz.toNat) :: u2) D c z)
      unfold aopS
      dsimp only
      rw [nd_eI]
      dsimp only
      rw [fN_eq]
      exact q_pL_ok ⟨r1, r2, r3, s2, r5⟩
    · cases h
  case lushr =>
    obtain ⟨r1, r2, r3, r4, r5⟩ := hr
    unfold q_ins at h
    dsimp only at h
    split at h
    · next y x r =>
      cases h
      obtain ⟨v1, u1, e1, ⟨yz, y1, y2, y3⟩, s1⟩ := stOK2_cons r4
      obtain ⟨v2, u2, e2, ⟨xz, x1, x2, x3, x4⟩, s2⟩ := stOK2_cons s1
      subst e1
      subst e2
      subst y3
      subst x4
      show qnext H md σ aw c z _ (aopS _ [] pc lw (.inl (eI yz) :: .inr (.inl xz.toNat) :: u2) D c z)
      unfold aopS
      dsimp only
      rw [nd_eI]
      dsimp only
      rw [fN_eq]
      exact q_pL_ok ⟨r1, r2, r3, s2, r5⟩
    · cases h
  case l2i =>
    obtain ⟨r1, r2, r3, r4, r5⟩ := hr
    unfold q_ins at h
    dsimp only at h
    split at h
    · next x r =>
      cases h
      obtain ⟨v2, u2, e2, ⟨xz, x1, x2, x3, x4⟩, s2⟩ := stOK2_cons r4
      subst e2
      subst x4
      show qnext H md σ aw c z (q_pI (-2147483648) 2147483647 E C (Nat.add pc 1) lv r) (h_l2i tT own ret ini mc ms L [] pc lw (.inr (.inl xz.toNat) :: u2) D c z)
      unfold h_l2i
      dsimp only
      rw [fN_eq]
      have hb := toInt_in (lN xz.toNat).toInt32
      exact q_pI_ok ⟨r1, r2, r3, s2, r5⟩ hb.1 hb.2
    · cases h
  case i2l =>
    obtain ⟨r1, r2, r3, r4, r5⟩ := hr
    unfold q_ins at h
    dsimp only at h
    split at h
    · next x r =>
      cases h
      obtain ⟨v2, u2, e2, ⟨xz, x1, x2, x3⟩, s2⟩ := stOK2_cons r4
      subst e2
      subst x3
      show qnext H md σ aw c z (q_pL E C (Nat.add pc 1) lv r) (h_i2l tT own ret ini mc ms L [] pc lw (.inl (eI xz) :: u2) D c z)
      unfold h_i2l
      dsimp only
      rw [nd_eI]
      dsimp only
      rw [fN_eq]
      exact q_pL_ok ⟨r1, r2, r3, s2, r5⟩
    · cases h
  case i2b =>
    obtain ⟨r1, r2, r3, r4, r5⟩ := hr
    unfold q_ins at h
    dsimp only at h
    split at h
    · next x r =>
      cases h
      obtain ⟨v2, u2, e2, ⟨xz, x1, x2, x3⟩, s2⟩ := stOK2_cons r4
      subst e2
      subst x3
      show qnext H md σ aw c z (q_pI (-128) 127 E C (Nat.add pc 1) lv r) (h_i2b tT own ret ini mc ms L [] pc lw (.inl (eI xz) :: u2) D c z)
      unfold h_i2b
      dsimp only
      rw [nd_eI]
      dsimp only
      rw [fN_eq]
      have hb : -128 ≤ (nI (eI xz)).toInt8.toInt32.toInt ∧ (nI (eI xz)).toInt8.toInt32.toInt ≤ 127 := by
        generalize (nI (eI xz)).toInt8 = w
        rw [Int8.toInt_toInt32]
        have h1 := w.minValue_le_toInt
        have h2 : Int8.minValue.toInt = -128 := by decide
        have h3 := w.toInt_lt
        exact ⟨by omega, by omega⟩
      exact q_pI_ok ⟨r1, r2, r3, s2, r5⟩ hb.1 hb.2
    · cases h
  case ifCond q off =>
    unfold q_ins at h
    dsimp only at h
    split at h
    · next x r =>
      obtain ⟨ss, h1, h2⟩ := mapL h
      subst h2
      obtain ⟨r1, r2, r3, r4, r5⟩ := hr
      obtain ⟨v2, u2, e2, ⟨xz, x1, x2, x3⟩, s2⟩ := stOK2_cons r4
      subst e2
      subst x3
      exact q_if_ok ⟨r1, r2, r3, s2, r5⟩ x1 (i0 r1 0) x2 ⟨by decide, by decide⟩ h1
    · cases h
  case if_icmp q off =>
    unfold q_ins at h
    dsimp only at h
    split at h
    · next y x r =>
      obtain ⟨ss, h1, h2⟩ := mapL h
      subst h2
      obtain ⟨r1, r2, r3, r4, r5⟩ := hr
      obtain ⟨v1, u1, e1, ⟨yz, y1, y2, y3⟩, s1⟩ := stOK2_cons r4
      obtain ⟨v2, u2, e2, ⟨xz, x1, x2, x3⟩, s2⟩ := stOK2_cons s1
      subst e1
      subst e2
      subst y3
      subst x3
      exact q_if_ok ⟨r1, r2, r3, s2, r5⟩ x1 y1 x2 y2 h1
    · cases h
  case invokevirtual i => exact q_call_ok hw hr h
  case invokestatic i => exact q_call_ok hw hr h
  case ireturn =>
    obtain ⟨r1, r2, r3, r4, r5⟩ := hr
    unfold q_ins at h
    dsimp only at h
    split at h
    · next x =>
      obtain ⟨v2, u2, e2, a2, s2⟩ := stOK2_cons r4
      have a3 := a2
      obtain ⟨xz, x1, x2, x3⟩ := a2
      have := stOK2_nil s2
      subst this
      subst e2
      subst x3
      show qsnd H md σ aw c z o (bif (ok_rt ret (.inl (eI xz)) && (Nat.ble c mc && Nat.ble z ms)) then some (.inr (.inr (.inr (.inl (some (.inl (eI xz))))))) else none)
      have hrt : ok_rt ret (.inl (eI xz)) = true ∧ o = .inr (.inl (some (.inl x))) := by
        split at h
        · cases h; exact ⟨rfl, rfl⟩
        · obtain ⟨lo, hi, b1, b2, b3⟩ := civ_ok r1 x1 false
          rw [b3] at h
          cases hb : (zle 0 lo && zle hi 1) with
          | false => rw [hb] at h; cases h
          | true =>
            rw [hb, cond_true] at h
            cases h
            rw [Bool.and_eq_true, zle_iff, zle_iff] at hb
            refine ⟨?_, rfl⟩
            have hc := eI_cast xz
            exact Nat.ble_eq_true_of_le (show eI xz ≤ 1 by omega)
        · cases h
      rw [hrt.1, hrt.2, Nat.ble_eq_true_of_le hcz.1, Nat.ble_eq_true_of_le hcz.2]
      exact ⟨_, rfl, a3⟩
    · cases h
  case lreturn =>
    obtain ⟨r1, r2, r3, r4, r5⟩ := hr
    unfold q_ins at h
    dsimp only at h
    split at h
    · next x =>
      obtain ⟨v2, u2, e2, a2, s2⟩ := stOK2_cons r4
      have a3 := a2
      obtain ⟨xz, x1, x2, x3, x4⟩ := a2
      have := stOK2_nil s2
      subst this
      subst e2
      subst x4
      split at h
      · cases h
        show qsnd H md σ aw c z _ (bif (true && (Nat.ble c mc && Nat.ble z ms)) then some (.inr (.inr (.inr (.inl (some (.inr (.inl xz.toNat))))))) else none)
        rw [Nat.ble_eq_true_of_le hcz.1, Nat.ble_eq_true_of_le hcz.2]
        exact ⟨_, rfl, a3⟩
      · cases h
    · cases h
  case areturn =>
    obtain ⟨r1, r2, r3, r4, r5⟩ := hr
    unfold q_ins at h
    dsimp only at h
    split at h
    · next x =>
      obtain ⟨v2, u2, e2, a2, s2⟩ := stOK2_cons r4
      obtain ⟨k, hk⟩ := ref_of a2
      have := stOK2_nil s2
      subst this
      subst e2
      subst hk
      split at h
      · cases h
        show qsnd H md σ aw c z _ (bif (true && (Nat.ble c mc && Nat.ble z ms)) then some (.inr (.inr (.inr (.inl (some (.inr (.inr (some k)))))))) else none)
        rw [Nat.ble_eq_true_of_le hcz.1, Nat.ble_eq_true_of_le hcz.2]
        exact ⟨_, rfl, a2⟩
      · cases h
    · cases h
  case return_ =>
    obtain ⟨r1, r2, r3, r4, r5⟩ := hr
    unfold q_ins at h
    dsimp only at h
    split at h
    · have := stOK2_nil r4
      subst this
      cases hb : no_rt ret with
      | false => rw [hb] at h; cases h
      | true =>
        rw [hb, cond_true] at h
        cases h
        show (bif (no_rt ret && (Nat.ble c mc && Nat.ble z ms)) then (some (.inr (.inr (.inr (.inl none)))) : Option rO) else none) = some (.inr (.inr (.inr (.inl none))))
        rw [hb, Nat.ble_eq_true_of_le hcz.1, Nat.ble_eq_true_of_le hcz.2]
        rfl
    · cases h

theorem eI_nat {n : Nat} (h : n < 4294967296) : eI (n : Int) = n := by unfold eI; omega
/-- the string constant -/
noncomputable def q_str (M : rM) (E : qE) (C : qC) (pc : Nat) (lv : qK) (st : List qV) : Option qO := bif (Nat.beq (mOwn M) 9 && Nat.ble (qcsum st) 8) then (match mTab M (Nat.add pc 2) with
  | some (.invokevirtual i, w) => bif (Nat.beq i 63 && Nat.beq w 3) then some (.inl [(E, C, Nat.add pc 5, lv, .inl (0, 96) :: st)]) else none
  | some (.iload i, w) => bif Nat.beq w 2 then (match mTab M (Nat.add pc 4) with
    | some (.invokevirtual j, w2) => bif (Nat.beq j 68 && Nat.beq w2 3) then (match kget lv i with
      | some (.inl x) => civ E x none (fun lo hi => bif (zle 0 lo && zle hi 95) then qval E 0 127 (fun E y => some (.inl [(E, C, Nat.add pc 7, lv, .inl y :: st)])) else none)
      | _ => none) else none
    | _ => none) else none
  | _ => none) else none
theorem q_str_ok {H : qT} {md : List (Nat × Nat)} {σ : List Int} {E : qE} {C : qC} {lv : qK} {st : List qV} {lw : rK} {sw : List rV} {D : rD} {aw : List rC} (hr : qrl H σ E C lv st lw sw D aw) {M : rM} {pc c z : Nat} (hcz : c ≤ mC M ∧ z ≤ mS M) {o : qO} (h : q_str M E C pc lv st = some o) : qsnd H md σ aw c z o (strS [] M pc lw sw D c z) := by
  obtain ⟨r1, r2, r3, r4, r5⟩ := hr
  unfold q_str at h
  unfold strS
  cases hc : (Nat.beq (mOwn M) 9 && Nat.ble (qcsum st) 8) with
  | false => rw [hc] at h; cases h
  | true =>
    rw [hc, cond_true] at h
    rw [Bool.and_eq_true] at hc
    rw [hc.1, csum_k r4, hc.2, Nat.ble_eq_true_of_le hcz.1, Nat.ble_eq_true_of_le hcz.2, Bool.and_self, Bool.and_self, Bool.and_self, cond_true]
    split at h
    · next i w hm =>
      cases hb2 : (Nat.beq i 63 && Nat.beq w 3) with
      | false => rw [hb2] at h; cases h
      | true =>
        rw [hb2, cond_true] at h
        cases h
        rw [hm]
        dsimp only
        rw [hb2, cond_true]
        exact qn_one rfl (xt_refl σ) (ag_refl H md aw) ⟨r1, r2, r3, ⟨⟨96, i0 r1 96, ⟨by decide, by decide⟩, by rw [show eI 96 = 96 by decide]⟩, r4⟩, r5⟩
    · next i w hm =>
      cases hb2 : Nat.beq w 2 with
      | false => rw [hb2] at h; cases h
      | true =>
        rw [hb2, cond_true] at h
        rw [hm]
        dsimp only
        rw [hb2, cond_true]
        split at h
        · next j w2 hm2 =>
          cases hb3 : (Nat.beq j 68 && Nat.beq w2 3) with
          | false => rw [hb3] at h; cases h
          | true =>
            rw [hb3, cond_true] at h
            rw [hm2]
            dsimp only
            rw [hb3, cond_true]
            split at h
            · next x hx =>
              obtain ⟨v, v1, u, u1, u2, u3⟩ := r3 i _ hx
              obtain ⟨lo, hi, b1, b2, b3⟩ := civ_ok (β := Option qO) r1 u1 none
              rw [b3] at h
              cases hb4 : (zle 0 lo && zle hi 95) with
              | false => rw [hb4] at h; cases h
              | true =>
                rw [hb4, cond_true] at h
                rw [Bool.and_eq_true, zle_iff, zle_iff] at hb4
                subst u3
                have e1 : eI u < wordsL.length := by
                  have : eI u < 96 := by unfold eI; omega
                  exact this
                have hall : ∀ w ∈ wordsL, w ≤ 127 := by decide +kernel
                have hv := hall _ (List.getElem_mem e1)
                rw [v1]
                dsimp only
                rw [nd_eI]
                dsimp only
                rw [rget_eq, List.getElem?_eq_getElem e1]
                dsimp only
                obtain ⟨E', y, σ', g1, g2, g3, g4⟩ := qval_ok (β := Option qO) r1 (lo := 0) (hi := 127) (z := (wordsL[eI u] : Int)) (by omega) (by omega)
                rw [g4] at h
                cases h
                exact qn_one rfl g1 (ag_refl H md aw) ⟨g2, hOK_xt g1 r2, lvOK_xt g1 r3, ⟨⟨(wordsL[eI u] : Int), g3, ⟨by omega, by omega⟩, by rw [eI_nat (by omega)]⟩, stOK2_xt g1 r4⟩, r5⟩
            · cases h
        · cases h
    · cases h
noncomputable def q_step (H : qT) (scr : Bool) (md : List (Nat × Nat)) (hint : Nat) (M : rM) (E : qE) (C : qC) (pc : Nat) (lv : qK) (st : List qV) : Option qO := match mTab M pc with
  | some q => bif isStr q then q_str M E C pc lv st else (match disp q.1 with
    | some h => bif (Nat.beq h.1 0 || Nat.beq h.1 q.2) then q_ins H scr md hint (mOwn M) (mRet M) q.1 E C pc lv st else none
    | none => none)
  | none => none
theorem q_step_ok {H : qT} {md : List (Nat × Nat)} {σ : List Int} {E : qE} {C : qC} {lv : qK} {st : List qV} {lw : rK} {sw : List rV} {D : rD} {aw : List rC} (hw : HW H) (hr : qrl H σ E C lv st lw sw D aw) {scr : Bool} {L : List Nat} (hsc : scOK scr L σ) {M : rM} {hint pc c z : Nat} (hcz : c ≤ mC M ∧ z ≤ mS M) {o : qO} (h : q_step H scr md hint M E C pc lv st = some o) : qsnd H md σ aw c z o (step tT L M [] pc lw sw D c z) := by
  unfold q_step at h
  unfold step
  split at h
  · next q hq =>
    rw [hq]
    dsimp only
    cases hb : isStr q with
    | true =>
      rw [hb, cond_true] at h
      rw [cond_true]
      exact q_str_ok hr hcz h
    | false =>
      rw [hb, cond_false] at h
      rw [cond_false]
      split at h
      · next hh hd =>
        rw [hd]
        dsimp only
        cases hl : (Nat.beq hh.1 0 || Nat.beq hh.1 q.2) with
        | false => rw [hl] at h; cases h
        | true =>
          rw [hl, cond_true] at h
          rw [cond_true]
          exact q_ins_ok hw hr hsc hcz hd h
      · cases h
  · cases h
