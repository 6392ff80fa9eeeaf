/-! rules: new cells, copies, Object's constructor -/
theorem wsnoc_k {β : Type} (v : rC) (D : rD) (K : rD → β) : wsnoc v D K = K (wsnoc v D (fun d => d)) := by
  unfold wsnoc
  rw [fN_eq, fN_eq]
  split
  · rw [rsnoc_eq, rset_eq, rsnoc_eq, rset_eq]
  · rw [rsnoc_eq, rsnoc_eq]
theorem wsnoc_rep {D : rD} {aw : List rC} (h : rep D aw) (v : rC) : rep (wsnoc v D (fun d => d)) (aw ++ [v]) := by
  obtain ⟨D', h1, h2⟩ := rep_snoc (β := rD) h v
  rw [h2]
  exact h1
/-- a cell is made -/
theorem fin_new {sg : Nat → Int32} {b B : Nat} {cy : Nat → ClassId} {D : va_G} {aw : List rC} {H H1 H0 : Heap} {locs : List Loc} {q' : rC} (hP : va_P D vwCl (rW sg b B cy aw) H) (hH : H.size = B + aw.length) (hS : va_S (rG B) H0 H locs) (he : va_at D vwCl (B + aw.length, rce sg b B cy q') H1) (z : H1.size = H.size + 1) (oq : ∀ q : Nat, q < H.size → H1[q]? = H[q]?) : va_P D vwCl (rW sg b B cy (aw ++ [q'])) H1 ∧ H1.size = B + (aw ++ [q']).length ∧ va_S (rG B) H0 H1 locs := by
  refine ⟨?_, by rw [List.length_append, z, hH]; rfl, ⟨Nat.le_trans hS.1 (by omega), fun x h1 h2 => (oq x (Nat.lt_of_lt_of_le h1 hS.1)).trans (hS.2.1 x h1 h2), hS.2.2⟩⟩
  rw [rW_app]
  refine va_P.app (hP.kept (fun k x hx => oq x.1 ((hP k x hx).lt))) (fun k x hx => ?_)
  have hz : k < 1 := (List.getElem?_eq_some_iff.mp hx).1
  rw [show k = 0 by omega] at hx
  cases hx
  exact he
theorem fd_ok {sg : Nat → Int32} {b B : Nat} {ty : FieldType} (h : fk ty ≠ 4) : defaultValue ty = rv sg b B (fd (fk ty)) := by
  cases ty <;> first | rfl | exact absurd rfl h
theorem s_new {p : Program} {l : Launch} {e : Env} {R : Room} {s : State} {m : MethodId} {args : Array Value} {below : List Frame} {meth : Method} {c : Code} {Q : State → Prop} {sg : Nat → Int32} {b B : Nat} {L : List Nat} {xs : Nat → Int32} {dC : Nat → ClassId} {dI : Nat → Nat → Nat} {cy : Nat → ClassId} {cc : ByteArray} {nL own : Nat} {ini : Bool} {ret : Option FieldType} {mc ms : Nat} {E : rE} {pc : Nat} {lv : rK} {st : List rV} {aw : rD} {cn z : Nat} {o : rO} {i : Nat} (hR : R.cells = mc ∧ R.slots = ms) (F : FF p s m args meth c cc nL own ini b B L xs dC dI cy) (hO : OT) (hdg : decode cc pc = .ok (.new i, 3)) (h : h_new i tT own ret ini mc ms L E pc lv st aw cn z = some o) : Sem p l e R s m args below meth c Q sg b B cy dC dI nL cc own ret mc ms o (pc, lv, st, aw, cn, z) := by
  obtain ⟨hx, hb, hml, ho, hts, hsf, hini⟩ := F
  unfold h_new at h
  split at h
  · next ci hk =>
    cases h1 : (Nat.blt ci 13 && (Nat.ble (Nat.add cn 1) mc && Nat.ble (Nat.add z (fnn ci)) ms)) with
    | false => rw [h1] at h; cases h
    | true =>
      rw [h1, cond_true, wsnoc_k] at h
      cases h
      rw [Bool.and_eq_true, Bool.and_eq_true] at h1
      have g1 : ci < 13 := Nat.le_of_ble_eq_true h1.1
      have g2 : cn + 1 ≤ mc := Nat.le_of_ble_eq_true h1.2.1
      have g3 : z + fnn ci ≤ ms := Nat.le_of_ble_eq_true h1.2.2
      obtain ⟨C, T, N, hc, hlink⟩ := (hO.2.2.1 own i ci (kf_mem hk)).1 g1
      obtain ⟨c1, c2, c3, c4, c5, c6, c7, c8⟩ := hO.1 ci C T N hc
      intro kk aw' H locs ls hr hP hH hS hl
      have hKn := hsf.1.1 ci _ hc
      refine W.newcK hx hb ho (hts _ hlink) (hts _ c4) (hts _ c5) rfl hdg (by rw [hR.1]; exact g2) (by rw [hR.2, c6]; exact g3) hKn.2.1 rfl fun H1 kC hkC e1 z1 o1 => ?_
      have hat : va_at (dC, dI) vwCl (B + aw'.length, rce sg b B cy (ci, blank_ ci)) H1 := by
        rw [rce_obj (q := (ci, blank_ ci)) c7, ← hH]
        refine ⟨_, hc, (u_born (fty ci) hts c1 hKn hkC e1 c2).to (fun j hj => ?_)⟩
        show defaultValue (fty ci j) = ((blank_ ci).map (rv sg b B)).getD j .null
        unfold blank_
        rw [List.getD_eq_getElem?_getD, List.getElem?_map, List.getElem?_map, ← c6, List.getElem?_range hj]
        exact fd_ok (c8 j hj)
      obtain ⟨p1, p2, p3⟩ := fin_new hP hH hS hat z1 o1
      have key := kk (aw' ++ [(ci, blank_ ci)]) H1 locs ls (wsnoc_rep hr _) p1 p2 p3 hl
      have er : rv sg b B (.inr (.inr (some (Nat.succ aw.1)))) = .ref H.size := by
        show Value.ref (B + aw.1) = _
        rw [hH]
        congr 2
        exact hr.1
      rw [c6]
      rw [← er]
      exact key
  · cases h
theorem z_def {sg : Nat → Int32} {b B : Nat} {t : ArrayType} (h : 13 ≤ ztag t) : newarray.typeOf t = tyA (ztag t) ∧ ztag t ≤ 19 ∧ aV sg b B (ztag t) (zval (ztag t)) = defaultValue (newarray.typeOf t) ∧ componentBytes (newarray.typeOf t) ≤ 8 := by
  cases t <;> first | exact ⟨rfl, by decide, rfl, by decide⟩ | (exfalso; revert h; decide)
theorem s_newa {p : Program} {l : Launch} {e : Env} {R : Room} {s : State} {m : MethodId} {args : Array Value} {below : List Frame} {meth : Method} {c : Code} {Q : State → Prop} {sg : Nat → Int32} {b B : Nat} {L : List Nat} {xs : Nat → Int32} {dC : Nat → ClassId} {dI : Nat → Nat → Nat} {cy : Nat → ClassId} {cc : ByteArray} {nL own : Nat} {ini : Bool} {ret : Option FieldType} {mc ms : Nat} {E : rE} {pc : Nat} {lv : rK} {st : List rV} {aw : rD} {cn z : Nat} {o : rO} {t : ArrayType} (hR : R.cells = mc ∧ R.slots = ms) (F : FF p s m args meth c cc nL own ini b B L xs dC dI cy) (hO : OT) (hE : eOK sg E) (hdg : decode cc pc = .ok (.newarray t, 2)) (h : h_newa t tT own ret ini mc ms L E pc lv st aw cn z = some o) : Sem p l e R s m args below meth c Q sg b B cy dC dI nL cc own ret mc ms o (pc, lv, st, aw, cn, z) := by
  obtain ⟨hx, hb, hml, ho, hts, hsf, hini⟩ := F
  unfold h_newa at h
  split at h
  · next x r =>
    split at h
    · next n hn =>
      cases h1 : (Nat.ble 13 (ztag t) && (Nat.ble n 100000 && (Nat.ble (Nat.add cn 1) mc && Nat.ble (Nat.add z n) ms))) with
      | false => rw [h1] at h; cases h
      | true =>
        rw [h1, cond_true, wsnoc_k] at h
        cases h
        rw [Bool.and_eq_true, Bool.and_eq_true, Bool.and_eq_true] at h1
        have g0 := Nat.le_of_ble_eq_true h1.1
        have g1 := Nat.le_of_ble_eq_true h1.2.1
        have g2 : cn + 1 ≤ mc := Nat.le_of_ble_eq_true h1.2.2.1
        have g3 : z + n ≤ ms := Nat.le_of_ble_eq_true h1.2.2.2
        obtain ⟨z1, z2, z3, z4⟩ := z_def (sg := sg) (b := b) (B := B) g0
        have en := nd_ok hE hn
        have harr : (Cond.arrayClass (newarray.typeOf t)).before args s = true := by
          obtain ⟨-, -, -, -, -, -, -, -, -, -, -, a1, a2, a3, a4⟩ := hO
          cases t <;> first | exact hts _ a1 | exact hts _ a2 | exact hts _ a3 | exact hts _ a4 | (exfalso; revert g0; decide)
        intro kk aw' H locs ls hr hP hH hS hl
        have key : W p l e R s m args below meth c H locs cn z Q (F0 m pc ls (.int (nI n) :: r.map (rv sg b B))) := by
          have hbytes : n * componentBytes (newarray.typeOf t) ≤ 536870912 := Nat.le_trans (Nat.mul_le_mul g1 z4) (by decide)
          refine va_newaK hx hb harr rfl hdg rfl (nI_pos (by omega)) (nI_clamp (by omega)) hbytes (by rw [hR.1]; exact g2) (by rw [hR.2]; exact g3) rfl fun H1 cA e1 z1' o1 hAr hNm => ?_
          have hcA : cA = cy (ztag t) := by
            have hRA := (hsf.1.2 (ztag t - 13) _ (tyA_at g0 z2)).2
            have : s.vm.findClass ("[" ++ (tyA (ztag t)).toString) = some (cy (ztag t)) := by
              cases t <;> first | exact hRA | (exfalso; revert g0; decide)
            rw [← z1] at this
            exact Option.some.inj (hNm.symm.trans this)
          subst hcA
          have hat : va_at (dC, dI) vwCl (B + aw'.length, rce sg b B cy (ztag t, List.replicate n (zval (ztag t)))) H1 := by
            rw [rce_arr (q := (ztag t, List.replicate n (zval (ztag t)))) g0]
            show H1[B + aw'.length]? = some (vp_cell _ _)
            rw [rA_cell, ← hH, e1, List.length_replicate]
            have hcong : ∀ f g : Nat → Value, (∀ j, j < n → f j = g j) → arrV (cy (ztag t)) n f = arrV (cy (ztag t)) n g := by
              intro f g hfg
              unfold arrV
              congr 2
              funext j
              exact hfg j.1 j.2
            congr 1
            apply hcong
            intro j hj
            rw [List.getD_eq_getElem?_getD, List.getElem?_replicate, if_pos hj]
            exact z3.symm
          obtain ⟨p1, p2, p3⟩ := fin_new hP hH hS hat z1' o1
          have key := kk (aw' ++ [(ztag t, List.replicate n (zval (ztag t)))]) H1 locs ls (wsnoc_rep hr _) p1 p2 p3 hl
          have er : rv sg b B (.inr (.inr (some (Nat.succ aw.1)))) = .ref H.size := by
            show Value.ref (B + aw.1) = _
            rw [hH]
            congr 2
            exact hr.1
          rw [← er]
          exact key
        rw [← en.2] at key
        exact key
    · cases h
  · cases h
theorem arr_cong {cA : ClassId} {n : Nat} (f g : Nat → Value) (hfg : ∀ j, j < n → f j = g j) : arrV cA n f = arrV cA n g := by
  unfold arrV
  congr 2
  funext j
  exact hfg j.1 j.2
theorem s_anew {p : Program} {l : Launch} {e : Env} {R : Room} {s : State} {m : MethodId} {args : Array Value} {below : List Frame} {meth : Method} {c : Code} {Q : State → Prop} {sg : Nat → Int32} {b B : Nat} {L : List Nat} {xs : Nat → Int32} {dC : Nat → ClassId} {dI : Nat → Nat → Nat} {cy : Nat → ClassId} {cc : ByteArray} {nL own : Nat} {ini : Bool} {ret : Option FieldType} {mc ms : Nat} {E : rE} {pc : Nat} {lv : rK} {st : List rV} {aw : rD} {cn z : Nat} {o : rO} {i : Nat} (hR : R.cells = mc ∧ R.slots = ms) (F : FF p s m args meth c cc nL own ini b B L xs dC dI cy) (hO : OT) (hE : eOK sg E) (hdg : decode cc pc = .ok (.anewarray i, 3)) (h : h_anew i tT own ret ini mc ms L E pc lv st aw cn z = some o) : Sem p l e R s m args below meth c Q sg b B cy dC dI nL cc own ret mc ms o (pc, lv, st, aw, cn, z) := by
  obtain ⟨hx, hb, hml, ho, hts, hsf, hini⟩ := F
  unfold h_anew at h
  split at h
  · next x r =>
    split at h
    · next ci hk =>
      split at h
      · next n hn =>
        cases h1 : ((Nat.beq ci 6 || Nat.beq ci 10) && (Nat.ble n 100000 && (Nat.ble (Nat.add cn 1) mc && Nat.ble (Nat.add z n) ms))) with
        | false => rw [h1] at h; cases h
        | true =>
          rw [h1, cond_true, wsnoc_k] at h
          cases h
          rw [Bool.and_eq_true, Bool.and_eq_true, Bool.and_eq_true, Bool.or_eq_true] at h1
          have g1 := Nat.le_of_ble_eq_true h1.2.1
          have g2 : cn + 1 ≤ mc := Nat.le_of_ble_eq_true h1.2.2.1
          have g3 : z + n ≤ ms := Nat.le_of_ble_eq_true h1.2.2.2
          have en := nd_ok hE hn
          obtain ⟨t, C, ht, ht13, ht19, htc, hlink, hao⟩ : ∃ (t : Nat) (C : String), (bif Nat.beq ci 6 then 17 else 18) = t ∧ 17 ≤ t ∧ t ≤ 18 ∧ tyA t = .object C ∧ (Cond.classLink (oN own) i C ∈ TG) ∧ va_AO C s := by
            rcases h1.1 with g | g
            · have g' := Nat.eq_of_beq_eq_true g
              subst g'
              obtain ⟨C, T, N, hc, hlink⟩ := (hO.2.2.1 own i 6 (kf_mem hk)).1 (by decide)
              have hc' : (RX6, TX6, 4) = (C, T, N) := Option.some.inj hc
              cases hc'
              exact ⟨17, "AyeJars$Jars", rfl, by decide, by decide, rfl, hlink, hsf.2.1.1⟩
            · have g' := Nat.eq_of_beq_eq_true g
              subst g'
              obtain ⟨C, T, N, hc, hlink⟩ := (hO.2.2.1 own i 10 (kf_mem hk)).1 (by decide)
              have hc' : (RX10, TX10, 7) = (C, T, N) := Option.some.inj hc
              cases hc'
              exact ⟨18, "AyeJars$Trial", rfl, by decide, by decide, rfl, hlink, hsf.2.1.2.1⟩
          rw [ht]
          intro kk aw' H locs ls hr hP hH hS hl
          have key : W p l e R s m args below meth c H locs cn z Q (F0 m pc ls (.int (nI n) :: r.map (rv sg b B))) := by
            refine W.anew hx hb ho (hts _ hlink) (va_AO.use hao) rfl hdg rfl (nI_pos (by omega)) (by rw [nI_clamp (by omega)]; omega) (by rw [hR.1]; exact g2) (by rw [hR.2, nI_clamp (by omega)]; exact g3) fun cA kA comp f1 f2 f3 f4 => ?_
            rw [nI_clamp (by omega)]
            generalize hH1 : H.push ({ cls := cA, slots := Array.replicate n .null, vm := .none } : Cell) = H1
            have z1 : H1.size = H.size + 1 := by rw [← hH1, Array.size_push]
            have e1 : H1[H.size]? = some (arrV cA n (fun _ => .null)) := by rw [← hH1, Array.getElem?_push_size, ← arrV_new]
            have o1 : ∀ q : Nat, q < H.size → H1[q]? = H[q]? := fun q hq => by rw [← hH1, Array.getElem?_push, if_neg (Nat.ne_of_lt hq)]
            have hcA : cA = cy t := by
              have hRA := (hsf.1.2 (t - 13) _ (tyA_at (by omega) (by omega))).2
              rw [htc] at hRA
              obtain ⟨-, -, -, -, -, h4⟩ := hRA
              exact Option.some.inj (f1.symm.trans h4)
            subst hcA
            have hat : va_at (dC, dI) vwCl (B + aw'.length, rce sg b B cy (t, List.replicate n (.inr (.inr none)))) H1 := by
              rw [rce_arr (q := (t, List.replicate n (.inr (.inr none)))) (by show 13 ≤ t; omega)]
              show H1[B + aw'.length]? = some (vp_cell _ _)
              rw [rA_cell, ← hH, e1, List.length_replicate]
              congr 1
              apply arr_cong
              intro j hj
              rw [List.getD_eq_getElem?_getD, List.getElem?_replicate, if_pos hj]
              unfold aV
              rw [if_neg (by omega), if_neg (by omega)]
              rfl
            obtain ⟨p1, p2, p3⟩ := fin_new hP hH hS hat z1 o1
            have key := kk (aw' ++ [(t, List.replicate n (.inr (.inr none)))]) H1 locs ls (wsnoc_rep hr _) p1 p2 p3 hl
            have er : rv sg b B (.inr (.inr (some (Nat.succ aw.1)))) = .ref H.size := by
              show Value.ref (B + aw.1) = _
              rw [hH]
              congr 2
              exact hr.1
            rw [← er]
            exact key
          rw [← en.2] at key
          exact key
      · cases h
    · cases h
  · cases h
