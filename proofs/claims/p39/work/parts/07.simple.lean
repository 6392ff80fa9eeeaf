/-! rules: locals, constants, the stack, arithmetic, branches -/
theorem s_ildI {p : Program} {l : Launch} {e : Env} {R : Room} {s : State} {m : MethodId} {args : Array Value} {below : List Frame} {meth : Method} {c : Code} {Q : State → Prop} {sg : Nat → Int32} {b B : Nat} {L : List Nat} {dC : Nat → ClassId} {dI : Nat → Nat → Nat} {cy : Nat → ClassId} {cc : ByteArray} {nL own : Nat} {ini : Bool} {ret : Option FieldType} {mc ms : Nat} {E : rE} {pc : Nat} {lv : rK} {st : List rV} {aw : rD} {cn z : Nat} {o : rO} {i w : Nat} (hrow : ∀ (x : Int32) (H : Heap) (locs : List Loc) (cn z : Nat) (ls : Array Slot) (rest : List Value), ls[i]? = some (.val (.int x)) → W p l e R s m args below meth c H locs cn z Q (F0 m (pc + w) ls (.int x :: rest)) → W p l e R s m args below meth c H locs cn z Q (F0 m pc ls rest)) (h : h_ildI i w tT own ret ini mc ms L E pc lv st aw cn z = some o) : Sem p l e R s m args below meth c Q sg b B cy dC dI nL cc own ret mc ms o (pc, lv, st, aw, cn, z) := by
  unfold h_ildI at h
  split at h
  · next v hv =>
    cases h
    intro k aw' H locs ls hr hP hH hS hl
    exact hrow _ H locs _ _ ls _ (clv_at hl hv) (k aw' H locs ls hr hP hH hS hl)
  · cases h
theorem s_ildA {p : Program} {l : Launch} {e : Env} {R : Room} {s : State} {m : MethodId} {args : Array Value} {below : List Frame} {meth : Method} {c : Code} {Q : State → Prop} {sg : Nat → Int32} {b B : Nat} {L : List Nat} {dC : Nat → ClassId} {dI : Nat → Nat → Nat} {cy : Nat → ClassId} {cc : ByteArray} {nL own : Nat} {ini : Bool} {ret : Option FieldType} {mc ms : Nat} {E : rE} {pc : Nat} {lv : rK} {st : List rV} {aw : rD} {cn z : Nat} {o : rO} {i w : Nat} (hrow : ∀ (x : Nat) (H : Heap) (locs : List Loc) (cn z : Nat) (ls : Array Slot) (rest : List Value), ls[i]? = some (.val (.ref x)) → W p l e R s m args below meth c H locs cn z Q (F0 m (pc + w) ls (.ref x :: rest)) → W p l e R s m args below meth c H locs cn z Q (F0 m pc ls rest)) (h : h_ildA i w tT own ret ini mc ms L E pc lv st aw cn z = some o) : Sem p l e R s m args below meth c Q sg b B cy dC dI nL cc own ret mc ms o (pc, lv, st, aw, cn, z) := by
  unfold h_ildA at h
  split at h
  · next v hv =>
    cases h
    intro k aw' H locs ls hr hP hH hS hl
    exact hrow _ H locs _ _ ls _ (clv_at hl hv) (k aw' H locs ls hr hP hH hS hl)
  · cases h
theorem s_ildL {p : Program} {l : Launch} {e : Env} {R : Room} {s : State} {m : MethodId} {args : Array Value} {below : List Frame} {meth : Method} {c : Code} {Q : State → Prop} {sg : Nat → Int32} {b B : Nat} {L : List Nat} {dC : Nat → ClassId} {dI : Nat → Nat → Nat} {cy : Nat → ClassId} {cc : ByteArray} {nL own : Nat} {ini : Bool} {ret : Option FieldType} {mc ms : Nat} {E : rE} {pc : Nat} {lv : rK} {st : List rV} {aw : rD} {cn z : Nat} {o : rO} {i w : Nat} (hrow : ∀ (x : Int64) (H : Heap) (locs : List Loc) (cn z : Nat) (ls : Array Slot) (rest : List Value), ls[i]? = some (.val (.long x)) → W p l e R s m args below meth c H locs cn z Q (F0 m (pc + w) ls (.long x :: rest)) → W p l e R s m args below meth c H locs cn z Q (F0 m pc ls rest)) (h : h_ildL i w tT own ret ini mc ms L E pc lv st aw cn z = some o) : Sem p l e R s m args below meth c Q sg b B cy dC dI nL cc own ret mc ms o (pc, lv, st, aw, cn, z) := by
  unfold h_ildL at h
  split at h
  · next v hv =>
    cases h
    intro k aw' H locs ls hr hP hH hS hl
    exact hrow _ H locs _ _ ls _ (clv_at hl hv) (k aw' H locs ls hr hP hH hS hl)
  · cases h
theorem s_istI {p : Program} {l : Launch} {e : Env} {R : Room} {s : State} {m : MethodId} {args : Array Value} {below : List Frame} {meth : Method} {c : Code} {Q : State → Prop} {sg : Nat → Int32} {b B : Nat} {L : List Nat} {dC : Nat → ClassId} {dI : Nat → Nat → Nat} {cy : Nat → ClassId} {cc : ByteArray} {nL own : Nat} {ini : Bool} {ret : Option FieldType} {mc ms : Nat} {E : rE} {pc : Nat} {lv : rK} {st : List rV} {aw : rD} {cn z : Nat} {o : rO} {i w : Nat} (hrow : ∀ (x : Int32) (H : Heap) (locs : List Loc) (cn z : Nat) (ls : Array Slot) (rest : List Value) (lv lv' : List (Nat × Value)), lv_has ls nL lv → (i, Value.int x) :: lv.filter (fun q => !(q.1 == i) && !(q.1 + 1 == i && q.2.category == 2)) = lv' → (∀ ls' : Array Slot, lv_has ls' nL lv' → W p l e R s m args below meth c H locs cn z Q (F0 m (pc + w) ls' rest)) → W p l e R s m args below meth c H locs cn z Q (F0 m pc ls (.int x :: rest))) (h : h_istI i w tT own ret ini mc ms L E pc lv st aw cn z = some o) : Sem p l e R s m args below meth c Q sg b B cy dC dI nL cc own ret mc ms o (pc, lv, st, aw, cn, z) := by
  unfold h_istI at h
  split at h
  · next v r =>
    rw [lput_eq] at h
    cases h
    intro k aw' H locs ls hr hP hH hS hl
    exact hrow _ H locs _ _ ls _ _ _ hl (by rw [clv_filter]; rfl) (fun ls' hl' => k aw' H locs ls' hr hP hH hS hl')
  · cases h
theorem s_istA {p : Program} {l : Launch} {e : Env} {R : Room} {s : State} {m : MethodId} {args : Array Value} {below : List Frame} {meth : Method} {c : Code} {Q : State → Prop} {sg : Nat → Int32} {b B : Nat} {L : List Nat} {dC : Nat → ClassId} {dI : Nat → Nat → Nat} {cy : Nat → ClassId} {cc : ByteArray} {nL own : Nat} {ini : Bool} {ret : Option FieldType} {mc ms : Nat} {E : rE} {pc : Nat} {lv : rK} {st : List rV} {aw : rD} {cn z : Nat} {o : rO} {i w : Nat} (hrow : ∀ (x : Nat) (H : Heap) (locs : List Loc) (cn z : Nat) (ls : Array Slot) (rest : List Value) (lv lv' : List (Nat × Value)), lv_has ls nL lv → (i, Value.ref x) :: lv.filter (fun q => !(q.1 == i) && !(q.1 + 1 == i && q.2.category == 2)) = lv' → (∀ ls' : Array Slot, lv_has ls' nL lv' → W p l e R s m args below meth c H locs cn z Q (F0 m (pc + w) ls' rest)) → W p l e R s m args below meth c H locs cn z Q (F0 m pc ls (.ref x :: rest))) (h : h_istA i w tT own ret ini mc ms L E pc lv st aw cn z = some o) : Sem p l e R s m args below meth c Q sg b B cy dC dI nL cc own ret mc ms o (pc, lv, st, aw, cn, z) := by
  unfold h_istA at h
  split at h
  · next v r =>
    rw [lput_eq] at h
    cases h
    intro k aw' H locs ls hr hP hH hS hl
    exact hrow _ H locs _ _ ls _ _ _ hl (by rw [clv_filter]; rfl) (fun ls' hl' => k aw' H locs ls' hr hP hH hS hl')
  · cases h
theorem s_istL {p : Program} {l : Launch} {e : Env} {R : Room} {s : State} {m : MethodId} {args : Array Value} {below : List Frame} {meth : Method} {c : Code} {Q : State → Prop} {sg : Nat → Int32} {b B : Nat} {L : List Nat} {dC : Nat → ClassId} {dI : Nat → Nat → Nat} {cy : Nat → ClassId} {cc : ByteArray} {nL own : Nat} {ini : Bool} {ret : Option FieldType} {mc ms : Nat} {E : rE} {pc : Nat} {lv : rK} {st : List rV} {aw : rD} {cn z : Nat} {o : rO} {i w : Nat} (hrow : ∀ (x : Int64) (H : Heap) (locs : List Loc) (cn z : Nat) (ls : Array Slot) (rest : List Value) (lv lv' : List (Nat × Value)), lv_has ls nL lv → (i, Value.long x) :: lv.filter (fun q => !(q.1 == i) && (!(q.1 == i + 1) && !(q.1 + 1 == i && q.2.category == 2))) = lv' → (∀ ls' : Array Slot, lv_has ls' nL lv' → W p l e R s m args below meth c H locs cn z Q (F0 m (pc + w) ls' rest)) → W p l e R s m args below meth c H locs cn z Q (F0 m pc ls (.long x :: rest))) (h : h_istL i w tT own ret ini mc ms L E pc lv st aw cn z = some o) : Sem p l e R s m args below meth c Q sg b B cy dC dI nL cc own ret mc ms o (pc, lv, st, aw, cn, z) := by
  unfold h_istL at h
  split at h
  · next v r =>
    rw [lput2_eq] at h
    cases h
    intro k aw' H locs ls hr hP hH hS hl
    exact hrow _ H locs _ _ ls _ _ _ hl (by rw [clv_filter2]; rfl) (fun ls' hl' => k aw' H locs ls' hr hP hH hS hl')
  · cases h
theorem s_con {p : Program} {l : Launch} {e : Env} {R : Room} {s : State} {m : MethodId} {args : Array Value} {below : List Frame} {meth : Method} {c : Code} {Q : State → Prop} {sg : Nat → Int32} {b B : Nat} {L : List Nat} {dC : Nat → ClassId} {dI : Nat → Nat → Nat} {cy : Nat → ClassId} {cc : ByteArray} {nL own : Nat} {ini : Bool} {ret : Option FieldType} {mc ms : Nat} {E : rE} {pc : Nat} {lv : rK} {st : List rV} {aw : rD} {cn z : Nat} {o : rO} {n w : Nat} {x : Int32} (hx : ri sg n = x) (hrow : ∀ (H : Heap) (locs : List Loc) (cn z : Nat) (ls : Array Slot) (rest : List Value), W p l e R s m args below meth c H locs cn z Q (F0 m (pc + w) ls (.int x :: rest)) → W p l e R s m args below meth c H locs cn z Q (F0 m pc ls rest)) (h : h_con n w tT own ret ini mc ms L E pc lv st aw cn z = some o) : Sem p l e R s m args below meth c Q sg b B cy dC dI nL cc own ret mc ms o (pc, lv, st, aw, cn, z) := by
  unfold h_con at h
  cases h
  intro k aw' H locs ls hr hP hH hS hl
  refine hrow H locs _ _ ls _ ?_
  have := k aw' H locs ls hr hP hH hS hl
  rw [← hx]
  exact this
theorem s_conL {p : Program} {l : Launch} {e : Env} {R : Room} {s : State} {m : MethodId} {args : Array Value} {below : List Frame} {meth : Method} {c : Code} {Q : State → Prop} {sg : Nat → Int32} {b B : Nat} {L : List Nat} {dC : Nat → ClassId} {dI : Nat → Nat → Nat} {cy : Nat → ClassId} {cc : ByteArray} {nL own : Nat} {ini : Bool} {ret : Option FieldType} {mc ms : Nat} {E : rE} {pc : Nat} {lv : rK} {st : List rV} {aw : rD} {cn z : Nat} {o : rO} {n w : Nat} {x : Int64} (hx : lN n = x) (hrow : ∀ (H : Heap) (locs : List Loc) (cn z : Nat) (ls : Array Slot) (rest : List Value), W p l e R s m args below meth c H locs cn z Q (F0 m (pc + w) ls (.long x :: rest)) → W p l e R s m args below meth c H locs cn z Q (F0 m pc ls rest)) (h : h_conL n w tT own ret ini mc ms L E pc lv st aw cn z = some o) : Sem p l e R s m args below meth c Q sg b B cy dC dI nL cc own ret mc ms o (pc, lv, st, aw, cn, z) := by
  unfold h_conL at h
  cases h
  intro k aw' H locs ls hr hP hH hS hl
  refine hrow H locs _ _ ls _ ?_
  have := k aw' H locs ls hr hP hH hS hl
  rw [← hx]
  exact this
theorem s_ldcw {p : Program} {l : Launch} {e : Env} {R : Room} {s : State} {m : MethodId} {args : Array Value} {below : List Frame} {meth : Method} {c : Code} {Q : State → Prop} {sg : Nat → Int32} {b B : Nat} {L : List Nat} {xs : Nat → Int32} {dC : Nat → ClassId} {dI : Nat → Nat → Nat} {cy : Nat → ClassId} {cc : ByteArray} {nL own : Nat} {ini : Bool} {ret : Option FieldType} {mc ms : Nat} {E : rE} {pc : Nat} {lv : rK} {st : List rV} {aw : rD} {cn z : Nat} {o : rO} {i : Nat} (F : FF p s m args meth c cc nL own ini b B L xs dC dI cy) (hO : OT) (hdg : decode cc pc = .ok (.ldc_w i, 3)) (hown : own < 100) (h : h_ldcw i tT own ret ini mc ms L E pc lv st aw cn z = some o) : Sem p l e R s m args below meth c Q sg b B cy dC dI nL cc own ret mc ms o (pc, lv, st, aw, cn, z) := by
  obtain ⟨hx, hb, hml, ho, hts, hsf, hin⟩ := F
  unfold h_ldcw at h
  split at h
  · next n hn =>
    cases hbb : Nat.ble n 4294967295 with
    | false => rw [hbb] at h; cases h
    | true =>
      rw [hbb, cond_true] at h
      cases h
      intro k aw' H locs ls hr hP hH hS hl
      refine lv_ldcw hx hb ho (hts _ ((hO.2.2.2.1 own i n (kf_mem hn)).1 hown)) hdg ?_
      have := k aw' H locs ls hr hP hH hS hl
      have e : ri sg n = nI n := ri_c (Nat.lt_succ_of_le (Nat.le_of_ble_eq_true hbb))
      rw [← e]
      exact this
  · cases h
theorem s_ldc2 {p : Program} {l : Launch} {e : Env} {R : Room} {s : State} {m : MethodId} {args : Array Value} {below : List Frame} {meth : Method} {c : Code} {Q : State → Prop} {sg : Nat → Int32} {b B : Nat} {L : List Nat} {xs : Nat → Int32} {dC : Nat → ClassId} {dI : Nat → Nat → Nat} {cy : Nat → ClassId} {cc : ByteArray} {nL own : Nat} {ini : Bool} {ret : Option FieldType} {mc ms : Nat} {E : rE} {pc : Nat} {lv : rK} {st : List rV} {aw : rD} {cn z : Nat} {o : rO} {i : Nat} (F : FF p s m args meth c cc nL own ini b B L xs dC dI cy) (hO : OT) (hdg : decode cc pc = .ok (.ldc2_w i, 3)) (h : h_ldc2 i tT own ret ini mc ms L E pc lv st aw cn z = some o) : Sem p l e R s m args below meth c Q sg b B cy dC dI nL cc own ret mc ms o (pc, lv, st, aw, cn, z) := by
  obtain ⟨hx, hb, hml, ho, hts, hsf, hin⟩ := F
  unfold h_ldc2 at h
  split at h
  · next n hn =>
    cases h
    intro k aw' H locs ls hr hP hH hS hl
    have h1 := (hO.2.2.2.1 (Nat.add 100 own) i n (kf_mem hn)).2 (Nat.le_add_right 100 own)
    have e : Nat.add 100 own - 100 = own := Nat.add_sub_cancel_left 100 own
    rw [e] at h1
    exact lv_ldc2 hx hb ho (hts _ h1) hdg (k aw' H locs ls hr hP hH hS hl)
  · cases h
theorem s_iinc {p : Program} {l : Launch} {e : Env} {R : Room} {s : State} {m : MethodId} {args : Array Value} {below : List Frame} {meth : Method} {c : Code} {Q : State → Prop} {sg : Nat → Int32} {b B : Nat} {L : List Nat} {xs : Nat → Int32} {dC : Nat → ClassId} {dI : Nat → Nat → Nat} {cy : Nat → ClassId} {cc : ByteArray} {nL own : Nat} {ini : Bool} {ret : Option FieldType} {mc ms : Nat} {E : rE} {pc : Nat} {lv : rK} {st : List rV} {aw : rD} {cn z : Nat} {o : rO} {i : Nat} {n : Int} (F : FF p s m args meth c cc nL own ini b B L xs dC dI cy) (hE : eOK sg E) (hdg : decode cc pc = .ok (.iinc i n, 3)) (hi : i < nL) (h : h_iinc i n tT own ret ini mc ms L E pc lv st aw cn z = some o) : Sem p l e R s m args below meth c Q sg b B cy dC dI nL cc own ret mc ms o (pc, lv, st, aw, cn, z) := by
  obtain ⟨hx, hb, hml, ho, hts, hsf, hin⟩ := F
  unfold h_iinc at h
  split at h
  · next v hv =>
    split at h
    · next a ha =>
      rw [fN_eq, lput_eq] at h
      cases h
      intro k aw' H locs ls hr hP hH hS hl
      have hmem := clv_mem (sg := sg) (b := b) (B := B) hv
      obtain ⟨q, hq⟩ := List.getElem?_of_mem hmem
      refine lv_iinc (v := nI a + Int32.ofInt n) hx hb hdg hl (k := q) hq ?_ hi (by rw [clv_filter]) (fun ls' hl' => k aw' H locs ls' hr hP hH hS ?_)
      · rw [(nd_ok hE ha).2]
      · have e : ri sg (cN (nI a + Int32.ofInt n)) = nI a + Int32.ofInt n := ri_cN _
        show lv_has ls' nL ((i, Value.int (ri sg (cN (nI a + Int32.ofInt n)))) :: _)
        rw [e]
        exact hl'
    · cases h
  · cases h
theorem tg_ok {pc t : Nat} {off : Int} (h : tg pc off = some t) : (pc : Int) + off = (t : Int) := by
  unfold tg at h
  split at h
  · next t' ht => cases h; exact ht
  · cases h
theorem s_goto {p : Program} {l : Launch} {e : Env} {R : Room} {s : State} {m : MethodId} {args : Array Value} {below : List Frame} {meth : Method} {c : Code} {Q : State → Prop} {sg : Nat → Int32} {b B : Nat} {L : List Nat} {xs : Nat → Int32} {dC : Nat → ClassId} {dI : Nat → Nat → Nat} {cy : Nat → ClassId} {cc : ByteArray} {nL own : Nat} {ini : Bool} {ret : Option FieldType} {mc ms : Nat} {E : rE} {pc : Nat} {lv : rK} {st : List rV} {aw : rD} {cn z : Nat} {o : rO} {off : Int} (F : FF p s m args meth c cc nL own ini b B L xs dC dI cy) (hdg : decode cc pc = .ok (.goto off, 3)) (h : h_goto off tT own ret ini mc ms L E pc lv st aw cn z = some o) : Sem p l e R s m args below meth c Q sg b B cy dC dI nL cc own ret mc ms o (pc, lv, st, aw, cn, z) := by
  obtain ⟨hx, hb, hml, ho, hts, hsf, hin⟩ := F
  unfold h_goto at h
  split at h
  · next t ht =>
    cases h
    intro k aw' H locs ls hr hP hH hS hl
    exact lv_goto hx hb hdg (tg_ok ht) (k aw' H locs ls hr hP hH hS hl)
  · cases h
theorem s_dup {p : Program} {l : Launch} {e : Env} {R : Room} {s : State} {m : MethodId} {args : Array Value} {below : List Frame} {meth : Method} {c : Code} {Q : State → Prop} {sg : Nat → Int32} {b B : Nat} {L : List Nat} {xs : Nat → Int32} {dC : Nat → ClassId} {dI : Nat → Nat → Nat} {cy : Nat → ClassId} {cc : ByteArray} {nL own : Nat} {ini : Bool} {ret : Option FieldType} {mc ms : Nat} {E : rE} {pc : Nat} {lv : rK} {st : List rV} {aw : rD} {cn z : Nat} {o : rO} (F : FF p s m args meth c cc nL own ini b B L xs dC dI cy) (hdg : decode cc pc = .ok (.dup, 1)) (h : h_dup tT own ret ini mc ms L E pc lv st aw cn z = some o) : Sem p l e R s m args below meth c Q sg b B cy dC dI nL cc own ret mc ms o (pc, lv, st, aw, cn, z) := by
  obtain ⟨hx, hb, hml, ho, hts, hsf, hin⟩ := F
  unfold h_dup at h
  split at h
  · next v r =>
    cases hc : Nat.beq (ct v) 1 with
    | false => rw [hc] at h; cases h
    | true =>
      rw [hc, cond_true] at h
      cases h
      intro k aw' H locs ls hr hP hH hS hl
      exact lv_dup hx hb hdg (by rw [ct_eq]; exact Nat.eq_of_beq_eq_true hc) (k aw' H locs ls hr hP hH hS hl)
  · cases h
theorem s_dup2 {p : Program} {l : Launch} {e : Env} {R : Room} {s : State} {m : MethodId} {args : Array Value} {below : List Frame} {meth : Method} {c : Code} {Q : State → Prop} {sg : Nat → Int32} {b B : Nat} {L : List Nat} {xs : Nat → Int32} {dC : Nat → ClassId} {dI : Nat → Nat → Nat} {cy : Nat → ClassId} {cc : ByteArray} {nL own : Nat} {ini : Bool} {ret : Option FieldType} {mc ms : Nat} {E : rE} {pc : Nat} {lv : rK} {st : List rV} {aw : rD} {cn z : Nat} {o : rO} (F : FF p s m args meth c cc nL own ini b B L xs dC dI cy) (hdg : decode cc pc = .ok (.dup2, 1)) (h : h_dup2 tT own ret ini mc ms L E pc lv st aw cn z = some o) : Sem p l e R s m args below meth c Q sg b B cy dC dI nL cc own ret mc ms o (pc, lv, st, aw, cn, z) := by
  obtain ⟨hx, hb, hml, ho, hts, hsf, hin⟩ := F
  unfold h_dup2 at h
  split at h
  · next v w r =>
    cases hc : (Nat.beq (ct v) 1 && Nat.beq (ct w) 1) with
    | false => rw [hc] at h; cases h
    | true =>
      rw [hc, cond_true] at h
      cases h
      rw [Bool.and_eq_true] at hc
      intro k aw' H locs ls hr hP hH hS hl
      exact lv_dup2_11 hx hb hdg (by rw [ct_eq]; exact Nat.eq_of_beq_eq_true hc.1) (by rw [ct_eq]; exact Nat.eq_of_beq_eq_true hc.2) (k aw' H locs ls hr hP hH hS hl)
  · cases h
/-! arithmetic -/
theorem shr0 (y : Int32) : (0 : Int32) >>> y = 0 := by
  apply Int32.toBitVec_inj.mp
  simp
theorem sp_ok {sg : Nat → Int32} {L : List Nat} {xs : Nat → Int32} (hs : SG sg L xs) {k x y n : Nat} (h : sp k x y = some n) : ri sg n = op k (ri sg x) (ri sg y) := by
  unfold sp at h
  split at h
  · cases h1 : Nat.beq x 0 with
    | true =>
      rw [h1, cond_true] at h
      cases h
      rw [Nat.eq_of_beq_eq_true h1]
      show ri sg y = nI 0 + ri sg y
      rw [nI_0]
      simp
    | false =>
      rw [h1, cond_false] at h
      cases h2 : Nat.beq y 0 with
      | false => rw [h2] at h; cases h
      | true =>
        rw [h2, cond_true] at h
        cases h
        rw [Nat.eq_of_beq_eq_true h2]
        show ri sg x = ri sg x + nI 0
        rw [nI_0]
        simp
  · cases h1 : (Nat.beq y 63 && (Nat.ble 4294967296 x && Nat.ble x 4294967303)) with
    | false => rw [h1] at h; cases h
    | true =>
      rw [h1, cond_true] at h
      cases h
      rw [Bool.and_eq_true, Bool.and_eq_true] at h1
      obtain ⟨h2, h3, h4⟩ := h1
      have h2 := Nat.eq_of_beq_eq_true h2
      have h3 := Nat.le_of_ble_eq_true h3
      have h4 := Nat.le_of_ble_eq_true h4
      obtain ⟨j, rfl⟩ : ∃ j, x = 4294967296 + j := ⟨x - 4294967296, by omega⟩
      subst h2
      have e : Nat.add (4294967296 + j) 8 = 4294967296 + (j + 8) := by show 4294967296 + j + 8 = _; omega
      rw [e, ri_u, ri_u, hs.1 j (by omega)]
      rfl
  · cases h1 : Nat.beq x 0 with
    | true =>
      rw [h1, cond_true] at h
      cases h
      rw [Nat.eq_of_beq_eq_true h1]
      show nI 0 = nI 0 >>> (ri sg y &&& 31)
      rw [nI_0, shr0]
    | false =>
      rw [h1, cond_false] at h
      cases h2 : (Nat.ble 4294967296 x && (Nat.ble x 4294967303 && Nat.ble y 31)) with
      | false => rw [h2] at h; cases h
      | true =>
        rw [h2, cond_true] at h
        cases h
        rw [Bool.and_eq_true, Bool.and_eq_true] at h2
        obtain ⟨h3, h4, h5⟩ := h2
        have h3 := Nat.le_of_ble_eq_true h3
        have h4 := Nat.le_of_ble_eq_true h4
        have h5 := Nat.le_of_ble_eq_true h5
        obtain ⟨j, rfl⟩ : ∃ j, x = 4294967296 + j := ⟨x - 4294967296, by omega⟩
        have e : Nat.add 4294967312 (Nat.add (Nat.mul 32 (Nat.sub (4294967296 + j) 4294967296)) y) = 4294967296 + (16 + (32 * j + y)) := by
          show 4294967312 + (32 * (4294967296 + j - 4294967296) + y) = _
          omega
        rw [e, ri_u, ri_u, hs.2.1 j y (by omega) (by omega)]
        show _ = sg j >>> (ri sg y &&& 31)
        rw [ri_c (by omega)]
  · cases h
theorem s_aop {p : Program} {l : Launch} {e : Env} {R : Room} {s : State} {m : MethodId} {args : Array Value} {below : List Frame} {meth : Method} {c : Code} {Q : State → Prop} {sg : Nat → Int32} {b B : Nat} {L : List Nat} {xs : Nat → Int32} {dC : Nat → ClassId} {dI : Nat → Nat → Nat} {cy : Nat → ClassId} {cc : ByteArray} {nL own : Nat} {ini : Bool} {ret : Option FieldType} {mc ms : Nat} {E : rE} {pc : Nat} {lv : rK} {st : List rV} {aw : rD} {cn z : Nat} {o : rO} {k : Nat} (hs : SG sg L xs) (hE : eOK sg E) (hrow : ∀ (x y : Int32) (H : Heap) (locs : List Loc) (cn z : Nat) (ls : Array Slot) (rest : List Value), (8 ≤ k → ¬ y = 0) → W p l e R s m args below meth c H locs cn z Q (F0 m (pc + 1) ls (.int (op k x y) :: rest)) → W p l e R s m args below meth c H locs cn z Q (F0 m pc ls (.int y :: .int x :: rest))) (hk : 8 ≤ k → ∀ x y, sp k x y = none) (h : h_aop k tT own ret ini mc ms L E pc lv st aw cn z = some o) : Sem p l e R s m args below meth c Q sg b B cy dC dI nL cc own ret mc ms o (pc, lv, st, aw, cn, z) := by
  unfold h_aop aop at h
  have fin : ∀ (x y n : Nat) (r : List rV), ri sg n = op k (ri sg x) (ri sg y) → (8 ≤ k → ¬ ri sg y = 0) → Wx p l e R s m args below meth c Q sg b B cy dC dI nL (Nat.add pc 1, lv, .inl n :: r, aw, cn, z) → Wx p l e R s m args below meth c Q sg b B cy dC dI nL (pc, lv, .inl y :: .inl x :: r, aw, cn, z) := by
    intro x y n r e h8 kk aw' H locs ls hr hP hH hS hl
    refine hrow (ri sg x) (ri sg y) H locs _ _ ls _ h8 ?_
    rw [← e]
    exact kk aw' H locs ls hr hP hH hS hl
  have spz : ∀ (x : Nat) (q : rO), spl E x = some q → Sem p l e R s m args below meth c Q sg b B cy dC dI nL cc own ret mc ms q (pc, lv, st, aw, cn, z) := by
    intro x q hq
    unfold spl at hq
    cases hb : (Nat.ble 4294967296 x && Nat.ble (Nat.sub (iv E x).2 (iv E x).1) 64) with
    | false => rw [hb] at hq; cases hq
    | true => rw [hb, cond_true] at hq; cases hq; exact True.intro
  split at h
  · next y x r =>
    split at h
    · next a ha =>
      split at h
      · next d hd =>
        cases hz : (Nat.ble 8 k && Nat.beq d 0) with
        | true => rw [hz] at h; cases h
        | false =>
          rw [hz, cond_false, fN_eq] at h
          cases h
          refine fin x y _ r ?_ ?_
          · rw [ri_cN, (nd_ok hE ha).2, (nd_ok hE hd).2]
          · intro h8 h0
            rw [Bool.and_eq_false_iff] at hz
            rcases hz with hz | hz
            · rw [Nat.ble_eq_true_of_le h8] at hz
              cases hz
            · rw [(nd_ok hE hd).2] at h0
              have e0 : nI d = nI 0 := h0
              have e1 := congrArg bz e0
              rw [bz_nI (nd_ok hE hd).1, bz_nI (by decide)] at e1
              have e2 := congrArg un e1
              rw [un_un (nd_ok hE hd).1, un_un (by decide)] at e2
              subst e2
              cases hz
      · split at h
        · next n hn =>
          cases h
          refine fin x y n r (sp_ok hs hn) (fun h8 => ?_)
          rw [hk h8] at hn
          cases hn
        · exact spz y o h
    · split at h
      · next n hn =>
        cases h
        refine fin x y n r (sp_ok hs hn) (fun h8 => ?_)
        rw [hk h8] at hn
        cases hn
      · exact spz x o h
  · cases h
theorem s_aopL {p : Program} {l : Launch} {e : Env} {R : Room} {s : State} {m : MethodId} {args : Array Value} {below : List Frame} {meth : Method} {c : Code} {Q : State → Prop} {sg : Nat → Int32} {b B : Nat} {L : List Nat} {dC : Nat → ClassId} {dI : Nat → Nat → Nat} {cy : Nat → ClassId} {cc : ByteArray} {nL own : Nat} {ini : Bool} {ret : Option FieldType} {mc ms : Nat} {E : rE} {pc : Nat} {lv : rK} {st : List rV} {aw : rD} {cn z : Nat} {o : rO} {k : Nat} (hrow : ∀ (x y : Int64) (H : Heap) (locs : List Loc) (cn z : Nat) (ls : Array Slot) (rest : List Value), W p l e R s m args below meth c H locs cn z Q (F0 m (pc + 1) ls (.long (opL k x y) :: rest)) → W p l e R s m args below meth c H locs cn z Q (F0 m pc ls (.long y :: .long x :: rest))) (h : h_aopL k tT own ret ini mc ms L E pc lv st aw cn z = some o) : Sem p l e R s m args below meth c Q sg b B cy dC dI nL cc own ret mc ms o (pc, lv, st, aw, cn, z) := by
  unfold h_aopL aopL at h
  split at h
  · next y x r =>
    rw [fN_eq] at h
    cases h
    intro kk aw' H locs ls hr hP hH hS hl
    refine hrow (lN x) (lN y) H locs _ _ ls _ ?_
    rw [← lN_cL (opL k (lN x) (lN y))]
    exact kk aw' H locs ls hr hP hH hS hl
  · cases h
theorem s_aopS {p : Program} {l : Launch} {e : Env} {R : Room} {s : State} {m : MethodId} {args : Array Value} {below : List Frame} {meth : Method} {c : Code} {Q : State → Prop} {sg : Nat → Int32} {b B : Nat} {L : List Nat} {dC : Nat → ClassId} {dI : Nat → Nat → Nat} {cy : Nat → ClassId} {cc : ByteArray} {nL own : Nat} {ini : Bool} {ret : Option FieldType} {mc ms : Nat} {E : rE} {pc : Nat} {lv : rK} {st : List rV} {aw : rD} {cn z : Nat} {o : rO} {k : Nat} (hE : eOK sg E) (hrow : ∀ (x : Int64) (y : Int32) (H : Heap) (locs : List Loc) (cn z : Nat) (ls : Array Slot) (rest : List Value), W p l e R s m args below meth c H locs cn z Q (F0 m (pc + 1) ls (.long (opS k x y) :: rest)) → W p l e R s m args below meth c H locs cn z Q (F0 m pc ls (.int y :: .long x :: rest))) (h : h_aopS k tT own ret ini mc ms L E pc lv st aw cn z = some o) : Sem p l e R s m args below meth c Q sg b B cy dC dI nL cc own ret mc ms o (pc, lv, st, aw, cn, z) := by
  unfold h_aopS aopS at h
  split at h
  · next y x r =>
    split at h
    · next d hd =>
      rw [fN_eq] at h
      cases h
      intro kk aw' H locs ls hr hP hH hS hl
      refine hrow (lN x) (ri sg y) H locs _ _ ls _ ?_
      rw [(nd_ok hE hd).2, ← lN_cL (opS k (lN x) (nI d))]
      exact kk aw' H locs ls hr hP hH hS hl
    · cases h
  · cases h
theorem s_lcmp {p : Program} {l : Launch} {e : Env} {R : Room} {s : State} {m : MethodId} {args : Array Value} {below : List Frame} {meth : Method} {c : Code} {Q : State → Prop} {sg : Nat → Int32} {b B : Nat} {L : List Nat} {xs : Nat → Int32} {dC : Nat → ClassId} {dI : Nat → Nat → Nat} {cy : Nat → ClassId} {cc : ByteArray} {nL own : Nat} {ini : Bool} {ret : Option FieldType} {mc ms : Nat} {E : rE} {pc : Nat} {lv : rK} {st : List rV} {aw : rD} {cn z : Nat} {o : rO} (F : FF p s m args meth c cc nL own ini b B L xs dC dI cy) (hdg : decode cc pc = .ok (.lcmp, 1)) (h : h_lcmp tT own ret ini mc ms L E pc lv st aw cn z = some o) : Sem p l e R s m args below meth c Q sg b B cy dC dI nL cc own ret mc ms o (pc, lv, st, aw, cn, z) := by
  obtain ⟨hx, hb, hml, ho, hts, hsf, hin⟩ := F
  unfold h_lcmp at h
  split at h
  · next y x r =>
    rw [fN_eq] at h
    cases h
    intro kk aw' H locs ls hr hP hH hS hl
    refine W.lcmp hx hb hdg ?_
    rw [← ri_cN (sg := sg) (lg_cmp (lN x) (lN y))]
    exact kk aw' H locs ls hr hP hH hS hl
  · cases h
theorem s_l2i {p : Program} {l : Launch} {e : Env} {R : Room} {s : State} {m : MethodId} {args : Array Value} {below : List Frame} {meth : Method} {c : Code} {Q : State → Prop} {sg : Nat → Int32} {b B : Nat} {L : List Nat} {xs : Nat → Int32} {dC : Nat → ClassId} {dI : Nat → Nat → Nat} {cy : Nat → ClassId} {cc : ByteArray} {nL own : Nat} {ini : Bool} {ret : Option FieldType} {mc ms : Nat} {E : rE} {pc : Nat} {lv : rK} {st : List rV} {aw : rD} {cn z : Nat} {o : rO} (F : FF p s m args meth c cc nL own ini b B L xs dC dI cy) (hdg : decode cc pc = .ok (.l2i, 1)) (h : h_l2i tT own ret ini mc ms L E pc lv st aw cn z = some o) : Sem p l e R s m args below meth c Q sg b B cy dC dI nL cc own ret mc ms o (pc, lv, st, aw, cn, z) := by
  obtain ⟨hx, hb, hml, ho, hts, hsf, hin⟩ := F
  unfold h_l2i at h
  split at h
  · next x r =>
    rw [fN_eq] at h
    cases h
    intro kk aw' H locs ls hr hP hH hS hl
    refine lv_l2i hx hb hdg rfl ?_
    rw [← ri_cN (sg := sg) ((lN x).toInt32)]
    exact kk aw' H locs ls hr hP hH hS hl
  · cases h
theorem s_i2b {p : Program} {l : Launch} {e : Env} {R : Room} {s : State} {m : MethodId} {args : Array Value} {below : List Frame} {meth : Method} {c : Code} {Q : State → Prop} {sg : Nat → Int32} {b B : Nat} {L : List Nat} {xs : Nat → Int32} {dC : Nat → ClassId} {dI : Nat → Nat → Nat} {cy : Nat → ClassId} {cc : ByteArray} {nL own : Nat} {ini : Bool} {ret : Option FieldType} {mc ms : Nat} {E : rE} {pc : Nat} {lv : rK} {st : List rV} {aw : rD} {cn z : Nat} {o : rO} (F : FF p s m args meth c cc nL own ini b B L xs dC dI cy) (hE : eOK sg E) (hdg : decode cc pc = .ok (.i2b, 1)) (h : h_i2b tT own ret ini mc ms L E pc lv st aw cn z = some o) : Sem p l e R s m args below meth c Q sg b B cy dC dI nL cc own ret mc ms o (pc, lv, st, aw, cn, z) := by
  obtain ⟨hx, hb, hml, ho, hts, hsf, hin⟩ := F
  unfold h_i2b at h
  split at h
  · next x r =>
    split at h
    · next a ha =>
      rw [fN_eq] at h
      cases h
      intro kk aw' H locs ls hr hP hH hS hl
      refine lv_i2b (x := ri sg x) hx hb hdg rfl ?_
      rw [(nd_ok hE ha).2, ← ri_cN (sg := sg) ((nI a).toInt8.toInt32)]
      exact kk aw' H locs ls hr hP hH hS hl
    · cases h
  · cases h
theorem s_i2l {p : Program} {l : Launch} {e : Env} {R : Room} {s : State} {m : MethodId} {args : Array Value} {below : List Frame} {meth : Method} {c : Code} {Q : State → Prop} {sg : Nat → Int32} {b B : Nat} {L : List Nat} {xs : Nat → Int32} {dC : Nat → ClassId} {dI : Nat → Nat → Nat} {cy : Nat → ClassId} {cc : ByteArray} {nL own : Nat} {ini : Bool} {ret : Option FieldType} {mc ms : Nat} {E : rE} {pc : Nat} {lv : rK} {st : List rV} {aw : rD} {cn z : Nat} {o : rO} (F : FF p s m args meth c cc nL own ini b B L xs dC dI cy) (hE : eOK sg E) (hdg : decode cc pc = .ok (.i2l, 1)) (h : h_i2l tT own ret ini mc ms L E pc lv st aw cn z = some o) : Sem p l e R s m args below meth c Q sg b B cy dC dI nL cc own ret mc ms o (pc, lv, st, aw, cn, z) := by
  obtain ⟨hx, hb, hml, ho, hts, hsf, hin⟩ := F
  unfold h_i2l at h
  split at h
  · next x r =>
    split at h
    · next a ha =>
      rw [fN_eq] at h
      cases h
      intro kk aw' H locs ls hr hP hH hS hl
      refine lv_i2l (x := ri sg x) hx hb hdg rfl ?_
      rw [(nd_ok hE ha).2, ← lN_cL ((nI a).toInt64)]
      exact kk aw' H locs ls hr hP hH hS hl
    · cases h
  · cases h
theorem s_ush {p : Program} {l : Launch} {e : Env} {R : Room} {s : State} {m : MethodId} {args : Array Value} {below : List Frame} {meth : Method} {c : Code} {Q : State → Prop} {sg : Nat → Int32} {b B : Nat} {L : List Nat} {xs : Nat → Int32} {dC : Nat → ClassId} {dI : Nat → Nat → Nat} {cy : Nat → ClassId} {cc : ByteArray} {nL own : Nat} {ini : Bool} {ret : Option FieldType} {mc ms : Nat} {E : rE} {pc : Nat} {lv : rK} {st : List rV} {aw : rD} {cn z : Nat} {o : rO} (F : FF p s m args meth c cc nL own ini b B L xs dC dI cy) (hE : eOK sg E) (hdg : decode cc pc = .ok (.iushr, 1)) (h : h_ush tT own ret ini mc ms L E pc lv st aw cn z = some o) : Sem p l e R s m args below meth c Q sg b B cy dC dI nL cc own ret mc ms o (pc, lv, st, aw, cn, z) := by
  obtain ⟨hx, hb, hml, ho, hts, hsf, hin⟩ := F
  unfold h_ush at h
  split at h
  · next y x r =>
    split at h
    · next a ha =>
      split at h
      · next d hd =>
        rw [fN_eq] at h
        cases h
        intro kk aw' H locs ls hr hP hH hS hl
        refine lv_iushr (x := ri sg x) (y := ri sg y) hx hb hdg rfl ?_
        rw [(nd_ok hE ha).2, (nd_ok hE hd).2]
        show W p l e R s m args below meth c H locs cn z Q (F0 m (pc + 1) ls (.int (opU (nI a) (nI d)) :: r.map (rv sg b B)))
        rw [← ri_cN (sg := sg) (opU (nI a) (nI d))]
        exact kk aw' H locs ls hr hP hH hS hl
      · cases h
    · cases h
  · cases h
theorem cL_0 {y : Int64} (h : Nat.beq (cL y) 0 = false) : ¬ y = 0 := by
  intro e
  subst e
  exact absurd h (by decide)
theorem s_aopD {p : Program} {l : Launch} {e : Env} {R : Room} {s : State} {m : MethodId} {args : Array Value} {below : List Frame} {meth : Method} {c : Code} {Q : State → Prop} {sg : Nat → Int32} {b B : Nat} {L : List Nat} {dC : Nat → ClassId} {dI : Nat → Nat → Nat} {cy : Nat → ClassId} {cc : ByteArray} {nL own : Nat} {ini : Bool} {ret : Option FieldType} {mc ms : Nat} {E : rE} {pc : Nat} {lv : rK} {st : List rV} {aw : rD} {cn z : Nat} {o : rO} {k : Nat} (hrow : ∀ (x y : Int64) (H : Heap) (locs : List Loc) (cn z : Nat) (ls : Array Slot) (rest : List Value), ¬ y = 0 → W p l e R s m args below meth c H locs cn z Q (F0 m (pc + 1) ls (.long (opD k x y) :: rest)) → W p l e R s m args below meth c H locs cn z Q (F0 m pc ls (.long y :: .long x :: rest))) (h : h_aopD k tT own ret ini mc ms L E pc lv st aw cn z = some o) : Sem p l e R s m args below meth c Q sg b B cy dC dI nL cc own ret mc ms o (pc, lv, st, aw, cn, z) := by
  unfold h_aopD at h
  split at h
  · next y x r =>
    cases hb0 : Nat.beq (cL (lN y)) 0 with
    | true => rw [hb0] at h; cases h
    | false =>
      rw [hb0, cond_false, fN_eq] at h
      cases h
      intro kk aw' H locs ls hr hP hH hS hl
      refine hrow (lN x) (lN y) H locs _ _ ls _ (cL_0 hb0) ?_
      rw [← lN_cL (opD k (lN x) (lN y))]
      exact kk aw' H locs ls hr hP hH hS hl
  · cases h
theorem s_pop {p : Program} {l : Launch} {e : Env} {R : Room} {s : State} {m : MethodId} {args : Array Value} {below : List Frame} {meth : Method} {c : Code} {Q : State → Prop} {sg : Nat → Int32} {b B : Nat} {L : List Nat} {xs : Nat → Int32} {dC : Nat → ClassId} {dI : Nat → Nat → Nat} {cy : Nat → ClassId} {cc : ByteArray} {nL own : Nat} {ini : Bool} {ret : Option FieldType} {mc ms : Nat} {E : rE} {pc : Nat} {lv : rK} {st : List rV} {aw : rD} {cn z : Nat} {o : rO} (F : FF p s m args meth c cc nL own ini b B L xs dC dI cy) (hdg : decode cc pc = .ok (.pop, 1)) (h : h_pop tT own ret ini mc ms L E pc lv st aw cn z = some o) : Sem p l e R s m args below meth c Q sg b B cy dC dI nL cc own ret mc ms o (pc, lv, st, aw, cn, z) := by
  obtain ⟨hx, hb, hml, ho, hts, hsf, hin⟩ := F
  unfold h_pop at h
  split at h
  · next v r =>
    cases h1 : Nat.beq (ct v) 1 with
    | false => rw [h1] at h; cases h
    | true =>
      rw [h1, cond_true] at h
      cases h
      intro kk aw' H locs ls hr hP hH hS hl
      exact lv_pop hx hb hdg (by rw [ct_eq]; exact Nat.eq_of_beq_eq_true h1) (kk aw' H locs ls hr hP hH hS hl)
  · cases h
