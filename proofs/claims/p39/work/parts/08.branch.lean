/-! rules: branches, switches, the ends -/
theorem ltD_ok {sg : Nat → Int32} {E : rE} (hE : eOK sg E) {x y : Nat} {w : Bool} (h : ltD E x y = some (.inl w)) : (ri sg x < ri sg y ↔ w = true) := by
  have h1 := iv_ok hE x
  have h2 := iv_ok hE y
  rw [bz_lt]
  unfold ltD at h
  cases c1 : Nat.blt (iv E x).2 (iv E y).1 with
  | true =>
    rw [c1, cond_true] at h
    cases h
    have : (iv E x).2 < (iv E y).1 := Nat.le_of_ble_eq_true c1
    exact ⟨fun _ => rfl, fun _ => by omega⟩
  | false =>
    rw [c1, cond_false] at h
    cases c2 : Nat.ble (iv E y).2 (iv E x).1 with
    | true =>
      rw [c2, cond_true] at h
      cases h
      have : (iv E y).2 ≤ (iv E x).1 := Nat.le_of_ble_eq_true c2
      exact ⟨fun q => by omega, fun q => by cases q⟩
    | false =>
      rw [c2, cond_false] at h
      cases c3 : (Nat.beq (iv E y).1 (iv E y).2 && Nat.ble 4294967296 x) with
      | true => rw [c3, cond_true] at h; cases h
      | false =>
        rw [c3, cond_false] at h
        cases c4 : (Nat.beq (iv E x).1 (iv E x).2 && Nat.ble 4294967296 y) with
        | true => rw [c4, cond_true] at h; cases h
        | false => rw [c4, cond_false] at h; cases h
theorem eqD_ok {sg : Nat → Int32} {E : rE} (hE : eOK sg E) {x y : Nat} {w : Bool} (h : eqD E x y = some (.inl w)) : (ri sg x = ri sg y ↔ w = true) := by
  have h1 := iv_ok hE x
  have h2 := iv_ok hE y
  unfold eqD at h
  cases c0 : Nat.beq x y with
  | true =>
    rw [c0, cond_true] at h
    cases h
    have e0 := Nat.eq_of_beq_eq_true c0
    subst e0
    exact ⟨fun _ => rfl, fun _ => rfl⟩
  | false =>
  rw [bz_eq]
  rw [c0, cond_false] at h
  cases c1 : Nat.blt (iv E x).2 (iv E y).1 with
  | true =>
    rw [c1, cond_true] at h
    cases h
    have : (iv E x).2 < (iv E y).1 := Nat.le_of_ble_eq_true c1
    exact ⟨fun q => by omega, fun q => by cases q⟩
  | false =>
    rw [c1, cond_false] at h
    cases c2 : Nat.blt (iv E y).2 (iv E x).1 with
    | true =>
      rw [c2, cond_true] at h
      cases h
      have : (iv E y).2 < (iv E x).1 := Nat.le_of_ble_eq_true c2
      exact ⟨fun q => by omega, fun q => by cases q⟩
    | false =>
      rw [c2, cond_false] at h
      cases c5 : (Nat.ble (iv E x).2 (iv E y).1 && Nat.ble (iv E y).2 (iv E x).1) with
      | true =>
        rw [c5, cond_true] at h
        cases h
        rw [Bool.and_eq_true] at c5
        have g1 := Nat.le_of_ble_eq_true c5.1
        have g2 := Nat.le_of_ble_eq_true c5.2
        exact ⟨fun _ => rfl, fun _ => by omega⟩
      | false =>
        rw [c5, cond_false] at h
        cases c3 : (Nat.beq (iv E y).1 (iv E y).2 && Nat.ble 4294967296 x) with
        | true => rw [c3, cond_true] at h; cases h
        | false =>
          rw [c3, cond_false] at h
          cases c4 : (Nat.beq (iv E x).1 (iv E x).2 && Nat.ble 4294967296 y) with
          | true => rw [c4, cond_true] at h; cases h
          | false => rw [c4, cond_false] at h; cases h
/-- the condition of a branch -/
def cnd (q : ClassFile.Cond) (x y : Int32) : Prop := match q with
  | .eq => x = y
  | .ne => ¬ x = y
  | .lt => x < y
  | .ge => ¬ x < y
  | .gt => y < x
  | .le => ¬ y < x
theorem cmpD_ok {sg : Nat → Int32} {E : rE} (hE : eOK sg E) {q : ClassFile.Cond} {x y : Nat} {w : Bool} (h : cmpD E q x y = some (.inl w)) : (cnd q (ri sg x) (ri sg y) ↔ Bool.xor w (neg q) = true) := by
  cases q with
  | eq => rw [show cnd .eq (ri sg x) (ri sg y) = (ri sg x = ri sg y) from rfl, eqD_ok hE h]; simp [neg]
  | ne => rw [show cnd .ne (ri sg x) (ri sg y) = (¬ ri sg x = ri sg y) from rfl, eqD_ok hE h]; simp [neg]
  | lt => rw [show cnd .lt (ri sg x) (ri sg y) = (ri sg x < ri sg y) from rfl, ltD_ok hE h]; simp [neg]
  | ge => rw [show cnd .ge (ri sg x) (ri sg y) = (¬ ri sg x < ri sg y) from rfl, ltD_ok hE h]; simp [neg]
  | gt => rw [show cnd .gt (ri sg x) (ri sg y) = (ri sg y < ri sg x) from rfl, ltD_ok hE h]; simp [neg]
  | le => rw [show cnd .le (ri sg x) (ri sg y) = (¬ ri sg y < ri sg x) from rfl, ltD_ok hE h]; simp [neg]
theorem nlt_le {x y : Int32} : (¬ x < y) ↔ y ≤ x := by
  rw [bz_lt, bz_le]
  omega
theorem r_icmp {p : Program} {l : Launch} {e : Env} {R : Room} {s : State} {m : MethodId} {args : Array Value} {below : List Frame} {meth : Method} {c : Code} {Q : State → Prop} {cc : ByteArray} {pc : Nat} {q : ClassFile.Cond} {off : Int} {tgt : Nat} (hx : p.tables.exec = Jvm.exec) (hb : c.code = cc) (hdg : decode cc pc = .ok (.if_icmp q off, 3)) (ht : (pc : Int) + off = (tgt : Int)) {x y : Int32} {H : Heap} {locs : List Loc} {cn z : Nat} {ls : Array Slot} {rest : List Value} (kt : cnd q x y → W p l e R s m args below meth c H locs cn z Q (F0 m tgt ls rest)) (kf : ¬ cnd q x y → W p l e R s m args below meth c H locs cn z Q (F0 m (pc + 3) ls rest)) : W p l e R s m args below meth c H locs cn z Q (F0 m pc ls (.int y :: .int x :: rest)) := by
  cases q with
  | eq => exact lv_icmp_eq hx hb hdg ht (fun h => kt h) (fun h => kf h)
  | ne => exact lv_icmp_ne hx hb hdg ht (fun h => kt h) (fun h => kf (fun g => g h))
  | lt => exact lv_icmp_lt hx hb hdg ht (fun h => kt h) (fun h => kf h)
  | ge => exact lv_icmp_ge hx hb hdg ht (fun h => kt (nlt_le.mpr h)) (fun h => kf (fun g => h (nlt_le.mp g)))
  | gt => exact lv_icmp_gt hx hb hdg ht (fun h => kt h) (fun h => kf h)
  | le => exact lv_icmp_le hx hb hdg ht (fun h => kt (nlt_le.mpr h)) (fun h => kf (fun g => h (nlt_le.mp g)))
theorem r_if {p : Program} {l : Launch} {e : Env} {R : Room} {s : State} {m : MethodId} {args : Array Value} {below : List Frame} {meth : Method} {c : Code} {Q : State → Prop} {cc : ByteArray} {pc : Nat} {q : ClassFile.Cond} {off : Int} {tgt : Nat} (hx : p.tables.exec = Jvm.exec) (hb : c.code = cc) (hdg : decode cc pc = .ok (.ifCond q off, 3)) (ht : (pc : Int) + off = (tgt : Int)) {x : Int32} {H : Heap} {locs : List Loc} {cn z : Nat} {ls : Array Slot} {rest : List Value} (kt : cnd q x 0 → W p l e R s m args below meth c H locs cn z Q (F0 m tgt ls rest)) (kf : ¬ cnd q x 0 → W p l e R s m args below meth c H locs cn z Q (F0 m (pc + 3) ls rest)) : W p l e R s m args below meth c H locs cn z Q (F0 m pc ls (.int x :: rest)) := by
  cases q with
  | eq => exact lv_if_eq hx hb hdg ht (fun h => kt h) (fun h => kf h)
  | ne => exact lv_if_ne hx hb hdg ht (fun h => kt h) (fun h => kf (fun g => g h))
  | lt => exact lv_if_lt hx hb hdg ht (fun h => kt h) (fun h => kf h)
  | ge => exact lv_if_ge hx hb hdg ht (fun h => kt (nlt_le.mpr h)) (fun h => kf (fun g => h (nlt_le.mp g)))
  | gt => exact lv_if_gt hx hb hdg ht (fun h => kt h) (fun h => kf h)
  | le => exact lv_if_le hx hb hdg ht (fun h => kt (nlt_le.mpr h)) (fun h => kf (fun g => h (nlt_le.mp g)))
theorem s_abr {p : Program} {l : Launch} {e : Env} {R : Room} {s : State} {m : MethodId} {args : Array Value} {below : List Frame} {meth : Method} {c : Code} {Q : State → Prop} {sg : Nat → Int32} {b B : Nat} {dC : Nat → ClassId} {dI : Nat → Nat → Nat} {cy : Nat → ClassId} {cc : ByteArray} {nL own : Nat} {ret : Option FieldType} {mc ms : Nat} {E : rE} {pc : Nat} {lv : rK} {aw : rD} {cn z : Nat} {o : rO} {q : ClassFile.Cond} {off : Int} {x y : Nat} {r st0 : List rV} (hE : eOK sg E) (hrow : ∀ (tgt : Nat) (H : Heap) (locs : List Loc) (ls : Array Slot), (pc : Int) + off = (tgt : Int) → (cnd q (ri sg x) (ri sg y) → W p l e R s m args below meth c H locs cn z Q (F0 m tgt ls (r.map (rv sg b B)))) → (¬ cnd q (ri sg x) (ri sg y) → W p l e R s m args below meth c H locs cn z Q (F0 m (pc + 3) ls (r.map (rv sg b B)))) → W p l e R s m args below meth c H locs cn z Q (F0 m pc ls (st0.map (rv sg b B)))) (h : abr E q x y off pc lv r aw cn z = some o) : Sem p l e R s m args below meth c Q sg b B cy dC dI nL cc own ret mc ms o (pc, lv, st0, aw, cn, z) := by
  unfold abr at h
  split at h
  · cases h
  · next t ht =>
    split at h
    · next w hw =>
      have hc := cmpD_ok hE hw
      cases hz : Bool.xor w (neg q) with
      | true =>
        rw [hz, cond_true] at h
        cases h
        intro k aw' H locs ls hr hP hH hS hl
        exact hrow t H locs ls (tg_ok ht) (fun _ => k aw' H locs ls hr hP hH hS hl) (fun g => absurd (hc.mpr hz) g)
      | false =>
        rw [hz, cond_false] at h
        cases h
        intro k aw' H locs ls hr hP hH hS hl
        exact hrow t H locs ls (tg_ok ht) (fun g => absurd (hc.mp g) (by rw [hz]; decide)) (fun _ => k aw' H locs ls hr hP hH hS hl)
    · next s' _ => cases h; exact True.intro
    · cases h
      intro k1 k2 aw' H locs ls hr hP hH hS hl
      exact hrow t H locs ls (tg_ok ht) (fun _ => k1 aw' H locs ls hr hP hH hS hl) (fun _ => k2 aw' H locs ls hr hP hH hS hl)
theorem s_if2 {p : Program} {l : Launch} {e : Env} {R : Room} {s : State} {m : MethodId} {args : Array Value} {below : List Frame} {meth : Method} {c : Code} {Q : State → Prop} {sg : Nat → Int32} {b B : Nat} {L : List Nat} {xs : Nat → Int32} {dC : Nat → ClassId} {dI : Nat → Nat → Nat} {cy : Nat → ClassId} {cc : ByteArray} {nL own : Nat} {ini : Bool} {ret : Option FieldType} {mc ms : Nat} {E : rE} {pc : Nat} {lv : rK} {st : List rV} {aw : rD} {cn z : Nat} {o : rO} {q : ClassFile.Cond} {off : Int} (F : FF p s m args meth c cc nL own ini b B L xs dC dI cy) (hE : eOK sg E) (hdg : decode cc pc = .ok (.if_icmp q off, 3)) (h : h_if2 q off tT own ret ini mc ms L E pc lv st aw cn z = some o) : Sem p l e R s m args below meth c Q sg b B cy dC dI nL cc own ret mc ms o (pc, lv, st, aw, cn, z) := by
  obtain ⟨hx, hb, hml, ho, hts, hsf, hin⟩ := F
  unfold h_if2 at h
  split at h
  · next y x r => exact s_abr hE (fun tgt H locs ls ht kt kf => r_icmp hx hb hdg ht kt kf) h
  · cases h
theorem s_if1 {p : Program} {l : Launch} {e : Env} {R : Room} {s : State} {m : MethodId} {args : Array Value} {below : List Frame} {meth : Method} {c : Code} {Q : State → Prop} {sg : Nat → Int32} {b B : Nat} {L : List Nat} {xs : Nat → Int32} {dC : Nat → ClassId} {dI : Nat → Nat → Nat} {cy : Nat → ClassId} {cc : ByteArray} {nL own : Nat} {ini : Bool} {ret : Option FieldType} {mc ms : Nat} {E : rE} {pc : Nat} {lv : rK} {st : List rV} {aw : rD} {cn z : Nat} {o : rO} {q : ClassFile.Cond} {off : Int} (F : FF p s m args meth c cc nL own ini b B L xs dC dI cy) (hE : eOK sg E) (hdg : decode cc pc = .ok (.ifCond q off, 3)) (h : h_if1 q off tT own ret ini mc ms L E pc lv st aw cn z = some o) : Sem p l e R s m args below meth c Q sg b B cy dC dI nL cc own ret mc ms o (pc, lv, st, aw, cn, z) := by
  obtain ⟨hx, hb, hml, ho, hts, hsf, hin⟩ := F
  unfold h_if1 at h
  split at h
  · next x r => exact s_abr (x := x) (y := 0) hE (fun tgt H locs ls ht kt kf => r_if hx hb hdg ht kt kf) h
  · cases h
theorem spl_ok {p : Program} {l : Launch} {e : Env} {R : Room} {s : State} {m : MethodId} {args : Array Value} {below : List Frame} {meth : Method} {c : Code} {Q : State → Prop} {sg : Nat → Int32} {b B : Nat} {dC : Nat → ClassId} {dI : Nat → Nat → Nat} {cy : Nat → ClassId} {cc : ByteArray} {nL own : Nat} {ret : Option FieldType} {mc ms : Nat} {E : rE} {pc : Nat} {lv : rK} {st : List rV} {aw : rD} {cn z : Nat} {o : rO} {n : Nat} (h : spl E n = some o) : Sem p l e R s m args below meth c Q sg b B cy dC dI nL cc own ret mc ms o (pc, lv, st, aw, cn, z) := by
  unfold spl at h
  cases hb : (Nat.ble 4294967296 n && Nat.ble (Nat.sub (iv E n).2 (iv E n).1) 64) with
  | false => rw [hb] at h; cases h
  | true => rw [hb, cond_true] at h; cases h; exact True.intro
theorem s_tsw {p : Program} {l : Launch} {e : Env} {R : Room} {s : State} {m : MethodId} {args : Array Value} {below : List Frame} {meth : Method} {c : Code} {Q : State → Prop} {sg : Nat → Int32} {b B : Nat} {L : List Nat} {xs : Nat → Int32} {dC : Nat → ClassId} {dI : Nat → Nat → Nat} {cy : Nat → ClassId} {cc : ByteArray} {nL own : Nat} {ini : Bool} {ret : Option FieldType} {mc ms : Nat} {E : rE} {pc : Nat} {lv : rK} {st : List rV} {aw : rD} {cn z : Nat} {o : rO} {d lo hi : Int} {offs : Array Int} {len : Nat} (F : FF p s m args meth c cc nL own ini b B L xs dC dI cy) (hE : eOK sg E) (hdg : decode cc pc = .ok (.tableswitch d lo hi offs, len)) (h : h_tsw d lo hi offs tT own ret ini mc ms L E pc lv st aw cn z = some o) : Sem p l e R s m args below meth c Q sg b B cy dC dI nL cc own ret mc ms o (pc, lv, st, aw, cn, z) := by
  obtain ⟨hx, hb, hml, ho, hts, hsf, hin⟩ := F
  unfold h_tsw at h
  split at h
  · next x r =>
    have hv := iv_ok hE x
    cases h1 : (Nat.blt (iv E x).2 (bz (Int32.ofInt lo)) || Nat.blt (bz (Int32.ofInt hi)) (iv E x).1) with
    | true =>
      rw [h1, cond_true] at h
      split at h
      · next t ht =>
        cases h2 : (decide ((Int32.ofInt lo).toInt = lo) && decide ((Int32.ofInt hi).toInt = hi)) with
        | false => rw [h2] at h; cases h
        | true =>
          rw [h2, cond_true] at h
          cases h
          rw [Bool.and_eq_true, decide_eq_true_eq, decide_eq_true_eq] at h2
          intro k aw' H locs ls hr hP hH hS hl
          refine lv_tableOut hx hb hdg ?_ (tg_ok ht) (k aw' H locs ls hr hP hH hS hl)
          have b1 := bz_in (ri sg x)
          have b2 := bz_in (Int32.ofInt lo)
          have b3 := bz_in (Int32.ofInt hi)
          rw [Bool.or_eq_true] at h1
          rcases h1 with h1 | h1
          · have : (iv E x).2 < bz (Int32.ofInt lo) := Nat.le_of_ble_eq_true h1
            exact Or.inl (by omega)
          · have : bz (Int32.ofInt hi) < (iv E x).1 := Nat.le_of_ble_eq_true h1
            exact Or.inr (by omega)
      · cases h
    | false =>
      rw [h1, cond_false] at h
      split at h
      · next n hn =>
        split at h
        · next off hoff =>
          split at h
          · next t ht =>
            cases h2 : (decide (lo ≤ (nI n).toInt) && decide ((nI n).toInt ≤ hi)) with
            | false => rw [h2] at h; cases h
            | true =>
              rw [h2, cond_true] at h
              cases h
              rw [Bool.and_eq_true, decide_eq_true_eq, decide_eq_true_eq] at h2
              intro k aw' H locs ls hr hP hH hS hl
              have e := (nd_ok hE hn).2
              refine lv_tableIn (x := ri sg x) hx hb hdg (by rw [e]; omega) (by rw [e]; omega) (by rw [e]; exact hoff) (tg_ok ht) (k aw' H locs ls hr hP hH hS hl)
          · cases h
        · cases h
      · cases h3 : Nat.blt (iv E x).1 (bz (Int32.ofInt lo)) with
        | true => rw [h3, cond_true] at h; cases h; exact True.intro
        | false =>
          rw [h3, cond_false] at h
          cases h4 : Nat.blt (bz (Int32.ofInt hi)) (iv E x).2 with
          | true => rw [h4, cond_true] at h; cases h; exact True.intro
          | false => rw [h4, cond_false] at h; exact spl_ok h
  · cases h
theorem lkS_none {E : rE} {x : Nat} {ps : List (Int × Int)} (h : lkS E x ps = none) : ∀ q ∈ ps, ¬ ((iv E x).1 ≤ bz (Int32.ofInt q.1) ∧ bz (Int32.ofInt q.1) ≤ (iv E x).2) := by
  induction ps with
  | nil => intro q hq; cases hq
  | cons a t ih =>
    have h' : (bif (Nat.ble (iv E x).1 (bz (Int32.ofInt a.1)) && Nat.ble (bz (Int32.ofInt a.1)) (iv E x).2) then some (Nat.sub x 4294967296, bif Nat.blt (iv E x).1 (bz (Int32.ofInt a.1)) then bz (Int32.ofInt a.1) else Nat.succ (iv E x).1) else lkS E x t) = none := h
    cases hb : (Nat.ble (iv E x).1 (bz (Int32.ofInt a.1)) && Nat.ble (bz (Int32.ofInt a.1)) (iv E x).2) with
    | true => rw [hb] at h'; cases h'
    | false =>
      rw [hb, cond_false] at h'
      intro q hq
      rcases List.mem_cons.mp hq with rfl | hq
      · rintro ⟨g1, g2⟩
        rw [Nat.ble_eq_true_of_le g1, Nat.ble_eq_true_of_le g2] at hb
        cases hb
      · exact ih h' q hq
theorem lk_dflt {ps : List (Int × Int)} {d v : Int} (h : ∀ q ∈ ps, q.1 ≠ v) : Op.lookupswitch.offset ps d v = d := by
  induction ps with
  | nil => rfl
  | cons a t ih =>
    obtain ⟨a1, a2⟩ := a
    show (if a1 = v then a2 else Op.lookupswitch.offset t d v) = d
    rw [if_neg (h (a1, a2) List.mem_cons_self)]
    exact ih (fun q hq => h q (List.mem_cons_of_mem _ hq))
theorem s_lsw {p : Program} {l : Launch} {e : Env} {R : Room} {s : State} {m : MethodId} {args : Array Value} {below : List Frame} {meth : Method} {c : Code} {Q : State → Prop} {sg : Nat → Int32} {b B : Nat} {L : List Nat} {xs : Nat → Int32} {dC : Nat → ClassId} {dI : Nat → Nat → Nat} {cy : Nat → ClassId} {cc : ByteArray} {nL own : Nat} {ini : Bool} {ret : Option FieldType} {mc ms : Nat} {E : rE} {pc : Nat} {lv : rK} {st : List rV} {aw : rD} {cn z : Nat} {o : rO} {d : Int} {ps : Array (Int × Int)} {len : Nat} (F : FF p s m args meth c cc nL own ini b B L xs dC dI cy) (hE : eOK sg E) (hdg : decode cc pc = .ok (.lookupswitch d ps, len)) (h : h_lsw d ps tT own ret ini mc ms L E pc lv st aw cn z = some o) : Sem p l e R s m args below meth c Q sg b B cy dC dI nL cc own ret mc ms o (pc, lv, st, aw, cn, z) := by
  obtain ⟨hx, hb, hml, ho, hts, hsf, hin⟩ := F
  unfold h_lsw at h
  split at h
  · next x r =>
    have hv := iv_ok hE x
    cases h1 : ((ps.toList.zip (ps.toList.drop 1)).all (fun (a, next) => a.1 < next.1)) with
    | false => rw [h1] at h; cases h
    | true =>
      rw [h1, cond_true] at h
      split at h
      · next n hn =>
        split at h
        · next t ht =>
          cases h
          intro k aw' H locs ls hr hP hH hS hl
          exact lv_lookup (x := ri sg x) hx hb hdg h1 (by rw [(nd_ok hE hn).2]) (tg_ok ht) (k aw' H locs ls hr hP hH hS hl)
        · cases h
      · split at h
        · cases h; exact True.intro
        · next hno =>
          cases h2 : (ps.toList.all (fun q => decide ((Int32.ofInt q.1).toInt = q.1))) with
          | false => rw [h2] at h; cases h
          | true =>
            rw [h2, cond_true] at h
            split at h
            · next t ht =>
              cases h
              intro k aw' H locs ls hr hP hH hS hl
              refine lv_lookup (x := ri sg x) hx hb hdg h1 (lk_dflt (fun q hq e => ?_)) (tg_ok ht) (k aw' H locs ls hr hP hH hS hl)
              have g1 := lkS_none hno q hq
              have g2 := List.all_eq_true.mp h2 q hq
              rw [decide_eq_true_eq] at g2
              have b1 := bz_in (ri sg x)
              have b2 := bz_in (Int32.ofInt q.1)
              exact g1 ⟨by omega, by omega⟩
            · cases h
  · cases h
theorem s_retI {p : Program} {l : Launch} {e : Env} {R : Room} {s : State} {m : MethodId} {args : Array Value} {below : List Frame} {meth : Method} {c : Code} {Q : State → Prop} {sg : Nat → Int32} {b B : Nat} {L : List Nat} {dC : Nat → ClassId} {dI : Nat → Nat → Nat} {cy : Nat → ClassId} {cc : ByteArray} {nL own : Nat} {ini : Bool} {ret : Option FieldType} {mc ms : Nat} {E : rE} {pc : Nat} {lv : rK} {st : List rV} {aw : rD} {cn z : Nat} {o : rO} (hdg : decode cc pc = .ok (.ireturn, 1)) (h : h_retI tT own ret ini mc ms L E pc lv st aw cn z = some o) : Sem p l e R s m args below meth c Q sg b B cy dC dI nL cc own ret mc ms o (pc, lv, st, aw, cn, z) := by
  unfold h_retI at h
  split at h
  · next v =>
    cases hb : (ok_rt ret (.inl v) && (Nat.ble cn mc && Nat.ble z ms)) with
    | false => rw [hb] at h; cases h
    | true =>
      rw [hb, cond_true] at h
      cases h
      rw [Bool.and_eq_true, Bool.and_eq_true] at hb
      exact ⟨Nat.le_of_ble_eq_true hb.2.1, Nat.le_of_ble_eq_true hb.2.2, rfl, Or.inr (Or.inl ⟨v, rfl, hb.1, hdg⟩)⟩
  · cases h
theorem s_retL {p : Program} {l : Launch} {e : Env} {R : Room} {s : State} {m : MethodId} {args : Array Value} {below : List Frame} {meth : Method} {c : Code} {Q : State → Prop} {sg : Nat → Int32} {b B : Nat} {L : List Nat} {dC : Nat → ClassId} {dI : Nat → Nat → Nat} {cy : Nat → ClassId} {cc : ByteArray} {nL own : Nat} {ini : Bool} {ret : Option FieldType} {mc ms : Nat} {E : rE} {pc : Nat} {lv : rK} {st : List rV} {aw : rD} {cn z : Nat} {o : rO} (hdg : decode cc pc = .ok (.lreturn, 1)) (h : h_retL tT own ret ini mc ms L E pc lv st aw cn z = some o) : Sem p l e R s m args below meth c Q sg b B cy dC dI nL cc own ret mc ms o (pc, lv, st, aw, cn, z) := by
  unfold h_retL at h
  split at h
  · next v =>
    cases hb : (ok_rt ret (.inr (.inl v)) && (Nat.ble cn mc && Nat.ble z ms)) with
    | false => rw [hb] at h; cases h
    | true =>
      rw [hb, cond_true] at h
      cases h
      rw [Bool.and_eq_true, Bool.and_eq_true] at hb
      exact ⟨Nat.le_of_ble_eq_true hb.2.1, Nat.le_of_ble_eq_true hb.2.2, rfl, Or.inr (Or.inr (Or.inl ⟨v, rfl, hb.1, hdg⟩))⟩
  · cases h
theorem s_retA {p : Program} {l : Launch} {e : Env} {R : Room} {s : State} {m : MethodId} {args : Array Value} {below : List Frame} {meth : Method} {c : Code} {Q : State → Prop} {sg : Nat → Int32} {b B : Nat} {L : List Nat} {dC : Nat → ClassId} {dI : Nat → Nat → Nat} {cy : Nat → ClassId} {cc : ByteArray} {nL own : Nat} {ini : Bool} {ret : Option FieldType} {mc ms : Nat} {E : rE} {pc : Nat} {lv : rK} {st : List rV} {aw : rD} {cn z : Nat} {o : rO} (hdg : decode cc pc = .ok (.areturn, 1)) (h : h_retA tT own ret ini mc ms L E pc lv st aw cn z = some o) : Sem p l e R s m args below meth c Q sg b B cy dC dI nL cc own ret mc ms o (pc, lv, st, aw, cn, z) := by
  unfold h_retA at h
  split at h
  · next v =>
    cases hb : (ok_rt ret (.inr (.inr (some v))) && (Nat.ble cn mc && Nat.ble z ms)) with
    | false => rw [hb] at h; cases h
    | true =>
      rw [hb, cond_true] at h
      cases h
      rw [Bool.and_eq_true, Bool.and_eq_true] at hb
      exact ⟨Nat.le_of_ble_eq_true hb.2.1, Nat.le_of_ble_eq_true hb.2.2, rfl, Or.inr (Or.inr (Or.inr ⟨v, rfl, hb.1, hdg⟩))⟩
  · cases h
theorem s_retV {p : Program} {l : Launch} {e : Env} {R : Room} {s : State} {m : MethodId} {args : Array Value} {below : List Frame} {meth : Method} {c : Code} {Q : State → Prop} {sg : Nat → Int32} {b B : Nat} {L : List Nat} {dC : Nat → ClassId} {dI : Nat → Nat → Nat} {cy : Nat → ClassId} {cc : ByteArray} {nL own : Nat} {ini : Bool} {ret : Option FieldType} {mc ms : Nat} {E : rE} {pc : Nat} {lv : rK} {st : List rV} {aw : rD} {cn z : Nat} {o : rO} (hdg : decode cc pc = .ok (.return_, 1)) (h : h_retV tT own ret ini mc ms L E pc lv st aw cn z = some o) : Sem p l e R s m args below meth c Q sg b B cy dC dI nL cc own ret mc ms o (pc, lv, st, aw, cn, z) := by
  unfold h_retV at h
  split at h
  · cases hb : (no_rt ret && (Nat.ble cn mc && Nat.ble z ms)) with
    | false => rw [hb] at h; cases h
    | true =>
      rw [hb, cond_true] at h
      cases h
      rw [Bool.and_eq_true, Bool.and_eq_true] at hb
      refine ⟨Nat.le_of_ble_eq_true hb.2.1, Nat.le_of_ble_eq_true hb.2.2, rfl, Or.inl ⟨rfl, ?_, hdg⟩⟩
      cases ret with
      | none => rfl
      | some t => cases hb.1
  · cases h
