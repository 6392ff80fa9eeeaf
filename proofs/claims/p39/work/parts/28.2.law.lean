/-! the law -/
def R_law : String := "AyeJarsLaw"
def lw_P (b : Addr) (xs : List Int32) (args : Array Value) (s : State) : Prop := args = #[.ref b] ∧ s.IntsAt b xs ∧ xs.length ≤ 3072 ∧ (Jvm.Cond.and given_1 narrow_1).before args s = true
def lw_Q (_ : Array Value) (s : State) (o : Outcome) (t : State) : Prop := o = .returned (some (.int 1)) ∧ Framed s o t [] 600000 7302250
def lw_Z (below : List Frame) (a : Array Value) (s : State) : State → Prop := fun t => ∃ o, t.status = .running ∧ Ended t below o ∧ lw_Q a s o t
/-- the law's own end, with 1 on the stack, nothing written that was there before, its room as the claim has it -/
theorem lw_ret {p : Program} {l : Launch} {e : Env} {s : State} {m : MethodId} {below : List Frame} {meth : Method} {c : Code} {b : Nat} (hx : p.tables.exec = Jvm.exec) (hb : c.code = code) (hr : meth.sig.returnType = ret) (hlocks : meth.locks = false) {pc : Nat} {H : Heap} {ls : Array Slot} (hdg : decode code pc = .ok (.ireturn, 1)) : W p l e room_1 s m #[Value.ref b] below meth c H [] 600000 7302250 (lw_Z below #[Value.ref b] s) (F0 m pc ls [.int 1]) := by
  intro T hT X
  obtain ⟨fs, hret, hrun, hended, hW, hframe⟩ := X.leave (v := some (.int 1)) (hlocks := hlocks) (fun h => by rw [hr] at h; cases h)
  have hmeth' : T.vm.method? m = some meth := X.method'
  refine ⟨T.setFrames fs, ?_, .returned (some (.int 1)), hrun, hended, rfl, ⟨_, rfl⟩, hW, hframe⟩
  jvm_step X.here [X.here.top, hx, hb, hdg, hmeth', hr, ret, narrow_b1]
  (try refine ⟨rfl, ?_⟩); (try refine ⟨rfl, ?_⟩)
  first | (intro acts; rw [hret _ acts rfl rfl rfl]) | rw [hret _ _ rfl rfl rfl]
  exact Steps.refl _
/-- what holds at the law's entry: the machine, the code, the tables' words (any of lw_tbl by 'hts w (by decide +kernel)'), the script of L ints xs at the cell b, what the Statement gives of the start (any of its parts by flat_of_before) -/
def lw_At (p : Program) (s : State) (m : MethodId) (meth : Method) (c : Code) (b L : Nat) (xs : Nat → Int32) : Prop :=
  p.tables.exec = Jvm.exec ∧ c.code = code ∧ meth.sig.returnType = ret ∧ c.maxLocals = 4 ∧ s.vm.findClass R_law = some m.cls ∧ (∀ w ∈ lw_tbl, w.before #[Value.ref b] s = true) ∧ va_X b L xs s s.heap ∧ b < s.heap.size ∧ meth.locks = false ∧ (Jvm.Cond.and given_1 narrow_1).before #[Value.ref b] s = true
/-- no unknowns: every one of them is zero -/
def sg0 (_ : Nat) : Int32 := 0
def scL (n : Nat) (xs : Nat → Int32) : List Nat := (List.range n).map (fun j => cN (xs j))
theorem scL_len (n : Nat) (xs : Nat → Int32) : (scL n xs).length = n := by unfold scL; rw [List.length_map, List.length_range]
theorem sg0_ok {n : Nat} (xs : Nat → Int32) (hn : n ≤ 3072) : SG sg0 (scL n xs) xs := by
  refine ⟨fun j hj => (by decide : (0 : Int32) = 0 &&& 63), fun j t hj ht => ?_, fun u h1 h2 => (by decide : (0 : Int32) = (0 : Int32).toInt8.toInt32), fun j hj => ?_, by rw [scL_len]; omega⟩
  · show (0 : Int32) = 0 >>> (nI t &&& 31)
    have : ∀ t : Nat, t < 32 → (0 : Int32) = 0 >>> (nI t &&& 31) := by decide
    exact this t ht
  · rw [scL_len] at hj
    unfold scL
    rw [List.getElem?_map, List.getElem?_range hj]
    rfl
/-- the tables' classes, at the law's start -/
theorem sf_start {s : State} {b : Nat} {L : List Nat} {xs : Nat → Int32} (hts : ∀ w ∈ lw_tbl, w.before #[Value.ref b] s = true) (hX : va_X b L.length xs s s.heap) (hb : b < s.heap.size) (hS : STR s.heap.size s) : ∃ (dC : Nat → ClassId) (dI : Nat → Nat → Nat) (cy : Nat → ClassId), SF dC dI cy b s.heap.size L xs s := by
  have htg : ∀ w ∈ TG, w.before #[Value.ref b] s = true := fun w hw => hts w (TG_good w hw).1
  obtain ⟨k0, i0, hk0⟩ := u_known (C := RX0) (T := TX0) (N := 4) (n := 4) htg cl_0.1 (htg _ cl_0.2.2.2.1)
  obtain ⟨k1, i1, hk1⟩ := u_known (C := RX1) (T := TX1) (N := 3) (n := 3) htg cl_1.1 (htg _ cl_1.2.2.2.1)
  obtain ⟨k2, i2, hk2⟩ := u_known (C := RX2) (T := TX2) (N := 6) (n := 6) htg cl_2.1 (htg _ cl_2.2.2.2.1)
  obtain ⟨k3, i3, hk3⟩ := u_known (C := RX3) (T := TX3) (N := 15) (n := 15) htg cl_3.1 (htg _ cl_3.2.2.2.1)
  obtain ⟨k4, i4, hk4⟩ := u_known (C := RX4) (T := TX4) (N := 7) (n := 7) htg cl_4.1 (htg _ cl_4.2.2.2.1)
  obtain ⟨k5, i5, hk5⟩ := u_known (C := RX5) (T := TX5) (N := 10) (n := 10) htg cl_5.1 (htg _ cl_5.2.2.2.1)
  obtain ⟨k6, i6, hk6⟩ := u_known (C := RX6) (T := TX6) (N := 4) (n := 4) htg cl_6.1 (htg _ cl_6.2.2.2.1)
  obtain ⟨k7, i7, hk7⟩ := u_known (C := RX7) (T := TX7) (N := 10) (n := 10) htg cl_7.1 (htg _ cl_7.2.2.2.1)
  obtain ⟨k8, i8, hk8⟩ := u_known (C := RX8) (T := TX8) (N := 9) (n := 9) htg cl_8.1 (htg _ cl_8.2.2.2.1)
  obtain ⟨k9, i9, hk9⟩ := u_known (C := RX9) (T := TX9) (N := 7) (n := 7) htg cl_9.1 (htg _ cl_9.2.2.2.1)
  obtain ⟨k10, i10, hk10⟩ := u_known (C := RX10) (T := TX10) (N := 7) (n := 7) htg cl_10.1 (htg _ cl_10.2.2.2.1)
  obtain ⟨k11, i11, hk11⟩ := u_known (C := RX11) (T := TX11) (N := 14) (n := 14) htg cl_11.1 (htg _ cl_11.2.2.2.1)
  obtain ⟨k12, i12, hk12⟩ := u_known (C := RX12) (T := TX12) (N := 66) (n := 66) htg cl_12.1 (htg _ cl_12.2.2.2.1)
  obtain ⟨c13, q13, p13, fa13, fb13, fc13⟩ := Cond.arrayClass_spec (htg _ okW.2.2.2.2.2.1)
  obtain ⟨c14, q14, p14, fa14, fb14, fc14⟩ := Cond.arrayClass_spec (htg _ okW.2.2.2.2.2.2.1)
  obtain ⟨c15, q15, p15, fa15, fb15, fc15⟩ := Cond.arrayClass_spec (htg _ okW.2.2.2.2.2.2.2.1)
  obtain ⟨c16, q16, p16, fa16, fb16, fc16⟩ := Cond.arrayClass_spec (htg _ okW.2.2.2.2.2.2.2.2)
  have ao17 : (Cond.arrayOver (.object "AyeJars$Jars")).before #[Value.ref b] s = true := hts _ (m_lw 220 (by decide +kernel))
  have ao18 : (Cond.arrayOver (.object "AyeJars$Trial")).before #[Value.ref b] s = true := hts _ (m_lw 328 (by decide +kernel))
  have ao19 : (Cond.arrayOver (.array .int)).before #[Value.ref b] s = true := hts _ (m_lw 384 (by decide +kernel))
  obtain ⟨p17, c17, q17, fa17, -, fb17, fc17, fd17⟩ := Cond.arrayOver_spec ao17
  obtain ⟨p18, c18, q18, fa18, -, fb18, fc18, fd18⟩ := Cond.arrayOver_spec ao18
  obtain ⟨p19, c19, q19, fa19, fb19, fc19, fd19⟩ := Cond.arrayOver_specA ao19
  refine ⟨fun k => if k = 0 then k0 else if k = 1 then k1 else if k = 2 then k2 else if k = 3 then k3 else if k = 4 then k4 else if k = 5 then k5 else if k = 6 then k6 else if k = 7 then k7 else if k = 8 then k8 else if k = 9 then k9 else if k = 10 then k10 else if k = 11 then k11 else k12, fun k => if k = 0 then i0 else if k = 1 then i1 else if k = 2 then i2 else if k = 3 then i3 else if k = 4 then i4 else if k = 5 then i5 else if k = 6 then i6 else if k = 7 then i7 else if k = 8 then i8 else if k = 9 then i9 else if k = 10 then i10 else if k = 11 then i11 else i12, fun t => if t = 13 then c13 else if t = 14 then c14 else if t = 15 then c15 else if t = 16 then c16 else if t = 17 then c17 else if t = 18 then c18 else c19, ⟨?_, ?_⟩, ⟨va_AO.of ao17, va_AO.of ao18, ao19⟩, ?_, hX, hb, Nat.le_refl _, hS⟩
  · intro k q hq
    match k, hq with
    | 0, hq => cases hq; exact hk0
    | 1, hq => cases hq; exact hk1
    | 2, hq => cases hq; exact hk2
    | 3, hq => cases hq; exact hk3
    | 4, hq => cases hq; exact hk4
    | 5, hq => cases hq; exact hk5
    | 6, hq => cases hq; exact hk6
    | 7, hq => cases hq; exact hk7
    | 8, hq => cases hq; exact hk8
    | 9, hq => cases hq; exact hk9
    | 10, hq => cases hq; exact hk10
    | 11, hq => cases hq; exact hk11
    | 12, hq => cases hq; exact hk12
    | n + 13, hq => simp [vwCl] at hq
  · intro k q hq
    match k, hq with
    | 0, hq => cases hq; exact ⟨fun n z => ⟨fun k h => (by cases h), q13, fb13, p13, fc13⟩, fa13⟩
    | 1, hq => cases hq; exact ⟨fun n z => ⟨fun k h => (by cases h), q14, fb14, p14, fc14⟩, fa14⟩
    | 2, hq => cases hq; exact ⟨fun n z => ⟨fun k h => (by cases h), q15, fb15, p15, fc15⟩, fa15⟩
    | 3, hq => cases hq; exact ⟨fun n z => ⟨fun k h => (by cases h), q16, fb16, p16, fc16⟩, fa16⟩
    | 4, hq => cases hq; exact ⟨fun n z => ⟨fun k h => (by cases h), q17, fb17, p17, fc17⟩, q17, p17, fb17, fc17, fa17, fd17⟩
    | 5, hq => cases hq; exact ⟨fun n z => ⟨fun k h => (by cases h), q18, fb18, p18, fc18⟩, q18, p18, fb18, fc18, fa18, fd18⟩
    | 6, hq => cases hq; exact ⟨fun n z => ⟨fun k h => (by cases h), q19, fb19, p19, fc19⟩, fd19⟩
    | n + 7, hq => simp [tys0] at hq
  · intro q hq
    simp only [nws, List.mem_cons, List.not_mem_nil, or_false] at hq
    rcases hq with rfl | rfl | rfl | rfl | rfl
    · exact va_Nw.of rfl (hts _ (m_lw 33 (by decide +kernel)))
    · exact va_Nw.of rfl (hts _ (m_lw 67 (by decide +kernel)))
    · exact va_Nw.of rfl (hts _ (m_lw 73 (by decide +kernel)))
    · exact va_Nw.of rfl (hts _ (m_lw 196 (by decide +kernel)))
    · exact va_Nw.of rfl (hts _ (m_lw 228 (by decide +kernel)))
theorem whole_start {p : Program} {e : Env} {s : State} {m : MethodId} {below : List Frame} {meth : Method} {c : Code} (l : Launch) (hflags : l.flags = flags0) {b L : Nat} {xs : Nat → Int32} (hL : L ≤ 3072) (C0 : lw_At p s m meth c b L xs) : W p l e room_1 s m #[Value.ref b] below meth c s.heap [] 0 0 (lw_Z below #[Value.ref b] s) (entryFrame m ([Value.ref b] : List Value).toArray 4) := by
  obtain ⟨hx, hb, hr, hml, hown, hts, hX, hbl, hlocks, hgv⟩ := id C0
  have hX' : va_X b (scL L xs).length xs s s.heap := by rw [scL_len]; exact hX
  obtain ⟨dC, dI, cy, hSF⟩ := sf_start hts hX' hbl (str_start hts hgv)
  have hcl : ∀ v ∈ scL L xs, v < 4294967296 := by
    intro v hv
    unfold scL at hv
    obtain ⟨j, -, rfl⟩ := List.mem_map.mp hv
    exact cN_lt _
  obtain ⟨N, v, D, hv, hrun⟩ := start_ok start_B (L := scL L xs) (by rw [scL_len]; exact hL) hcl (P := fun v _ => v = some (.inl 1)) (fun _ => rfl)
  subst hv
  have htg : ∀ w ∈ TG, w.before #[Value.ref b] s = true := fun w hw => hts w (TG_good w hw).1
  have FFM : FF p s m #[Value.ref b] meth c (mBy mL) (mLoc mL) (mOwn mL) (mIni mL) b s.heap.size (scL L xs) xs dC dI cy := ⟨hx, hb, hml, hown, htg, hSF, fun q => by cases q⟩
  have hHR : HR p l e room_1 s m #[Value.ref b] below meth c (lw_Z below #[Value.ref b] s) sg0 b s.heap.size cy dC dI mL [([], some (.inl 1), D)] := by
    intro f pc cn z ls lv aw H locs hf hfe hret hrep hP hH hS
    have hf := List.mem_singleton.mp hf
    subst hf
    obtain ⟨hc, hz, -, hcase⟩ := hret
    rcases hcase with ⟨g1, -, -⟩ | ⟨n1, g1, -, g3⟩ | ⟨n1, g1, -, -⟩ | ⟨n1, g1, -, -⟩
    · cases g1
    · refine va_forget hS.2.2 ?_
      refine W.widen (k := 600000) (n := 7302250) hc hz ?_
      have e1 : ri sg0 1 = 1 := by rw [ri_c (by decide)]; rfl
      show W p l e room_1 s m #[Value.ref b] below meth c H [] 600000 7302250 (lw_Z below #[Value.ref b] s) (F0 m pc ls [.int (ri sg0 1)])
      rw [e1]
      exact lw_ret hx hb hr hlocks g3
    · cases g1
    · cases g1
  have hWx := run_ok (l := l) (b := b) (B := s.heap.size) (cy := cy) (dC := dC) (dI := dI) okOT okM okA okZ (sg0_ok xs hL) N 61 mL [] x0 [([], some (.inl 1), D)] (hrun N (Nat.le_refl _)) (fun j lo hi h => by simp at h) ok_L_law (by decide) p e room_1 s m #[Value.ref b] below meth c (lw_Z below #[Value.ref b] s) ⟨rfl, rfl, by decide, by decide⟩ FFM hHR
  rw [lg_entry_eq]
  have hl := lv_entry ([.ref b] : List Value) (n := 4) (Nat.le_of_ble_eq_true rfl)
  exact hWx [] s.heap [] _ rep_0 (fun k q h => by simp [rW] at h) rfl va_S.rf hl
set_option maxHeartbeats 4000000 in
theorem lw_walk (l : Launch) (hflags : l.flags = flags0) (b : Addr) (xs : List Int32) : MetFree l x (headSpec (Jvm.Cond.code x code maxLocals ret :: tables_1) room_1) (lw_P b xs) (fun _ _ _ _ _ => True) lw_Q := by
  refine MetFree.of_bodyS (code := code) (maxLocals := maxLocals) (ret := ret) (by decide) ?_ ?_
  · intro args s m h hn
    obtain ⟨meth, c, h1, h2, h3, h4, h5, h6, -, -⟩ := Cond.code_spec hn (atoms_spec (ws := Jvm.Cond.code x code maxLocals ret :: tables_1) h _ List.mem_cons_self)
    exact ⟨meth, c, h1, h2, h3, h4, h5, h6⟩
  · intro p e s m args below meth c s₁ B hml0 hP _
    obtain ⟨rfl, hx, hbd, hgv⟩ := hP
    obtain ⟨scr, harrAt, hlist, hof, hsmall⟩ := hx
    obtain ⟨hcb, hkn, -, -⟩ := State.arrayAt?_spec harrAt
    have hown : s.vm.findClass R_law = some m.cls := findClass_of_methodNamed B.named
    have hts0 : ∀ c ∈ (Jvm.Cond.code x code maxLocals ret :: tables_1), c.before #[Value.ref b] s = true := atoms_spec (ws := Jvm.Cond.code x code maxLocals ret :: tables_1) B.pre
    have hts : ∀ w ∈ lw_tbl, w.before #[Value.ref b] s = true := k2_hts_sels lw_privs (fun w hw => hts0 w (List.mem_cons_of_mem _ hw)) lw_privs_ok
    have hml : c.maxLocals = 4 := B.maxLocals_eq (hts0 _ List.mem_cons_self)
    have X₀ : Stand p l e room_1 s m #[Value.ref b] below meth c s₁ [] 0 0 := Stand.of_body B
    have hh0 : s₁.heap = s.heap := by rw [B.state]; rfl
    have hsz : scr.slots.size = xs.length := by rw [← Array.length_toList, hlist, List.length_map]
    have hval : ∀ j : Nat, j < xs.length → scr.slots[j]? = some (.int (xs.getD j 0)) := fun j hj => by
      rw [← Array.getElem?_toList, hlist]
      simp [hj]
    have hbl : b < s.heap.size := (Array.getElem?_eq_some_iff.mp hcb).1
    have hX : va_X b xs.length (fun j => xs.getD j 0) s s.heap := ⟨scr, hcb, hof, hkn, hsz, hval⟩
    have K : W p l e room_1 s m #[Value.ref b] below meth c s₁.heap [] 0 0 (lw_Z below #[Value.ref b] s) (entryFrame m ([Value.ref b] : List Value).toArray 4) := by
      rw [hh0]
      exact whole_start l hflags hbd ⟨B.exec, B.bytes, B.returns, hml, hown, hts, hX, hbl, B.notSynchronized, hgv⟩
    obtain ⟨t, a1, o, b1, b2, b3⟩ := K s₁ rfl X₀
    exact ⟨t, o, a1, b1, b2, b3⟩
theorem lw_pre_spec {args : Array Value} {s : State} (h : (Jvm.Cond.and given_1 narrow_1).before args s = true) (hr : rest_1_c.before args s = true) : ∃ (b : Addr) (xs : List Int32), lw_P b xs args s := by
  have hs := flat_of_before _ h
  have hq := flat_of_before _ hr
  have hc : (Cond.count 1).before args s = true := hs _ (by decide +kernel)
  have harr : (Cond.arrayOf (.arg 0) .int).before args s = true := hs _ (by decide +kernel)
  have hle : (Cond.le (.length (.arg 0)) (.int 3072)).before args s = true := hs _ (by decide +kernel)
  have hlen : (Cond.isInt (.length (.arg 0))).before args s = true := hq _ (by decide +kernel)
  have hall : (Cond.all (.arg 0) (.isInt (.elem (.arg 0) (.index 0)))).before args s = true := hq _ (by decide +kernel)
  obtain ⟨b, xs, hb, hx⟩ := State.ints_of_pre rfl harr hlen hall
  have hsm : xs.length < 2 ^ 31 := hx.choose_spec.2.2.2
  have hev : (Term.length (.arg 0)).eval args s none [] s = some (.int xs.length.toInt32) := hx.length_eval hb
  have hv := Cond.le_ints hev (show (Term.int 3072).eval args s none [] s = some (.int 3072) from rfl)
  have hd : xs.length.toInt32 ≤ 3072 := by
    simpa [Cond.before, Cond.holds, hv] using hle
  have hN : xs.length ≤ 3072 := (Int32.ofNat_le_ofNat hsm (by decide)).mp (show Int32.ofNat xs.length ≤ Int32.ofNat 3072 from hd)
  exact ⟨b, xs, Cond.one_arg hc (show args[0]? = some (.ref b) from hb), hx, hN, h⟩
theorem lw_comes (l : Launch) (hflags : l.flags = flags0) : Comes l x (Jvm.Cond.code x code maxLocals ret :: tables_1) room_1 (fun tb e args s => Calls_1 tb e args s ∧ rest_1 tb e args s ∧ Pre_1 tb e args s)
    (fun _ _ args s o t => lw_Q args s o t) := by
  intro p e ha hc hk s m args below hf hfit hheap happ hpre
  obtain ⟨b, xs, hP⟩ := lw_pre_spec hpre.2.2 hpre.2.1
  obtain ⟨k, o, h1, h2, h3, hQ⟩ := lw_walk l hflags b xs p e ha hc hk s m args below hf ((Spec.applies_iff_loose hf).mp happ).1 hP trivial
  exact ⟨k, o, h1, h2, h3, hQ⟩
theorem lw_frame {s t : State} {o : Outcome} {args : Array Value} (h : Framed s o t [] 600000 7302250) :
    Framed s o t (fieldLocs frame_1_writes args s ++ arrayLocs frame_1_arrays args s ++ staticLocs frame_1_statics s) 600000 7302250 := h
theorem lw_limb (L : Cond) (hL : ∀ (args : Array Value) (s t : State), L.after args s (.returned (some (.int 1))) t = true) :
    ArmFor flags0 classFile x code maxLocals ret World_1 tables_1 room_1 Calls_1 rest_1 Pre_1
      (fun tb e a s o t => postC L tb e a s o t ∧ Framed s o t (fieldLocs frame_1_writes a s ++ arrayLocs frame_1_arrays a s ++ staticLocs frame_1_statics s) 600000 7302250) := by
  intro l hflags _ _ p e ha hc hk s m args below hf hfit hheap happ hpre
  obtain ⟨k, o, h1, h2, h3, rfl, hF⟩ := lw_comes l hflags p e ha hc hk s m args below hf hfit hheap happ hpre
  exact ⟨k, _, h1, h2, h3, hL args s _, lw_frame hF⟩
theorem i_vc : Claimed_1_1 ∧ Claimed_1_2 := ⟨lw_limb limb_1_1 (fun args s t => by simp [limb_1_1, Cond.after, Cond.holds, Cond.value]), lw_limb limb_1_2 (fun args s t => Cond.after_iff.mpr (by
  first | (rw [show limb_1_2 = Cond.eq .result (.int 1) from rfl, Cond.eq_ints (x := 1) (y := 1) rfl rfl]; simp; done) | (simp [limb_1_2, Cond.value, Term.eval]; done)))⟩
