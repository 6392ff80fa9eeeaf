/-! the class's string constant: its length, and the char at a place -/
def rmD (d mc ms : Nat) : Room := { frames := d + 8, cells := mc, slots := ms, locals := 200 * (d + 8) }
theorem TG_good : ∀ w ∈ TG, w ∈ lw_tbl ∧ ((w.onTables && w.keeps) = true ∨ ∃ ty, w = .arrayClass ty) := fun w h => ⟨(List.mem_filter.mp h).1, good_of_word (List.mem_filter.mp h).2⟩
theorem goodTG {ws : List Cond} (h : ∀ w ∈ ws, w ∈ TG) : GoodIn TG ws := fun w hw => ⟨h w hw, (TG_good w (h w hw)).2⟩
/-- the contract out of a walk, for a class of which some methods are the machine's own -/
theorem ofWF {l : Launch} {y : MethodName} {ws ws' : List Cond} {rm : Room} {Pc : Array Value → State → Prop} {Qc : Array Value → State → Outcome → State → Prop} {mc ms : Nat} {free : Addr → Prop} {cc : ByteArray} {maxL : Nat} {ret : Option FieldType} (hy : plainFor y = true) (hw : ws = Cond.code y cc maxL ret :: ws') (body : ∀ p e s m args below meth c s₁, BodyLoose p l y (headSpec ws rm) cc maxL ret e s m args below meth c s₁ → c.maxLocals = maxL → Pc args s → W p l e (headSpec ws rm).room s m args below meth c s.heap [] 0 0 (MQ below Qc args s mc ms free) (entryFrame m args maxL)) : Met l y ws rm Pc Qc mc ms free := by
  refine MetFree.of_bodySF (code := cc) (maxLocals := maxL) (ret := ret) hy (fun args s m h hn => ?_) (fun p e s m args below meth c s₁ Bd hml hP _ => ?_)
  · obtain ⟨meth, c, h1, h2, h3, h4, h5, h6, -, -⟩ := Cond.code_spec hn (atoms_spec (ws := ws) h _ (by rw [hw]; exact List.mem_cons_self))
    exact ⟨meth, c, h1, h2, h3, h4, h5, h6⟩
  · have hh0 : s₁.heap = s.heap := by rw [Bd.state]; rfl
    obtain ⟨t, a1, o, b1, b2, b3⟩ := body p e s m args below meth c s₁ Bd hml hP s₁ hh0 (Stand.of_body Bd)
    exact ⟨t, o, a1, b1, b2, ⟨b3.1, b3.2⟩⟩
/-- the words that it takes -/
def zL : MethodName := ⟨"java/lang/String", "length", "()I"⟩
def zC : MethodName := ⟨"java/lang/String", "charAt", "(I)C"⟩
def zO : MethodName := ⟨"java/lang/String", "coder", "()B"⟩
def zI : MethodName := ⟨"java/lang/String", "isLatin1", "()Z"⟩
def zK : MethodName := ⟨"java/lang/String", "checkIndex", "(II)V"⟩
def z1 : MethodName := ⟨"java/lang/StringLatin1", "charAt", "([BI)C"⟩
def zP : MethodName := ⟨"jdk/internal/util/Preconditions", "checkIndex", "(IILjava/util/function/BiFunction;)I"⟩

def zW : List Cond := [Cond.code zL prog_18_method_54_code 1 (some .int), Cond.code zC prog_18_method_56_code 2 (some .char), Cond.code zO prog_18_method_152_code 1 (some .byte), Cond.code zI prog_18_method_154_code 1 (some .boolean), Cond.code zK prog_18_method_155_code 2 none, Cond.code z1 prog_19_method_2_code 2 (some .char), Cond.code zP prog_23_method_11_code 3 (some .int), Cond.fieldLink "java/lang/String" 38 "java/lang/String" "COMPACT_STRINGS" "Z", Cond.fieldLink "java/lang/String" 15 "java/lang/String" "coder" "B", Cond.fieldLink "java/lang/String" 9 "java/lang/String" "value" "[B", Cond.fieldLink "java/lang/String" 1053 "jdk/internal/util/Preconditions" "SIOOBE_FORMATTER" "Ljava/util/function/BiFunction;", Cond.methodLink "java/lang/String" 335 zO, Cond.methodLink "java/lang/String" 492 zI, Cond.methodLink "java/lang/String" 495 z1, Cond.methodLink "java/lang/StringLatin1" 9 zK, Cond.methodLink "java/lang/String" 1059 zP, Cond.methodLink "AyeJars$Tokens" 63 zL, Cond.methodLink "AyeJars$Tokens" 68 zC, Cond.instanceMethod zO, Cond.selects "java/lang/String" zO zO, Cond.instanceMethod zI, Cond.selects "java/lang/String" zI zI, Cond.instanceMethod zL, Cond.selects "java/lang/String" zL zL, Cond.instanceMethod zC, Cond.selects "java/lang/String" zC zC, Cond.static z1, Cond.static zK, Cond.static zP, Cond.initialized "java/lang/String", Cond.initialized "java/lang/StringLatin1", Cond.initialized "jdk/internal/util/Preconditions"]
def OKZ : Prop := ∀ w ∈ zW, w ∈ TG
theorem zw_c_zL (h : OKZ) : Cond.code zL prog_18_method_54_code 1 (some .int) ∈ TG := h _ (List.mem_of_getElem? (i := 0) rfl)
theorem zw_c_zC (h : OKZ) : Cond.code zC prog_18_method_56_code 2 (some .char) ∈ TG := h _ (List.mem_of_getElem? (i := 1) rfl)
theorem zw_c_zO (h : OKZ) : Cond.code zO prog_18_method_152_code 1 (some .byte) ∈ TG := h _ (List.mem_of_getElem? (i := 2) rfl)
theorem zw_c_zI (h : OKZ) : Cond.code zI prog_18_method_154_code 1 (some .boolean) ∈ TG := h _ (List.mem_of_getElem? (i := 3) rfl)
theorem zw_c_zK (h : OKZ) : Cond.code zK prog_18_method_155_code 2 none ∈ TG := h _ (List.mem_of_getElem? (i := 4) rfl)
theorem zw_c_z1 (h : OKZ) : Cond.code z1 prog_19_method_2_code 2 (some .char) ∈ TG := h _ (List.mem_of_getElem? (i := 5) rfl)
theorem zw_c_zP (h : OKZ) : Cond.code zP prog_23_method_11_code 3 (some .int) ∈ TG := h _ (List.mem_of_getElem? (i := 6) rfl)
theorem zw_f_cs (h : OKZ) : Cond.fieldLink "java/lang/String" 38 "java/lang/String" "COMPACT_STRINGS" "Z" ∈ TG := h _ (List.mem_of_getElem? (i := 7) rfl)
theorem zw_f_co (h : OKZ) : Cond.fieldLink "java/lang/String" 15 "java/lang/String" "coder" "B" ∈ TG := h _ (List.mem_of_getElem? (i := 8) rfl)
theorem zw_f_va (h : OKZ) : Cond.fieldLink "java/lang/String" 9 "java/lang/String" "value" "[B" ∈ TG := h _ (List.mem_of_getElem? (i := 9) rfl)
theorem zw_f_fm (h : OKZ) : Cond.fieldLink "java/lang/String" 1053 "jdk/internal/util/Preconditions" "SIOOBE_FORMATTER" "Ljava/util/function/BiFunction;" ∈ TG := h _ (List.mem_of_getElem? (i := 10) rfl)
theorem zw_m_zO (h : OKZ) : Cond.methodLink "java/lang/String" 335 zO ∈ TG := h _ (List.mem_of_getElem? (i := 11) rfl)
theorem zw_m_zI (h : OKZ) : Cond.methodLink "java/lang/String" 492 zI ∈ TG := h _ (List.mem_of_getElem? (i := 12) rfl)
theorem zw_m_z1 (h : OKZ) : Cond.methodLink "java/lang/String" 495 z1 ∈ TG := h _ (List.mem_of_getElem? (i := 13) rfl)
theorem zw_m_zK (h : OKZ) : Cond.methodLink "java/lang/StringLatin1" 9 zK ∈ TG := h _ (List.mem_of_getElem? (i := 14) rfl)
theorem zw_m_zP (h : OKZ) : Cond.methodLink "java/lang/String" 1059 zP ∈ TG := h _ (List.mem_of_getElem? (i := 15) rfl)
theorem zw_m_zL (h : OKZ) : Cond.methodLink "AyeJars$Tokens" 63 zL ∈ TG := h _ (List.mem_of_getElem? (i := 16) rfl)
theorem zw_m_zC (h : OKZ) : Cond.methodLink "AyeJars$Tokens" 68 zC ∈ TG := h _ (List.mem_of_getElem? (i := 17) rfl)
theorem zw_i_zO (h : OKZ) : Cond.instanceMethod zO ∈ TG := h _ (List.mem_of_getElem? (i := 18) rfl)
theorem zw_s_zO (h : OKZ) : Cond.selects "java/lang/String" zO zO ∈ TG := h _ (List.mem_of_getElem? (i := 19) rfl)
theorem zw_i_zI (h : OKZ) : Cond.instanceMethod zI ∈ TG := h _ (List.mem_of_getElem? (i := 20) rfl)
theorem zw_s_zI (h : OKZ) : Cond.selects "java/lang/String" zI zI ∈ TG := h _ (List.mem_of_getElem? (i := 21) rfl)
theorem zw_i_zL (h : OKZ) : Cond.instanceMethod zL ∈ TG := h _ (List.mem_of_getElem? (i := 22) rfl)
theorem zw_s_zL (h : OKZ) : Cond.selects "java/lang/String" zL zL ∈ TG := h _ (List.mem_of_getElem? (i := 23) rfl)
theorem zw_i_zC (h : OKZ) : Cond.instanceMethod zC ∈ TG := h _ (List.mem_of_getElem? (i := 24) rfl)
theorem zw_s_zC (h : OKZ) : Cond.selects "java/lang/String" zC zC ∈ TG := h _ (List.mem_of_getElem? (i := 25) rfl)
theorem zw_t_z1 (h : OKZ) : Cond.static z1 ∈ TG := h _ (List.mem_of_getElem? (i := 26) rfl)
theorem zw_t_zK (h : OKZ) : Cond.static zK ∈ TG := h _ (List.mem_of_getElem? (i := 27) rfl)
theorem zw_t_zP (h : OKZ) : Cond.static zP ∈ TG := h _ (List.mem_of_getElem? (i := 28) rfl)
theorem zw_n_S (h : OKZ) : Cond.initialized "java/lang/String" ∈ TG := h _ (List.mem_of_getElem? (i := 29) rfl)
theorem zw_n_1 (h : OKZ) : Cond.initialized "java/lang/StringLatin1" ∈ TG := h _ (List.mem_of_getElem? (i := 30) rfl)
theorem zw_n_P (h : OKZ) : Cond.initialized "jdk/internal/util/Preconditions" ∈ TG := h _ (List.mem_of_getElem? (i := 31) rfl)
def zR (k : Nat) : Room := { frames := k, cells := 0, slots := 0, locals := 200 * k }
abbrev zQ (r : Option Value) : Array Value → State → Outcome → State → Prop := fun _ st oc t => oc = .returned r ∧ t.heap = st.heap
/-- behind a call that leaves the heap as it is -/
theorem zgo {p : Program} {l : Launch} {e : Env} {R : Room} {s : State} {m : MethodId} {args : Array Value} {below : List Frame} {meth : Method} {c : Code} {Q : State → Prop} {H : Heap} {locs : List Loc} {cn z pc : Nat} {ls : Array Slot} {st0 rest : List Value} {r : Option Value} {a : Array Value} (hr : va_Run p l e R s m args below meth c H locs cn z 0 0 (F0 m pc ls st0) rest (zQ r a) (fun _ => False)) (kk : W p l e R s m args below meth c H locs cn z Q (F0 m (pc + 3) ls (r.toList ++ rest))) : W p l e R s m args below meth c H locs cn z Q (F0 m pc ls st0) := by
  intro T hT X
  obtain ⟨v, st₀, t, T', L, h0, X', hL, e1, e2, ⟨hv, hh⟩, st⟩ := hr T hT X
  have hv : v = r := by injection hv
  subst hv
  have hLn : L = [] := by
    cases L with
    | nil => rfl
    | cons q t => exact (hL q List.mem_cons_self).elim
  subst hLn
  rw [List.append_nil] at X'
  obtain ⟨t2, a1, b1⟩ := kk T' (by rw [e1, hh, h0]) X'
  exact ⟨t2, st t2 a1, b1⟩
theorem zcS {p : Program} {l : Launch} {e : Env} {R : Room} {s : State} {m : MethodId} {args : Array Value} {below : List Frame} {meth : Method} {c : Code} {Q : State → Prop} {cc bytes : ByteArray} {nL maxL k np i : Nat} {own : String} {y : MethodName} {ret : Option FieldType} {Pc : Array Value → State → Prop} {r : Option Value} {H : Heap} {locs : List Loc} {cn z pc : Nat} {ls : Array Slot} {As rest : List Value} (S : CallFix p m c cc nL s args TG own) (hM : Met l y (.code y bytes maxL ret :: TG) (zR k) Pc (zQ r) 0 0 (fun _ => False)) (w1 : Cond.methodLink own i y ∈ TG) (w2 : Cond.static y ∈ TG) (w3 : Cond.initialized y.cls ∈ TG) (w4 : Cond.code y bytes maxL ret ∈ TG) (hd : y.cls ≠ "java/lang/invoke/MethodHandle" ∧ y.cls ≠ "java/lang/invoke/VarHandle" ∧ (parseMethodDescriptor y.desc).map (fun d => d.parameters.length) = some np) (hP : PreS s H Pc As) (hn : As.length = np) (hsz : ls.size = nL) (hc : (rest.map fun v => v.category).sum ≤ 8) (hdg : decode cc pc = .ok (.invokestatic i, 3)) (hR : k + 1 ≤ R.frames ∧ 8 + (maxL + 11) + 200 * k ≤ R.locals) (hf : cn ≤ R.cells ∧ z ≤ R.slots) (kk : W p l e R s m args below meth c H locs cn z Q (F0 m (pc + 3) ls (r.toList ++ rest))) : W p l e R s m args below meth c H locs cn z Q (F0 m pc ls (As.reverse ++ rest)) := by
  have hcw : CallB R s args own i y bytes maxL ret (.code y bytes maxL ret :: TG) (zR k) 0 0 np ∧ (Cond.static y).before args s = true :=
    va_cwS np S.2.2.2.2 (goodTG (fun w hw => by
      unfold va_wsS at hw
      rcases List.mem_append.mp hw with h | h
      · rcases List.mem_cons.mp h with rfl | h
        · exact w1
        · rcases List.mem_cons.mp h with rfl | h
          · exact w2
          · rcases List.mem_cons.mp h with rfl | h
            · exact w3
            · cases h
      · rcases List.mem_cons.mp h with rfl | h
        · exact w4
        · exact h)) rfl rfl rfl hd hR
  exact zgo (va_runS (g := F0 m pc ls (As.reverse ++ rest)) (As := As) (rest := rest) (nL := nL) (cc := cc) S hM hcw hP rfl hn hsz rfl (by show 2 * 0 + _ ≤ 8; omega) hdg ⟨by omega, by omega⟩) kk
theorem zcV {p : Program} {l : Launch} {e : Env} {R : Room} {s : State} {m : MethodId} {args : Array Value} {below : List Frame} {meth : Method} {c : Code} {Q : State → Prop} {cc bytes : ByteArray} {nL maxL k np i b : Nat} {own : String} {y : MethodName} {ret : Option FieldType} {Pc : Array Value → State → Prop} {r : Option Value} {H : Heap} {locs : List Loc} {cn z pc : Nat} {ls : Array Slot} {As rest : List Value} (S : CallFix p m c cc nL s args TG own) (hM : Met l y (.code y bytes maxL ret :: TG) (zR k) Pc (zQ r) 0 0 (fun _ => False)) (w1 : Cond.methodLink own i y ∈ TG) (w2 : Cond.instanceMethod y ∈ TG) (w5 : Cond.selects y.cls y y ∈ TG) (w3 : Cond.initialized y.cls ∈ TG) (w4 : Cond.code y bytes maxL ret ∈ TG) (hd : y.cls ≠ "java/lang/invoke/MethodHandle" ∧ y.cls ≠ "java/lang/invoke/VarHandle" ∧ (parseMethodDescriptor y.desc).map (fun d => d.parameters.length) = some np) (hP : PreV s H y.cls b Pc As) (hn : As.length = np) (hsz : ls.size = nL) (hc : (rest.map fun v => v.category).sum ≤ 8) (hdg : decode cc pc = .ok (.invokevirtual i, 3)) (hR : k + 1 ≤ R.frames ∧ 8 + (maxL + 11) + 200 * k ≤ R.locals) (hf : cn ≤ R.cells ∧ z ≤ R.slots) (kk : W p l e R s m args below meth c H locs cn z Q (F0 m (pc + 3) ls (r.toList ++ rest))) : W p l e R s m args below meth c H locs cn z Q (F0 m pc ls (As.reverse ++ .ref b :: rest)) := by
  have hcw : CallW R s args own y.cls i y bytes maxL ret (.code y bytes maxL ret :: TG) (zR k) 0 0 np :=
    cwV np S.2.2.2.2 (goodTG (fun w hw => by
      unfold wsV at hw
      rcases List.mem_append.mp hw with h | h
      · rcases List.mem_cons.mp h with rfl | h
        · exact w1
        · rcases List.mem_cons.mp h with rfl | h
          · exact w2
          · rcases List.mem_cons.mp h with rfl | h
            · exact w5
            · rcases List.mem_cons.mp h with rfl | h
              · exact w3
              · cases h
      · rcases List.mem_cons.mp h with rfl | h
        · exact w4
        · exact h)) rfl rfl rfl ⟨rfl, hd⟩ hR
  exact zgo (va_runV (g := F0 m pc ls (As.reverse ++ .ref b :: rest)) (As := As) (rest := rest) (b := b) (nL := nL) (cc := cc) S hM hcw hP rfl hn hsz rfl (by show 2 * 0 + _ ≤ 8; omega) hdg ⟨by omega, by omega⟩) kk
/-! the state's words on the constant -/
theorem SS_moved {a v fr B : Nat} {u U : State} (h : SS a v fr B u) (hA : u.vm.Alike U.vm) (hb : ∀ q, q < B → U.heap[q]? = u.heap[q]?) : SS a v fr B U := by
  have hk : ∀ q : Nat, q < u.heap.size → ¬ rG B q → U.heap[q]? = u.heap[q]? := fun q _ h2 => hb q (Nat.lt_of_not_le h2)
  exact ⟨(vk_S.moved hA h.1).kept hk, (va_Z.moved hA h.2.1).kept hk, (va_Z.moved hA h.2.2).kept hk⟩
theorem SS_calling {a v fr B : Nat} {U : State} {g : JFrame} {mk : MethodId} {x : Array Value} (h : SS a v fr B U) : SS a v fr B (U.calling g mk x) := SS_moved (u := U) (U := U.calling g mk x) h (Vm.Alike.refl U.vm) (fun _ _ => rfl)
theorem STR_moved {B : Nat} {u U : State} (h : STR B u) (hW : u.WarmedH U.vm) (hb : ∀ q, q < B → U.heap[q]? = u.heap[q]?) : STR B U := by
  obtain ⟨a, v, fr, h1, h2⟩ := h
  exact ⟨a, v, fr, vk_R.warm hW h1, SS_moved h2 hW.alike hb⟩
theorem STR_calling {B : Nat} {U : State} {g : JFrame} {mk : MethodId} {a : Array Value} (h : STR B U) : STR B (U.calling g mk a) := by
  obtain ⟨x, v, fr, h1, h2⟩ := h
  exact ⟨x, v, fr, vk_R.same (u := U) (U := U.calling g mk a) rfl h1, SS_calling h2⟩

theorem zd_zP_0 : decode prog_23_method_11_code 0 = .ok (.iload_n 0, 1) := by decide +kernel
theorem zd_zP_1 : decode prog_23_method_11_code 1 = .ok (.ifCond .lt 8, 3) := by decide +kernel
theorem zd_zP_4 : decode prog_23_method_11_code 4 = .ok (.iload_n 0, 1) := by decide +kernel
theorem zd_zP_5 : decode prog_23_method_11_code 5 = .ok (.iload_n 1, 1) := by decide +kernel
theorem zd_zP_6 : decode prog_23_method_11_code 6 = .ok (.if_icmp .lt 10, 3) := by decide +kernel
theorem zd_zP_16 : decode prog_23_method_11_code 16 = .ok (.iload_n 0, 1) := by decide +kernel
theorem zd_zP_17 : decode prog_23_method_11_code 17 = .ok (.ireturn, 1) := by decide +kernel
theorem zd_zK_0 : decode prog_18_method_155_code 0 = .ok (.iload_n 0, 1) := by decide +kernel
theorem zd_zK_1 : decode prog_18_method_155_code 1 = .ok (.iload_n 1, 1) := by decide +kernel
theorem zd_zK_2 : decode prog_18_method_155_code 2 = .ok (.getstatic 1053, 3) := by decide +kernel
theorem zd_zK_5 : decode prog_18_method_155_code 5 = .ok (.invokestatic 1059, 3) := by decide +kernel
theorem zd_zK_8 : decode prog_18_method_155_code 8 = .ok (.pop, 1) := by decide +kernel
theorem zd_zK_9 : decode prog_18_method_155_code 9 = .ok (.return_, 1) := by decide +kernel
theorem zd_z1_0 : decode prog_19_method_2_code 0 = .ok (.iload_n 1, 1) := by decide +kernel
theorem zd_z1_1 : decode prog_19_method_2_code 1 = .ok (.aload_n 0, 1) := by decide +kernel
theorem zd_z1_2 : decode prog_19_method_2_code 2 = .ok (.arraylength, 1) := by decide +kernel
theorem zd_z1_3 : decode prog_19_method_2_code 3 = .ok (.invokestatic 9, 3) := by decide +kernel
theorem zd_z1_6 : decode prog_19_method_2_code 6 = .ok (.aload_n 0, 1) := by decide +kernel
theorem zd_z1_7 : decode prog_19_method_2_code 7 = .ok (.iload_n 1, 1) := by decide +kernel
theorem zd_z1_8 : decode prog_19_method_2_code 8 = .ok (.baload, 1) := by decide +kernel
theorem zd_z1_9 : decode prog_19_method_2_code 9 = .ok (.sipush 255, 3) := by decide +kernel
theorem zd_z1_12 : decode prog_19_method_2_code 12 = .ok (.iand, 1) := by decide +kernel
theorem zd_z1_13 : decode prog_19_method_2_code 13 = .ok (.i2c, 1) := by decide +kernel
theorem zd_z1_14 : decode prog_19_method_2_code 14 = .ok (.ireturn, 1) := by decide +kernel
theorem zd_zI_0 : decode prog_18_method_154_code 0 = .ok (.getstatic 38, 3) := by decide +kernel
theorem zd_zI_3 : decode prog_18_method_154_code 3 = .ok (.ifCond .eq 14, 3) := by decide +kernel
theorem zd_zI_6 : decode prog_18_method_154_code 6 = .ok (.aload_n 0, 1) := by decide +kernel
theorem zd_zI_7 : decode prog_18_method_154_code 7 = .ok (.getfield 15, 3) := by decide +kernel
theorem zd_zI_10 : decode prog_18_method_154_code 10 = .ok (.ifCond .ne 7, 3) := by decide +kernel
theorem zd_zI_13 : decode prog_18_method_154_code 13 = .ok (.iconst 1, 1) := by decide +kernel
theorem zd_zI_14 : decode prog_18_method_154_code 14 = .ok (.goto 4, 3) := by decide +kernel
theorem zd_zI_18 : decode prog_18_method_154_code 18 = .ok (.ireturn, 1) := by decide +kernel
theorem zd_zO_0 : decode prog_18_method_152_code 0 = .ok (.getstatic 38, 3) := by decide +kernel
theorem zd_zO_3 : decode prog_18_method_152_code 3 = .ok (.ifCond .eq 10, 3) := by decide +kernel
theorem zd_zO_6 : decode prog_18_method_152_code 6 = .ok (.aload_n 0, 1) := by decide +kernel
theorem zd_zO_7 : decode prog_18_method_152_code 7 = .ok (.getfield 15, 3) := by decide +kernel
theorem zd_zO_10 : decode prog_18_method_152_code 10 = .ok (.goto 4, 3) := by decide +kernel
theorem zd_zO_14 : decode prog_18_method_152_code 14 = .ok (.ireturn, 1) := by decide +kernel
theorem zd_zL_0 : decode prog_18_method_54_code 0 = .ok (.aload_n 0, 1) := by decide +kernel
theorem zd_zL_1 : decode prog_18_method_54_code 1 = .ok (.getfield 9, 3) := by decide +kernel
theorem zd_zL_4 : decode prog_18_method_54_code 4 = .ok (.arraylength, 1) := by decide +kernel
theorem zd_zL_5 : decode prog_18_method_54_code 5 = .ok (.aload_n 0, 1) := by decide +kernel
theorem zd_zL_6 : decode prog_18_method_54_code 6 = .ok (.invokevirtual 335, 3) := by decide +kernel
theorem zd_zL_9 : decode prog_18_method_54_code 9 = .ok (.ishr, 1) := by decide +kernel
theorem zd_zL_10 : decode prog_18_method_54_code 10 = .ok (.ireturn, 1) := by decide +kernel
theorem zd_zC_0 : decode prog_18_method_56_code 0 = .ok (.aload_n 0, 1) := by decide +kernel
theorem zd_zC_1 : decode prog_18_method_56_code 1 = .ok (.invokevirtual 492, 3) := by decide +kernel
theorem zd_zC_4 : decode prog_18_method_56_code 4 = .ok (.ifCond .eq 12, 3) := by decide +kernel
theorem zd_zC_7 : decode prog_18_method_56_code 7 = .ok (.aload_n 0, 1) := by decide +kernel
theorem zd_zC_8 : decode prog_18_method_56_code 8 = .ok (.getfield 9, 3) := by decide +kernel
theorem zd_zC_11 : decode prog_18_method_56_code 11 = .ok (.iload_n 1, 1) := by decide +kernel
theorem zd_zC_12 : decode prog_18_method_56_code 12 = .ok (.invokestatic 495, 3) := by decide +kernel
theorem zd_zC_15 : decode prog_18_method_56_code 15 = .ok (.ireturn, 1) := by decide +kernel
theorem k_zP {l : Launch} {i n fr : Nat} (hin : i < n) (hn : n < 2147483648) : Met l zP (.code zP prog_23_method_11_code 3 (some .int) :: TG) (zR 1) (fun a _ => a = [Value.int (nI i), Value.int (nI n), Value.ref fr].toArray ∧ True) (zQ (some (.int (nI i)))) 0 0 (fun _ => False) := by
  refine ofWF (cc := prog_23_method_11_code) (maxL := 3) (ret := (some .int)) (by decide) rfl ?_
  intro p e s m args below meth c s₁ Bd hml hv
  obtain ⟨rfl, hv⟩ := hv
  have hx := Bd.exec
  have hb := Bd.bytes
  have hr : meth.sig.returnType = (some .int) := Bd.returns
  have hlk : meth.locks = false := Bd.notSynchronized
  have hts : ∀ w ∈ TG, w.before _ s = true := fun w hw => atoms_spec (ws := .code zP prog_23_method_11_code 3 (some .int) :: TG) Bd.pre w (List.mem_cons_of_mem _ hw)
  have hown := findClass_of_methodNamed Bd.named
  rw [lg_entry_eq]
  have hl := lv_entry [Value.int (nI i), Value.int (nI n), Value.ref fr] (n := 3) (Nat.le_of_eq rfl)
  generalize ((lg_sl [Value.int (nI i), Value.int (nI n), Value.ref fr] ++ List.replicate (3 - (lg_sl [Value.int (nI i), Value.int (nI n), Value.ref fr]).length) Slot.unset).toArray) = ls at hl ⊢
  refine lv_iload_n hx hb zd_zP_0 rfl (lv_at hl 0 rfl) ?_
  refine r_if hx hb zd_zP_1 (tgt := 9) (by decide) (fun h => absurd h (nI_pos (by omega))) (fun _ => ?_)
  refine lv_iload_n hx hb zd_zP_4 rfl (lv_at hl 0 rfl) ?_
  refine lv_iload_n hx hb zd_zP_5 rfl (lv_at hl 1 rfl) ?_
  refine r_icmp hx hb zd_zP_6 (tgt := 16) (by decide) (fun _ => ?_) (fun h => absurd (nI_lt hin hn) h)
  refine lv_iload_n hx hb zd_zP_16 rfl (lv_at hl 0 rfl) ?_
  exact W.iret hx hb hr (fun t ht _ => ⟨rfl, ht⟩) (fun _ h => absurd h List.not_mem_nil) zd_zP_17
theorem k_zN {l : Launch} {i n : Nat} (hin : i < n) (hn : n < 2147483648) : Met l zP (.code zP prog_23_method_11_code 3 (some .int) :: TG) (zR 1) (fun a _ => a = [Value.int (nI i), Value.int (nI n), Value.null].toArray ∧ True) (zQ (some (.int (nI i)))) 0 0 (fun _ => False) := by
  refine ofWF (cc := prog_23_method_11_code) (maxL := 3) (ret := (some .int)) (by decide) rfl ?_
  intro p e s m args below meth c s₁ Bd hml hv
  obtain ⟨rfl, hv⟩ := hv
  have hx := Bd.exec
  have hb := Bd.bytes
  have hr : meth.sig.returnType = (some .int) := Bd.returns
  have hlk : meth.locks = false := Bd.notSynchronized
  have hts : ∀ w ∈ TG, w.before _ s = true := fun w hw => atoms_spec (ws := .code zP prog_23_method_11_code 3 (some .int) :: TG) Bd.pre w (List.mem_cons_of_mem _ hw)
  have hown := findClass_of_methodNamed Bd.named
  rw [lg_entry_eq]
  have hl := lv_entry [Value.int (nI i), Value.int (nI n), Value.null] (n := 3) (Nat.le_of_eq rfl)
  generalize ((lg_sl [Value.int (nI i), Value.int (nI n), Value.null] ++ List.replicate (3 - (lg_sl [Value.int (nI i), Value.int (nI n), Value.null]).length) Slot.unset).toArray) = ls at hl ⊢
  refine lv_iload_n hx hb zd_zP_0 rfl (lv_at hl 0 rfl) ?_
  refine r_if hx hb zd_zP_1 (tgt := 9) (by decide) (fun h => absurd h (nI_pos (by omega))) (fun _ => ?_)
  refine lv_iload_n hx hb zd_zP_4 rfl (lv_at hl 0 rfl) ?_
  refine lv_iload_n hx hb zd_zP_5 rfl (lv_at hl 1 rfl) ?_
  refine r_icmp hx hb zd_zP_6 (tgt := 16) (by decide) (fun _ => ?_) (fun h => absurd (nI_lt hin hn) h)
  refine lv_iload_n hx hb zd_zP_16 rfl (lv_at hl 0 rfl) ?_
  exact W.iret hx hb hr (fun t ht _ => ⟨rfl, ht⟩) (fun _ h => absurd h List.not_mem_nil) zd_zP_17
theorem k_zK {l : Launch} {i n a v fr B : Nat} (hz : OKZ) (hin : i < n) (hn : n < 2147483648) : Met l zK (.code zK prog_18_method_155_code 2 none :: TG) (zR 2) (fun x U => x = [Value.int (nI i), Value.int (nI n)].toArray ∧ SS a v fr B U) (zQ none) 0 0 (fun _ => False) := by
  cases fr with
  | zero =>
    refine ofWF (cc := prog_18_method_155_code) (maxL := 2) (ret := none) (by decide) rfl ?_
    intro p e s m args below meth c s₁ Bd hml hv
    obtain ⟨rfl, hv⟩ := hv
    have hx := Bd.exec
    have hb := Bd.bytes
    have hr : meth.sig.returnType = none := Bd.returns
    have hlk : meth.locks = false := Bd.notSynchronized
    have hts : ∀ w ∈ TG, w.before _ s = true := fun w hw => atoms_spec (ws := .code zK prog_18_method_155_code 2 none :: TG) Bd.pre w (List.mem_cons_of_mem _ hw)
    have hown := findClass_of_methodNamed Bd.named
    rw [lg_entry_eq]
    have hl := lv_entry [Value.int (nI i), Value.int (nI n)] (n := 2) (Nat.le_of_eq rfl)
    generalize ((lg_sl [Value.int (nI i), Value.int (nI n)] ++ List.replicate (2 - (lg_sl [Value.int (nI i), Value.int (nI n)]).length) Slot.unset).toArray) = ls at hl ⊢
    refine lv_iload_n hx hb zd_zK_0 rfl (lv_at hl 0 rfl) ?_
    refine lv_iload_n hx hb zd_zK_1 rfl (lv_at hl 1 rfl) ?_
    refine va_gets hx hb (show va_Z _ _ _ Value.null _ _ _ from hv.2.2) va_S.rf hown (hts _ (zw_f_fm hz)) (fun _ h => h) zd_zK_2 ?_
    refine zcS (np := 3) (As := [Value.int (nI i), Value.int (nI n), Value.null]) (rest := []) ⟨hx, hb, hml, hown, hts⟩ (k_zN hin hn) (zw_m_zP hz) (zw_t_zP hz) (zw_n_P hz) (zw_c_zP hz) ⟨by decide, by decide, by decide +kernel⟩ ⟨fun _ _ _ _ h => h, fun _ _ _ => ⟨rfl, trivial⟩⟩ rfl hl.1 (by decide) zd_zK_5 ⟨by decide, by decide⟩ ⟨Nat.zero_le _, Nat.zero_le _⟩ ?_
    refine lv_pop hx hb zd_zK_8 rfl ?_
    exact W.vret hx hb hr (fun t ht _ => ⟨rfl, ht⟩) (fun _ h => absurd h List.not_mem_nil) zd_zK_9
  | succ fr =>
    refine ofWF (cc := prog_18_method_155_code) (maxL := 2) (ret := none) (by decide) rfl ?_
    intro p e s m args below meth c s₁ Bd hml hv
    obtain ⟨rfl, hv⟩ := hv
    have hx := Bd.exec
    have hb := Bd.bytes
    have hr : meth.sig.returnType = none := Bd.returns
    have hlk : meth.locks = false := Bd.notSynchronized
    have hts : ∀ w ∈ TG, w.before _ s = true := fun w hw => atoms_spec (ws := .code zK prog_18_method_155_code 2 none :: TG) Bd.pre w (List.mem_cons_of_mem _ hw)
    have hown := findClass_of_methodNamed Bd.named
    rw [lg_entry_eq]
    have hl := lv_entry [Value.int (nI i), Value.int (nI n)] (n := 2) (Nat.le_of_eq rfl)
    generalize ((lg_sl [Value.int (nI i), Value.int (nI n)] ++ List.replicate (2 - (lg_sl [Value.int (nI i), Value.int (nI n)]).length) Slot.unset).toArray) = ls at hl ⊢
    refine lv_iload_n hx hb zd_zK_0 rfl (lv_at hl 0 rfl) ?_
    refine lv_iload_n hx hb zd_zK_1 rfl (lv_at hl 1 rfl) ?_
    refine va_gets hx hb (show va_Z _ _ _ (Value.ref fr) _ _ _ from hv.2.2) va_S.rf hown (hts _ (zw_f_fm hz)) (fun _ h => h) zd_zK_2 ?_
    refine zcS (np := 3) (As := [Value.int (nI i), Value.int (nI n), Value.ref fr]) (rest := []) ⟨hx, hb, hml, hown, hts⟩ (k_zP hin hn) (zw_m_zP hz) (zw_t_zP hz) (zw_n_P hz) (zw_c_zP hz) ⟨by decide, by decide, by decide +kernel⟩ ⟨fun _ _ _ _ h => h, fun _ _ _ => ⟨rfl, trivial⟩⟩ rfl hl.1 (by decide) zd_zK_5 ⟨by decide, by decide⟩ ⟨Nat.zero_le _, Nat.zero_le _⟩ ?_
    refine lv_pop hx hb zd_zK_8 rfl ?_
    exact W.vret hx hb hr (fun t ht _ => ⟨rfl, ht⟩) (fun _ h => absurd h List.not_mem_nil) zd_zK_9
theorem zin {i : Nat} (h : i < 96) : i < wordsB.length := h
theorem k_z1 {l : Launch} {i a v fr B : Nat} (hz : OKZ) (hin : i < 96) : Met l z1 (.code z1 prog_19_method_2_code 2 (some .char) :: TG) (zR 3) (fun x U => x = [Value.ref v, Value.int (nI i)].toArray ∧ SS a v fr B U) (zQ (some (.int (wordsB.getD i 0 &&& 255)))) 0 0 (fun _ => False) := by
  refine ofWF (cc := prog_19_method_2_code) (maxL := 2) (ret := (some .char)) (by decide) rfl ?_
  intro p e s m args below meth c s₁ Bd hml hv
  obtain ⟨rfl, hv⟩ := hv
  have hx := Bd.exec
  have hb := Bd.bytes
  have hr : meth.sig.returnType = (some .char) := Bd.returns
  have hlk : meth.locks = false := Bd.notSynchronized
  have hts : ∀ w ∈ TG, w.before _ s = true := fun w hw => atoms_spec (ws := .code z1 prog_19_method_2_code 2 (some .char) :: TG) Bd.pre w (List.mem_cons_of_mem _ hw)
  have hown := findClass_of_methodNamed Bd.named
  rw [lg_entry_eq]
  have hl := lv_entry [Value.ref v, Value.int (nI i)] (n := 2) (Nat.le_of_eq rfl)
  generalize ((lg_sl [Value.ref v, Value.int (nI i)] ++ List.replicate (2 - (lg_sl [Value.ref v, Value.int (nI i)]).length) Slot.unset).toArray) = ls at hl ⊢
  obtain ⟨q1, q2, q3, q4⟩ := hv.1.1 0 (by decide)
  refine lv_iload_n hx hb zd_z1_0 rfl (lv_at hl 1 rfl) ?_
  refine lv_aload_n hx hb zd_z1_1 rfl (lv_at hl 0 rfl) ?_
  refine va_tlen hx hb q4 va_S.rf (v := nI 96) rfl zd_z1_2 ?_
  refine zcS (np := 2) (As := [Value.int (nI i), Value.int (nI 96)]) (rest := []) ⟨hx, hb, hml, hown, hts⟩ (k_zK (a := a) (v := v) (fr := fr) (B := B) hz hin (by decide)) (zw_m_zK hz) (zw_t_zK hz) (zw_n_S hz) (zw_c_zK hz) ⟨by decide, by decide, by decide +kernel⟩ ⟨fun _ _ _ _ h => ⟨h.1, SS_calling h.2⟩, fun U hU hW => ⟨rfl, SS_moved hv hW.alike (fun _ _ => by rw [hU])⟩⟩ rfl hl.1 (by decide) zd_z1_3 ⟨by decide, by decide⟩ ⟨Nat.zero_le _, Nat.zero_le _⟩ ?_
  refine lv_aload_n hx hb zd_z1_6 rfl (lv_at hl 0 rfl) ?_
  refine lv_iload_n hx hb zd_z1_7 rfl (lv_at hl 1 rfl) ?_
  refine va_tb hx hb q4 va_S.rf (vp_in_nI (N := 96) hin (by decide)) (v := .int (wordsB.getD i 0)) (by rw [nI_clamp (by omega)]; rfl) zd_z1_8 ?_
  refine lv_sipush hx hb zd_z1_9 (v := 255) (by decide) ?_
  refine lv_iand hx hb zd_z1_12 ?_
  refine lv_i2c hx hb zd_z1_13 (sc_c2 _) ?_
  exact W.zret hx hb hr (sc_nar _) (fun t ht _ => ⟨rfl, ht⟩) (fun _ h => absurd h List.not_mem_nil) zd_z1_14
theorem k_zI {l : Launch} {a v fr B : Nat} (hz : OKZ) : Met l zI (.code zI prog_18_method_154_code 1 (some .boolean) :: TG) (zR 1) (fun x U => x = [Value.ref a].toArray ∧ SS a v fr B U) (zQ (some (.int 1))) 0 0 (fun _ => False) := by
  refine ofWF (cc := prog_18_method_154_code) (maxL := 1) (ret := (some .boolean)) (by decide) rfl ?_
  intro p e s m args below meth c s₁ Bd hml hv
  obtain ⟨rfl, hv⟩ := hv
  have hx := Bd.exec
  have hb := Bd.bytes
  have hr : meth.sig.returnType = (some .boolean) := Bd.returns
  have hlk : meth.locks = false := Bd.notSynchronized
  have hts : ∀ w ∈ TG, w.before _ s = true := fun w hw => atoms_spec (ws := .code zI prog_18_method_154_code 1 (some .boolean) :: TG) Bd.pre w (List.mem_cons_of_mem _ hw)
  have hown := findClass_of_methodNamed Bd.named
  rw [lg_entry_eq]
  have hl := lv_entry [Value.ref a] (n := 1) (Nat.le_of_eq rfl)
  generalize ((lg_sl [Value.ref a] ++ List.replicate (1 - (lg_sl [Value.ref a]).length) Slot.unset).toArray) = ls at hl ⊢
  obtain ⟨q1, q2, q3, q4⟩ := hv.1.1 0 (by decide)
  refine va_gets hx hb hv.2.1 va_S.rf hown (hts _ (zw_f_cs hz)) (fun _ h => h) zd_zI_0 ?_
  refine r_if hx hb zd_zI_3 (tgt := 17) (by decide) (fun h => absurd h (show ¬ ((1 : Int32) = 0) by decide)) (fun _ => ?_)
  refine lv_aload_n hx hb zd_zI_6 rfl (lv_at hl 0 rfl) ?_
  refine vk_getf hx hb q2 va_S.rf hown (hts _ (zw_f_co hz)) (fun _ h => h) zd_zI_7 ?_
  refine r_if hx hb zd_zI_10 (tgt := 17) (by decide) (fun h => absurd rfl h) (fun _ => ?_)
  refine lv_iconst hx hb zd_zI_13 (v := 1) (by decide) ?_
  refine lv_goto hx hb zd_zI_14 (tgt := 18) (by decide) ?_
  exact W.zret hx hb hr (by decide) (fun t ht _ => ⟨rfl, ht⟩) (fun _ h => absurd h List.not_mem_nil) zd_zI_18
theorem k_zO {l : Launch} {a v fr B : Nat} (hz : OKZ) : Met l zO (.code zO prog_18_method_152_code 1 (some .byte) :: TG) (zR 1) (fun x U => x = [Value.ref a].toArray ∧ SS a v fr B U) (zQ (some (.int 0))) 0 0 (fun _ => False) := by
  refine ofWF (cc := prog_18_method_152_code) (maxL := 1) (ret := (some .byte)) (by decide) rfl ?_
  intro p e s m args below meth c s₁ Bd hml hv
  obtain ⟨rfl, hv⟩ := hv
  have hx := Bd.exec
  have hb := Bd.bytes
  have hr : meth.sig.returnType = (some .byte) := Bd.returns
  have hlk : meth.locks = false := Bd.notSynchronized
  have hts : ∀ w ∈ TG, w.before _ s = true := fun w hw => atoms_spec (ws := .code zO prog_18_method_152_code 1 (some .byte) :: TG) Bd.pre w (List.mem_cons_of_mem _ hw)
  have hown := findClass_of_methodNamed Bd.named
  rw [lg_entry_eq]
  have hl := lv_entry [Value.ref a] (n := 1) (Nat.le_of_eq rfl)
  generalize ((lg_sl [Value.ref a] ++ List.replicate (1 - (lg_sl [Value.ref a]).length) Slot.unset).toArray) = ls at hl ⊢
  obtain ⟨q1, q2, q3, q4⟩ := hv.1.1 0 (by decide)
  refine va_gets hx hb hv.2.1 va_S.rf hown (hts _ (zw_f_cs hz)) (fun _ h => h) zd_zO_0 ?_
  refine r_if hx hb zd_zO_3 (tgt := 13) (by decide) (fun h => absurd h (show ¬ ((1 : Int32) = 0) by decide)) (fun _ => ?_)
  refine lv_aload_n hx hb zd_zO_6 rfl (lv_at hl 0 rfl) ?_
  refine vk_getf hx hb q2 va_S.rf hown (hts _ (zw_f_co hz)) (fun _ h => h) zd_zO_7 ?_
  refine lv_goto hx hb zd_zO_10 (tgt := 14) (by decide) ?_
  exact W.zret hx hb hr (by decide) (fun t ht _ => ⟨rfl, ht⟩) (fun _ h => absurd h List.not_mem_nil) zd_zO_14
theorem k_zL {l : Launch} {a v fr B : Nat} (hz : OKZ) : Met l zL (.code zL prog_18_method_54_code 1 (some .int) :: TG) (zR 2) (fun x U => x = [Value.ref a].toArray ∧ SS a v fr B U) (zQ (some (.int (nI 96)))) 0 0 (fun _ => False) := by
  refine ofWF (cc := prog_18_method_54_code) (maxL := 1) (ret := (some .int)) (by decide) rfl ?_
  intro p e s m args below meth c s₁ Bd hml hv
  obtain ⟨rfl, hv⟩ := hv
  have hx := Bd.exec
  have hb := Bd.bytes
  have hr : meth.sig.returnType = (some .int) := Bd.returns
  have hlk : meth.locks = false := Bd.notSynchronized
  have hts : ∀ w ∈ TG, w.before _ s = true := fun w hw => atoms_spec (ws := .code zL prog_18_method_54_code 1 (some .int) :: TG) Bd.pre w (List.mem_cons_of_mem _ hw)
  have hown := findClass_of_methodNamed Bd.named
  rw [lg_entry_eq]
  have hl := lv_entry [Value.ref a] (n := 1) (Nat.le_of_eq rfl)
  generalize ((lg_sl [Value.ref a] ++ List.replicate (1 - (lg_sl [Value.ref a]).length) Slot.unset).toArray) = ls at hl ⊢
  obtain ⟨q1, q2, q3, q4⟩ := hv.1.1 0 (by decide)
  refine lv_aload_n hx hb zd_zL_0 rfl (lv_at hl 0 rfl) ?_
  refine vk_getf hx hb q3 va_S.rf hown (hts _ (zw_f_va hz)) (fun _ h => h) zd_zL_1 ?_
  refine va_tlen hx hb q4 va_S.rf (v := nI 96) rfl zd_zL_4 ?_
  refine lv_aload_n hx hb zd_zL_5 rfl (lv_at hl 0 rfl) ?_
  refine zcV (np := 0) (As := []) (rest := [Value.int (nI 96)]) (b := a) ⟨hx, hb, hml, hown, hts⟩ (k_zO (a := a) (v := v) (fr := fr) (B := B) hz) (zw_m_zO hz) (zw_i_zO hz) (zw_s_zO hz) (zw_n_S hz) (zw_c_zO hz) ⟨by decide, by decide, by decide +kernel⟩ ⟨fun _ _ _ _ h => ⟨h.1, SS_calling h.2⟩, vk_recv (i := 0) hv.1 (by decide) va_S.rf, fun U hU hW => ⟨rfl, SS_moved hv hW.alike (fun _ _ => by rw [hU])⟩⟩ rfl hl.1 (by decide) zd_zL_6 ⟨by decide, by decide⟩ ⟨Nat.zero_le _, Nat.zero_le _⟩ ?_
  refine lv_ishr hx hb zd_zL_9 ?_
  rw [sc_shr0 (by decide)]
  exact W.iret hx hb hr (fun t ht _ => ⟨rfl, ht⟩) (fun _ h => absurd h List.not_mem_nil) zd_zL_10
theorem k_zC {l : Launch} {i a v fr B : Nat} (hz : OKZ) (hin : i < 96) : Met l zC (.code zC prog_18_method_56_code 2 (some .char) :: TG) (zR 4) (fun x U => x = [Value.ref a, Value.int (nI i)].toArray ∧ SS a v fr B U) (zQ (some (.int (wordsB.getD i 0 &&& 255)))) 0 0 (fun _ => False) := by
  refine ofWF (cc := prog_18_method_56_code) (maxL := 2) (ret := (some .char)) (by decide) rfl ?_
  intro p e s m args below meth c s₁ Bd hml hv
  obtain ⟨rfl, hv⟩ := hv
  have hx := Bd.exec
  have hb := Bd.bytes
  have hr : meth.sig.returnType = (some .char) := Bd.returns
  have hlk : meth.locks = false := Bd.notSynchronized
  have hts : ∀ w ∈ TG, w.before _ s = true := fun w hw => atoms_spec (ws := .code zC prog_18_method_56_code 2 (some .char) :: TG) Bd.pre w (List.mem_cons_of_mem _ hw)
  have hown := findClass_of_methodNamed Bd.named
  rw [lg_entry_eq]
  have hl := lv_entry [Value.ref a, Value.int (nI i)] (n := 2) (Nat.le_of_eq rfl)
  generalize ((lg_sl [Value.ref a, Value.int (nI i)] ++ List.replicate (2 - (lg_sl [Value.ref a, Value.int (nI i)]).length) Slot.unset).toArray) = ls at hl ⊢
  obtain ⟨q1, q2, q3, q4⟩ := hv.1.1 0 (by decide)
  refine lv_aload_n hx hb zd_zC_0 rfl (lv_at hl 0 rfl) ?_
  refine zcV (np := 0) (As := []) (rest := []) (b := a) ⟨hx, hb, hml, hown, hts⟩ (k_zI (a := a) (v := v) (fr := fr) (B := B) hz) (zw_m_zI hz) (zw_i_zI hz) (zw_s_zI hz) (zw_n_S hz) (zw_c_zI hz) ⟨by decide, by decide, by decide +kernel⟩ ⟨fun _ _ _ _ h => ⟨h.1, SS_calling h.2⟩, vk_recv (i := 0) hv.1 (by decide) va_S.rf, fun U hU hW => ⟨rfl, SS_moved hv hW.alike (fun _ _ => by rw [hU])⟩⟩ rfl hl.1 (by decide) zd_zC_1 ⟨by decide, by decide⟩ ⟨Nat.zero_le _, Nat.zero_le _⟩ ?_
  refine r_if hx hb zd_zC_4 (tgt := 16) (by decide) (fun h => absurd h (show ¬ ((1 : Int32) = 0) by decide)) (fun _ => ?_)
  refine lv_aload_n hx hb zd_zC_7 rfl (lv_at hl 0 rfl) ?_
  refine vk_getf hx hb q3 va_S.rf hown (hts _ (zw_f_va hz)) (fun _ h => h) zd_zC_8 ?_
  refine lv_iload_n hx hb zd_zC_11 rfl (lv_at hl 1 rfl) ?_
  refine zcS (np := 2) (As := [Value.ref v, Value.int (nI i)]) (rest := []) ⟨hx, hb, hml, hown, hts⟩ (k_z1 (a := a) (v := v) (fr := fr) (B := B) hz hin) (zw_m_z1 hz) (zw_t_z1 hz) (zw_n_1 hz) (zw_c_z1 hz) ⟨by decide, by decide, by decide +kernel⟩ ⟨fun _ _ _ _ h => ⟨h.1, SS_calling h.2⟩, fun U hU hW => ⟨rfl, SS_moved hv hW.alike (fun _ _ => by rw [hU])⟩⟩ rfl hl.1 (by decide) zd_zC_12 ⟨by decide, by decide⟩ ⟨Nat.zero_le _, Nat.zero_le _⟩ ?_
  exact W.zret hx hb hr (sc_nar _) (fun t ht _ => ⟨rfl, ht⟩) (fun _ h => absurd h List.not_mem_nil) zd_zC_15
theorem zch : ∀ i, i < 96 → wordsB.getD i 0 &&& 255 = nI (wordsL.getD i 0) := by decide +kernel

theorem zlt : ∀ k v, wordsL[k]? = some v → k < 96 ∧ v < 4294967296 ∧ wordsL.getD k 0 = v := by
  intro k v h
  have h1 : k < wordsL.length := (List.getElem?_eq_some_iff.mp h).1
  refine ⟨h1, ?_, by rw [List.getD_eq_getElem?_getD, h]; rfl⟩
  have h2 : ∀ w ∈ wordsL, w < 4294967296 := by decide +kernel
  exact h2 v (List.mem_of_getElem? h)
theorem isStr_ok {q : Instr × Nat} (h : isStr q = true) : q = (.ldc 61, 2) := by
  obtain ⟨ins, w⟩ := q
  unfold isStr at h
  split at h
  · next i hi =>
    have hi : ins = .ldc i := hi
    rw [Bool.and_eq_true] at h
    rw [hi, Nat.eq_of_beq_eq_true h.1, show w = 2 from Nat.eq_of_beq_eq_true h.2]
  · cases h
theorem s_str {p : Program} {l : Launch} {e : Env} {R : Room} {s : State} {m : MethodId} {args : Array Value} {below : List Frame} {meth : Method} {c : Code} {Q : State → Prop} {sg : Nat → Int32} {b B : Nat} {L : List Nat} {xs : Nat → Int32} {dC : Nat → ClassId} {dI : Nat → Nat → Nat} {cy : Nat → ClassId} {M : rM} {E : rE} {pc : Nat} {lv : rK} {st : List rV} {aw : rD} {cn z : Nat} {o : rO} (hz : OKZ) (hR : R.cells = mC M ∧ R.slots = mS M) (hF8 : 8 ≤ R.frames ∧ 1600 ≤ R.locals) (F : FF p s m args meth c (mBy M) (mLoc M) (mOwn M) (mIni M) b B L xs dC dI cy) (hE : eOK sg E) (hT : okT (mBy M) (mLoc M) (mTab M)) (hq : mTab M pc = some (.ldc 61, 2)) (h : strS E M pc lv st aw cn z = some o) : Sem p l e R s m args below meth c Q sg b B cy dC dI (mLoc M) (mBy M) (mOwn M) (mRet M) (mC M) (mS M) o (pc, lv, st, aw, cn, z) := by
  obtain ⟨hx, hb, hml, ho, hts, hsf, hini⟩ := F
  obtain ⟨a, v, fr, hS1, hS2⟩ := hsf.2.2.2.2.2.2
  have hBs := hsf.2.2.2.2.2.1
  have hd0 := (hT pc _ hq).1
  unfold strS at h
  cases hc : (Nat.beq (mOwn M) 9 && (Nat.ble (csum st) 8 && (Nat.ble cn (mC M) && Nat.ble z (mS M)))) with
  | false => rw [hc] at h; cases h
  | true =>
    rw [hc, cond_true] at h
    rw [Bool.and_eq_true, Bool.and_eq_true, Bool.and_eq_true] at hc
    obtain ⟨c1, c2, c3, c4⟩ := hc
    have c2 := Nat.le_of_ble_eq_true c2
    have c3 := Nat.le_of_ble_eq_true c3
    have c4 := Nat.le_of_ble_eq_true c4
    have hown : s.vm.findClass "AyeJars$Tokens" = some m.cls := by
      rw [Nat.eq_of_beq_eq_true c1] at ho
      exact ho
    have hcf : cn ≤ R.cells ∧ z ≤ R.slots := by rw [hR.1, hR.2]; exact ⟨c3, c4⟩
    split at h
    · next i w hm =>
      cases hb2 : (Nat.beq i 63 && Nat.beq w 3) with
      | false => rw [hb2] at h; cases h
      | true =>
        rw [hb2, cond_true] at h
        rw [Bool.and_eq_true] at hb2
        cases h
        have hd1 := (hT _ _ hm).1
        try dsimp only at hd1
        rw [Nat.eq_of_beq_eq_true hb2.1, Nat.eq_of_beq_eq_true hb2.2] at hd1
        intro k aw' H locs ls hrep hP hH hS hl
        have hU : ∀ U : State, U.heap = H → s.WarmedH U.vm → SS a v fr B U := fun U hUH hW => SS_moved hS2 hW.alike (fun q hq => by rw [hUH]; exact hS.2.1 q (by omega) (show ¬ B ≤ q by omega))
        refine va_ldcS hx hb hown hS1 hd0 ?_
        refine zcV (np := 0) (As := []) (rest := st.map (rv sg b B)) (b := a) ⟨hx, hb, hml, hown, hts⟩ (k_zL (a := a) (v := v) (fr := fr) (B := B) hz) (zw_m_zL hz) (zw_i_zL hz) (zw_s_zL hz) (zw_n_S hz) (zw_c_zL hz) ⟨by decide, by decide, by decide +kernel⟩ ⟨fun _ _ _ _ h => ⟨h.1, SS_calling h.2⟩, vk_recv (i := 0) hS2.1 (by decide) hS, fun U hU' hW => ⟨rfl, hU U hU' hW⟩⟩ rfl hl.1 (by rw [csum_eq]; exact c2) hd1 ⟨by omega, by omega⟩ hcf ?_
        have key := k aw' H locs ls hrep hP hH hS hl
        have e1 : rv sg b B (.inl 96) = .int (nI 96) := by
          show Value.int (ri sg 96) = _
          rw [ri_c (by decide)]
        dsimp only [List.map_cons] at key
        rw [List.map_cons, e1] at key
        exact key
    · next i w hm =>
      cases hb2 : Nat.beq w 2 with
      | false => rw [hb2] at h; cases h
      | true =>
        rw [hb2, cond_true] at h
        have hd1 := (hT _ _ hm).1
        try dsimp only at hd1
        rw [Nat.eq_of_beq_eq_true hb2] at hd1
        split at h
        · next j w2 hm2 =>
          cases hb3 : (Nat.beq j 68 && Nat.beq w2 3) with
          | false => rw [hb3] at h; cases h
          | true =>
            rw [hb3, cond_true] at h
            rw [Bool.and_eq_true] at hb3
            have hd2 := (hT _ _ hm2).1
            try dsimp only at hd2
            rw [Nat.eq_of_beq_eq_true hb3.1, Nat.eq_of_beq_eq_true hb3.2] at hd2
            split at h
            · next n hn =>
              split at h
              · next kk hk =>
                split at h
                · next v0 hv0 =>
                  cases h
                  rw [rget_eq] at hv0
                  obtain ⟨z1, z2, z3⟩ := zlt kk v0 hv0
                  obtain ⟨y1, y2⟩ := nd_ok hE hk
                  intro k aw' H locs ls hrep hP hH hS hl
                  have hU : ∀ U : State, U.heap = H → s.WarmedH U.vm → SS a v fr B U := fun U hUH hW => SS_moved hS2 hW.alike (fun q hq => by rw [hUH]; exact hS.2.1 q (by omega) (show ¬ B ≤ q by omega))
                  refine va_ldcS hx hb hown hS1 hd0 ?_
                  have hli := clv_at hl hn
                  have hli : ls[i]? = some (.val (.int (nI kk))) := by rw [hli]; show some (Slot.val (Value.int (ri sg n))) = _; rw [y2]
                  refine lv_iload hx hb hd1 hli ?_
                  refine zcV (np := 1) (As := [Value.int (nI kk)]) (rest := st.map (rv sg b B)) (b := a) ⟨hx, hb, hml, hown, hts⟩ (k_zC (a := a) (v := v) (fr := fr) (B := B) hz z1) (zw_m_zC hz) (zw_i_zC hz) (zw_s_zC hz) (zw_n_S hz) (zw_c_zC hz) ⟨by decide, by decide, by decide +kernel⟩ ⟨fun _ _ _ _ h => ⟨h.1, SS_calling h.2⟩, vk_recv (i := 0) hS2.1 (by decide) hS, fun U hU' hW => ⟨rfl, hU U hU' hW⟩⟩ rfl hl.1 (by rw [csum_eq]; exact c2) hd2 ⟨by omega, by omega⟩ hcf ?_
                  have key := k aw' H locs ls hrep hP hH hS hl
                  have e1 : rv sg b B (.inl v0) = .int (wordsB.getD kk 0 &&& 255) := by
                    show Value.int (ri sg v0) = _
                    rw [ri_c z2, zch kk z1, z3]
                  dsimp only [List.map_cons] at key
                  rw [List.map_cons, e1] at key
                  exact key
                · cases h
              · cases h
            · cases h
        · cases h
    · cases h

