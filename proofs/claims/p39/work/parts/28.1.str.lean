theorem m_lw (i : Nat) {w : Cond} (h : rget tables_1 i = some w) : w ∈ lw_tbl := by
  rw [rget_eq] at h
  exact List.mem_append_right _ (List.mem_of_getElem? h)
/-- the string constant, at the law's start -/
theorem str_start {s : State} {b : Nat} (hts : ∀ w ∈ lw_tbl, w.before #[Value.ref b] s = true) (hgv : (Jvm.Cond.and given_1 narrow_1).before #[Value.ref b] s = true) : STR s.heap.size s := by
  have hs := flat_of_before _ hgv
  have hA : ∀ a : Nat, a < s.heap.size → ¬ rG s.heap.size a := fun a h g => absurd h (Nat.not_lt.mpr g)
  have hel : ∀ j : Nat, j < 96 → (Cond.eq (.elem (.field (.string "AyeJars$Tokens" 61) "java/lang/String" "value" "[B") (.int (Int32.ofNat j))) (.int (wordsB.getD j 0))) ∈ flatC (Jvm.Cond.and given_1 narrow_1) := by decide +kernel
  obtain ⟨adK, adV, h1, h2⟩ := vk_Sof (args := #[Value.ref b]) (s := s) (N := 1) (tm := fun _ => .string "AyeJars$Tokens" 61) (len := [96]) (byt := [wordsB]) (A := rG s.heap.size) (fun i hi => by match i, hi with | 0, _ => decide) (fun i _ => hs _ (by decide +kernel)) (fun i _ => hs _ (by decide +kernel)) (fun i _ => hs _ (by decide +kernel)) (fun i hi => by match i, hi with | 0, _ => exact hs _ (by decide +kernel)) (fun i hi j hj => by match i, hi, j, hj with | 0, _, j, hj => exact hs _ (hel j hj)) (fun i j hi hj hne => absurd (by omega) hne) hA
  have h3 : vk_S 1 [96] [wordsB] (fun _ => adK 0) (fun _ => adV 0) (rG s.heap.size) s s.heap := ⟨fun i hi => by
    match i, hi with
    | 0, hi => exact h1.1 0 hi, fun i j hi hj _ => by omega⟩
  have hr := vk_R.of (hts (Cond.stringRef "AyeJars$Tokens" 61 wordsS) (m_lw 515 (by decide +kernel))) (h2 0 (by decide))
  have hc := va_Zof (C := "java/lang/String") (n := "COMPACT_STRINGS") (d := "Z") (v := .int 1) (hts _ (m_lw 525 (by decide +kernel))) (hts _ (m_lw 14 (by decide +kernel))) (Cond.eq_int (hs (Cond.eq (.static "java/lang/String" "COMPACT_STRINGS" "Z") (.int 1)) (by decide +kernel)) rfl) hA
  have hz := va_Zqof (C := "jdk/internal/util/Preconditions") (n := "SIOOBE_FORMATTER") (d := "Ljava/util/function/BiFunction;") (hts _ (m_lw 541 (by decide +kernel))) (hts _ (m_lw 16 (by decide +kernel))) (hs (Cond.isRef (.static "jdk/internal/util/Preconditions" "SIOOBE_FORMATTER" "Ljava/util/function/BiFunction;")) (by decide +kernel)) hA
  rcases hz with hz | ⟨t, hz⟩
  · exact ⟨adK 0, adV 0, 0, hr, h3, hc, hz⟩
  · exact ⟨adK 0, adV 0, t + 1, hr, h3, hc, hz⟩
