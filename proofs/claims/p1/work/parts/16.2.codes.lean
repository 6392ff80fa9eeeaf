theorem ch_1 {w : Cond} (h : w ∈ tables_1_1) (hg : goodWord w = true) : w ∈ TG := List.mem_filter.mpr ⟨List.mem_append_right _ (show w ∈ tables_1 from (List.mem_append_left _ h)), hg⟩
theorem ch_2 {w : Cond} (h : w ∈ tables_1_2) (hg : goodWord w = true) : w ∈ TG := List.mem_filter.mpr ⟨List.mem_append_right _ (show w ∈ tables_1 from (List.mem_append_right _ (List.mem_append_left _ h))), hg⟩
theorem ch_3 {w : Cond} (h : w ∈ tables_1_3) (hg : goodWord w = true) : w ∈ TG := List.mem_filter.mpr ⟨List.mem_append_right _ (show w ∈ tables_1 from (List.mem_append_right _ (List.mem_append_right _ (List.mem_append_left _ h)))), hg⟩
theorem ch_4 {w : Cond} (h : w ∈ tables_1_4) (hg : goodWord w = true) : w ∈ TG := List.mem_filter.mpr ⟨List.mem_append_right _ (show w ∈ tables_1 from (List.mem_append_right _ (List.mem_append_right _ (List.mem_append_right _ (List.mem_append_left _ h))))), hg⟩
theorem ch_5 {w : Cond} (h : w ∈ tables_1_5) (hg : goodWord w = true) : w ∈ TG := List.mem_filter.mpr ⟨List.mem_append_right _ (show w ∈ tables_1 from (List.mem_append_right _ (List.mem_append_right _ (List.mem_append_right _ (List.mem_append_right _ (List.mem_append_left _ h)))))), hg⟩
theorem ch_6 {w : Cond} (h : w ∈ tables_1_6) (hg : goodWord w = true) : w ∈ TG := List.mem_filter.mpr ⟨List.mem_append_right _ (show w ∈ tables_1 from (List.mem_append_right _ (List.mem_append_right _ (List.mem_append_right _ (List.mem_append_right _ (List.mem_append_right _ (List.mem_append_left _ h))))))), hg⟩
theorem ch_7 {w : Cond} (h : w ∈ tables_1_7) (hg : goodWord w = true) : w ∈ TG := List.mem_filter.mpr ⟨List.mem_append_right _ (show w ∈ tables_1 from (List.mem_append_right _ (List.mem_append_right _ (List.mem_append_right _ (List.mem_append_right _ (List.mem_append_right _ (List.mem_append_right _ (List.mem_append_left _ h)))))))), hg⟩
theorem ch_8 {w : Cond} (h : w ∈ tables_1_8) (hg : goodWord w = true) : w ∈ TG := List.mem_filter.mpr ⟨List.mem_append_right _ (show w ∈ tables_1 from (List.mem_append_right _ (List.mem_append_right _ (List.mem_append_right _ (List.mem_append_right _ (List.mem_append_right _ (List.mem_append_right _ (List.mem_append_right _ (List.mem_append_left _ h))))))))), hg⟩
theorem ch_9 {w : Cond} (h : w ∈ tables_1_9) (hg : goodWord w = true) : w ∈ TG := List.mem_filter.mpr ⟨List.mem_append_right _ (show w ∈ tables_1 from (List.mem_append_right _ (List.mem_append_right _ (List.mem_append_right _ (List.mem_append_right _ (List.mem_append_right _ (List.mem_append_right _ (List.mem_append_right _ (List.mem_append_right _ h))))))))), hg⟩
set_option maxRecDepth 100000 in
theorem cw_0 : Cond.code ⟨"AyeJars", "<init>", "()V"⟩ prog_1_method_1_code 2 (none) ∈ TG := ch_1 (List.mem_of_getElem? (i := 27) rfl) rfl
set_option maxRecDepth 100000 in
theorem cw_1 : Cond.code ⟨"AyeJarsModel", "<init>", "()V"⟩ prog_14_method_1_code 1 (none) ∈ TG := ch_6 (List.mem_of_getElem? (i := 78) rfl) rfl
set_option maxRecDepth 100000 in
theorem cw_2 : Cond.code ⟨"AyeJars", "feed", "(IIIII)I"⟩ prog_1_method_2_code 6 (some .int) ∈ TG := ch_2 (List.mem_of_getElem? (i := 223) rfl) rfl
set_option maxRecDepth 100000 in
theorem cw_3 : Cond.code ⟨"AyeJarsModel", "feed", "(IIIII)I"⟩ prog_14_method_134_code 8 (some .int) ∈ TG := ch_9 (List.mem_of_getElem? (i := 97) rfl) rfl
set_option maxRecDepth 100000 in
theorem cw_4 : Cond.code ⟨"AyeJars", "end", "(I)I"⟩ prog_1_method_3_code 2 (some .int) ∈ TG := ch_2 (List.mem_of_getElem? (i := 235) rfl) rfl
set_option maxRecDepth 100000 in
theorem cw_5 : Cond.code ⟨"AyeJarsModel", "end", "(I)I"⟩ prog_14_method_135_code 2 (some .int) ∈ TG := ch_9 (List.mem_of_getElem? (i := 101) rfl) rfl
set_option maxRecDepth 100000 in
theorem cw_6 : Cond.code ⟨"AyeJars", "house", "()I"⟩ prog_1_method_4_code 2 (some .int) ∈ TG := ch_2 (List.mem_of_getElem? (i := 239) rfl) rfl
set_option maxRecDepth 100000 in
theorem cw_7 : Cond.code ⟨"AyeJarsModel", "house", "()I"⟩ prog_14_method_18_code 2 (some .int) ∈ TG := ch_7 (List.mem_of_getElem? (i := 50) rfl) rfl
set_option maxRecDepth 100000 in
theorem cw_8 : Cond.code ⟨"AyeJars", "fault", "(I)I"⟩ prog_1_method_5_code 2 (some .int) ∈ TG := ch_3 (List.mem_of_getElem? (i := 224) rfl) rfl
set_option maxRecDepth 100000 in
theorem cw_9 : Cond.code ⟨"AyeJarsModel", "fault", "(I)I"⟩ prog_14_method_37_code 2 (some .int) ∈ TG := ch_7 (List.mem_of_getElem? (i := 188) rfl) rfl
set_option maxRecDepth 100000 in
theorem cw_10 : Cond.code ⟨"AyeJars", "member", "(II)I"⟩ prog_1_method_6_code 3 (some .int) ∈ TG := ch_3 (List.mem_of_getElem? (i := 228) rfl) rfl
set_option maxRecDepth 100000 in
theorem cw_11 : Cond.code ⟨"AyeJarsModel", "member", "(II)I"⟩ prog_14_method_66_code 3 (some .int) ∈ TG := ch_7 (List.mem_of_getElem? (i := 192) rfl) rfl
set_option maxRecDepth 100000 in
theorem cw_12 : Cond.code ⟨"AyeJars", "bill", "(II)I"⟩ prog_1_method_7_code 3 (some .int) ∈ TG := ch_4 (List.mem_of_getElem? (i := 33) rfl) rfl
set_option maxRecDepth 100000 in
theorem cw_13 : Cond.code ⟨"AyeJarsModel", "bill", "(II)I"⟩ prog_14_method_68_code 3 (some .int) ∈ TG := ch_7 (List.mem_of_getElem? (i := 230) rfl) rfl
set_option maxRecDepth 100000 in
theorem cw_14 : Cond.code ⟨"AyeJars", "vote", "(II)I"⟩ prog_1_method_8_code 3 (some .int) ∈ TG := ch_4 (List.mem_of_getElem? (i := 98) rfl) rfl
set_option maxRecDepth 100000 in
theorem cw_15 : Cond.code ⟨"AyeJarsModel", "vote", "(II)I"⟩ prog_14_method_74_code 3 (some .int) ∈ TG := ch_8 (List.mem_of_getElem? (i := 64) rfl) rfl
set_option maxRecDepth 100000 in
theorem cw_16 : Cond.code ⟨"AyeJars", "shake", "(I)I"⟩ prog_1_method_9_code 3 (some .int) ∈ TG := ch_4 (List.mem_of_getElem? (i := 114) rfl) rfl
set_option maxRecDepth 100000 in
theorem cw_17 : Cond.code ⟨"AyeJarsModel", "shake", "(I)I"⟩ prog_14_method_76_code 2 (some .int) ∈ TG := ch_8 (List.mem_of_getElem? (i := 72) rfl) rfl
set_option maxRecDepth 100000 in
theorem cw_18 : Cond.code ⟨"AyeJars", "shelve", "(II)I"⟩ prog_1_method_10_code 4 (some .int) ∈ TG := ch_4 (List.mem_of_getElem? (i := 125) rfl) rfl
set_option maxRecDepth 100000 in
theorem cw_19 : Cond.code ⟨"AyeJarsModel", "shelve", "(II)I"⟩ prog_14_method_77_code 4 (some .int) ∈ TG := ch_8 (List.mem_of_getElem? (i := 84) rfl) rfl
set_option maxRecDepth 100000 in
theorem cw_20 : Cond.code ⟨"AyeJars", "join", "(II)I"⟩ prog_1_method_11_code 3 (some .int) ∈ TG := ch_4 (List.mem_of_getElem? (i := 129) rfl) rfl
set_option maxRecDepth 100000 in
theorem cw_21 : Cond.code ⟨"AyeJarsModel", "join", "(II)I"⟩ prog_14_method_80_code 3 (some .int) ∈ TG := ch_8 (List.mem_of_getElem? (i := 88) rfl) rfl
set_option maxRecDepth 100000 in
theorem cw_22 : Cond.code ⟨"AyeJars", "day", "()I"⟩ prog_1_method_12_code 5 (some .int) ∈ TG := ch_4 (List.mem_of_getElem? (i := 146) rfl) rfl
set_option maxRecDepth 100000 in
theorem cw_23 : Cond.code ⟨"AyeJarsModel", "day", "()I"⟩ prog_14_method_82_code 1 (some .int) ∈ TG := ch_8 (List.mem_of_getElem? (i := 100) rfl) rfl
set_option maxRecDepth 100000 in
theorem cw_24 : Cond.code ⟨"AyeJars", "undo", "()Z"⟩ prog_1_method_13_code 1 (some .boolean) ∈ TG := ch_4 (List.mem_of_getElem? (i := 151) rfl) rfl
set_option maxRecDepth 100000 in
theorem cw_25 : Cond.code ⟨"AyeJarsModel", "undo", "()Z"⟩ prog_14_method_83_code 1 (some .boolean) ∈ TG := ch_8 (List.mem_of_getElem? (i := 108) rfl) rfl
set_option maxRecDepth 100000 in
theorem cw_26 : Cond.code ⟨"AyeJars", "redo", "()Z"⟩ prog_1_method_14_code 1 (some .boolean) ∈ TG := ch_4 (List.mem_of_getElem? (i := 159) rfl) rfl
set_option maxRecDepth 100000 in
theorem cw_27 : Cond.code ⟨"AyeJarsModel", "redo", "()Z"⟩ prog_14_method_84_code 1 (some .boolean) ∈ TG := ch_8 (List.mem_of_getElem? (i := 116) rfl) rfl
set_option maxRecDepth 100000 in
theorem cw_28 : Cond.code ⟨"AyeJars", "will", "(II)I"⟩ prog_1_method_15_code 3 (some .int) ∈ TG := ch_4 (List.mem_of_getElem? (i := 167) rfl) rfl
set_option maxRecDepth 100000 in
theorem cw_29 : Cond.code ⟨"AyeJarsModel", "will", "(II)I"⟩ prog_14_method_85_code 3 (some .int) ∈ TG := ch_8 (List.mem_of_getElem? (i := 120) rfl) rfl
set_option maxRecDepth 100000 in
theorem cw_30 : Cond.code ⟨"AyeJars", "dull", "(I)I"⟩ prog_1_method_16_code 2 (some .int) ∈ TG := ch_4 (List.mem_of_getElem? (i := 175) rfl) rfl
set_option maxRecDepth 100000 in
theorem cw_31 : Cond.code ⟨"AyeJarsModel", "dull", "(I)I"⟩ prog_14_method_86_code 3 (some .int) ∈ TG := ch_8 (List.mem_of_getElem? (i := 124) rfl) rfl
set_option maxRecDepth 100000 in
theorem cw_32 : Cond.code ⟨"AyeJars", "pass", "()I"⟩ prog_1_method_17_code 1 (some .int) ∈ TG := ch_4 (List.mem_of_getElem? (i := 183) rfl) rfl
set_option maxRecDepth 100000 in
theorem cw_33 : Cond.code ⟨"AyeJarsModel", "pass", "()I"⟩ prog_14_method_69_code 3 (some .int) ∈ TG := ch_8 (List.mem_of_getElem? (i := 52) rfl) rfl
set_option maxRecDepth 100000 in
theorem cw_34 : Cond.code ⟨"AyeJars", "muster", "(II)I"⟩ prog_1_method_18_code 4 (some .int) ∈ TG := ch_4 (List.mem_of_getElem? (i := 192) rfl) rfl
set_option maxRecDepth 100000 in
theorem cw_35 : Cond.code ⟨"AyeJarsModel", "muster", "(II)I"⟩ prog_14_method_87_code 6 (some .int) ∈ TG := ch_8 (List.mem_of_getElem? (i := 128) rfl) rfl
set_option maxRecDepth 100000 in
theorem cw_36 : Cond.code ⟨"AyeJars", "latest", "(II)I"⟩ prog_1_method_19_code 3 (some .int) ∈ TG := ch_4 (List.mem_of_getElem? (i := 207) rfl) rfl
set_option maxRecDepth 100000 in
theorem cw_37 : Cond.code ⟨"AyeJarsModel", "latest", "(II)I"⟩ prog_14_method_89_code 5 (some .int) ∈ TG := ch_8 (List.mem_of_getElem? (i := 143) rfl) rfl
set_option maxRecDepth 100000 in
theorem cw_38 : Cond.code ⟨"AyeJars", "plan", "()I"⟩ prog_1_method_20_code 1 (some .int) ∈ TG := ch_4 (List.mem_of_getElem? (i := 215) rfl) rfl
set_option maxRecDepth 100000 in
theorem cw_39 : Cond.code ⟨"AyeJarsModel", "plan", "()I"⟩ prog_14_method_106_code 7 (some .int) ∈ TG := ch_8 (List.mem_of_getElem? (i := 211) rfl) rfl
set_option maxRecDepth 100000 in
theorem cw_40 : Cond.code ⟨"AyeJars", "power", "(III)I"⟩ prog_1_method_21_code 4 (some .int) ∈ TG := ch_5 (List.mem_of_getElem? (i := 9) rfl) rfl
set_option maxRecDepth 100000 in
theorem cw_41 : Cond.code ⟨"AyeJarsModel", "power", "(III)I"⟩ prog_14_method_109_code 6 (some .int) ∈ TG := ch_8 (List.mem_of_getElem? (i := 226) rfl) rfl
set_option maxRecDepth 100000 in
theorem cw_42 : Cond.code ⟨"AyeJars", "best", "(I)I"⟩ prog_1_method_22_code 2 (some .int) ∈ TG := ch_5 (List.mem_of_getElem? (i := 43) rfl) rfl
set_option maxRecDepth 100000 in
theorem cw_43 : Cond.code ⟨"AyeJarsModel", "best", "(I)I"⟩ prog_14_method_91_code 6 (some .int) ∈ TG := ch_8 (List.mem_of_getElem? (i := 159) rfl) rfl
set_option maxRecDepth 100000 in
theorem cw_44 : Cond.code ⟨"AyeJars", "joint", "(II)I"⟩ prog_1_method_23_code 3 (some .int) ∈ TG := ch_5 (List.mem_of_getElem? (i := 51) rfl) rfl
set_option maxRecDepth 100000 in
theorem cw_45 : Cond.code ⟨"AyeJarsModel", "joint", "(II)I"⟩ prog_14_method_98_code 3 (some .int) ∈ TG := ch_8 (List.mem_of_getElem? (i := 175) rfl) rfl
set_option maxRecDepth 100000 in
theorem cw_46 : Cond.code ⟨"AyeJars", "law", "(I)I"⟩ prog_1_method_24_code 2 (some .int) ∈ TG := ch_5 (List.mem_of_getElem? (i := 60) rfl) rfl
set_option maxRecDepth 100000 in
theorem cw_47 : Cond.code ⟨"AyeJarsModel", "law", "(I)I"⟩ prog_14_method_100_code 4 (some .int) ∈ TG := ch_8 (List.mem_of_getElem? (i := 195) rfl) rfl
set_option maxRecDepth 100000 in
theorem cw_48 : Cond.code ⟨"AyeJars", "odds", "(III)I"⟩ prog_1_method_25_code 4 (some .int) ∈ TG := ch_5 (List.mem_of_getElem? (i := 68) rfl) rfl
set_option maxRecDepth 100000 in
theorem cw_49 : Cond.code ⟨"AyeJarsModel", "odds", "(III)I"⟩ prog_14_method_114_code 4 (some .int) ∈ TG := ch_9 (List.mem_of_getElem? (i := 0) rfl) rfl
set_option maxRecDepth 100000 in
theorem cw_50 : Cond.code ⟨"AyeJars", "mean", "(III)I"⟩ prog_1_method_26_code 4 (some .int) ∈ TG := ch_5 (List.mem_of_getElem? (i := 95) rfl) rfl
set_option maxRecDepth 100000 in
theorem cw_51 : Cond.code ⟨"AyeJarsModel", "mean", "(III)I"⟩ prog_14_method_115_code 4 (some .int) ∈ TG := ch_9 (List.mem_of_getElem? (i := 20) rfl) rfl
set_option maxRecDepth 100000 in
theorem cw_52 : Cond.code ⟨"AyeJars", "ripe", "(III)I"⟩ prog_1_method_27_code 5 (some .int) ∈ TG := ch_5 (List.mem_of_getElem? (i := 103) rfl) rfl
set_option maxRecDepth 100000 in
theorem cw_53 : Cond.code ⟨"AyeJarsModel", "ripe", "(III)I"⟩ prog_14_method_90_code 8 (some .int) ∈ TG := ch_8 (List.mem_of_getElem? (i := 151) rfl) rfl
set_option maxRecDepth 100000 in
theorem cw_54 : Cond.code ⟨"AyeJars", "queue", "(I)I"⟩ prog_1_method_28_code 2 (some .int) ∈ TG := ch_5 (List.mem_of_getElem? (i := 113) rfl) rfl
set_option maxRecDepth 100000 in
theorem cw_55 : Cond.code ⟨"AyeJarsModel", "queue", "(I)I"⟩ prog_14_method_118_code 6 (some .int) ∈ TG := ch_9 (List.mem_of_getElem? (i := 24) rfl) rfl
set_option maxRecDepth 100000 in
theorem cw_56 : Cond.code ⟨"AyeJars", "spoil", "(I)I"⟩ prog_1_method_29_code 2 (some .int) ∈ TG := ch_5 (List.mem_of_getElem? (i := 139) rfl) rfl
set_option maxRecDepth 100000 in
theorem cw_57 : Cond.code ⟨"AyeJarsModel", "spoil", "(I)I"⟩ prog_14_method_93_code 3 (some .int) ∈ TG := ch_8 (List.mem_of_getElem? (i := 163) rfl) rfl
set_option maxRecDepth 100000 in
theorem cw_58 : Cond.code ⟨"AyeJars", "sabotage", "(I)I"⟩ prog_1_method_30_code 2 (some .int) ∈ TG := ch_5 (List.mem_of_getElem? (i := 151) rfl) rfl
set_option maxRecDepth 100000 in
theorem cw_59 : Cond.code ⟨"AyeJarsModel", "sabotage", "(I)I"⟩ prog_14_method_121_code 8 (some .int) ∈ TG := ch_9 (List.mem_of_getElem? (i := 36) rfl) rfl
set_option maxRecDepth 100000 in
theorem cw_60 : Cond.code ⟨"AyeJars", "wasted", "()I"⟩ prog_1_method_31_code 1 (some .int) ∈ TG := ch_5 (List.mem_of_getElem? (i := 168) rfl) rfl
set_option maxRecDepth 100000 in
theorem cw_61 : Cond.code ⟨"AyeJarsModel", "wasted", "()I"⟩ prog_14_method_70_code 3 (some .int) ∈ TG := ch_8 (List.mem_of_getElem? (i := 56) rfl) rfl
set_option maxRecDepth 100000 in
theorem cw_62 : Cond.code ⟨"AyeJars", "richest", "()I"⟩ prog_1_method_32_code 1 (some .int) ∈ TG := ch_5 (List.mem_of_getElem? (i := 176) rfl) rfl
set_option maxRecDepth 100000 in
theorem cw_63 : Cond.code ⟨"AyeJarsModel", "richest", "()I"⟩ prog_14_method_71_code 3 (some .int) ∈ TG := ch_8 (List.mem_of_getElem? (i := 60) rfl) rfl
set_option maxRecDepth 100000 in
theorem cw_64 : Cond.code ⟨"AyeJars", "matches", "()I"⟩ prog_1_method_33_code 1 (some .int) ∈ TG := ch_5 (List.mem_of_getElem? (i := 184) rfl) rfl
set_option maxRecDepth 100000 in
theorem cw_65 : Cond.code ⟨"AyeJarsModel", "matches", "()I"⟩ prog_14_method_99_code 4 (some .int) ∈ TG := ch_8 (List.mem_of_getElem? (i := 191) rfl) rfl
set_option maxRecDepth 100000 in
theorem cw_66 : Cond.code ⟨"AyeJars", "brittle", "()I"⟩ prog_1_method_34_code 1 (some .int) ∈ TG := ch_5 (List.mem_of_getElem? (i := 194) rfl) rfl
set_option maxRecDepth 100000 in
theorem cw_67 : Cond.code ⟨"AyeJarsModel", "brittle", "()I"⟩ prog_14_method_94_code 3 (some .int) ∈ TG := ch_8 (List.mem_of_getElem? (i := 171) rfl) rfl
set_option maxRecDepth 100000 in
theorem cw_68 : Cond.code ⟨"AyeJars", "longest", "(I)I"⟩ prog_1_method_35_code 2 (some .int) ∈ TG := ch_5 (List.mem_of_getElem? (i := 202) rfl) rfl
set_option maxRecDepth 100000 in
theorem cw_69 : Cond.code ⟨"AyeJarsModel", "longest", "(I)I"⟩ prog_14_method_101_code 5 (some .int) ∈ TG := ch_8 (List.mem_of_getElem? (i := 199) rfl) rfl
set_option maxRecDepth 100000 in
theorem cw_70 : Cond.code ⟨"AyeJars", "lies", "(I)I"⟩ prog_1_method_36_code 2 (some .int) ∈ TG := ch_5 (List.mem_of_getElem? (i := 211) rfl) rfl
set_option maxRecDepth 100000 in
theorem cw_71 : Cond.code ⟨"AyeJarsModel", "lies", "(I)I"⟩ prog_14_method_102_code 2 (some .int) ∈ TG := ch_8 (List.mem_of_getElem? (i := 207) rfl) rfl
set_option maxRecDepth 100000 in
theorem cw_72 : Cond.code ⟨"AyeJars", "sniffed", "(IIZ)I"⟩ prog_1_method_37_code 4 (some .int) ∈ TG := ch_5 (List.mem_of_getElem? (i := 219) rfl) rfl
set_option maxRecDepth 100000 in
theorem cw_73 : Cond.code ⟨"AyeJarsModel", "sniffed", "(IIZ)I"⟩ prog_14_method_122_code 4 (some .int) ∈ TG := ch_9 (List.mem_of_getElem? (i := 48) rfl) rfl
set_option maxRecDepth 100000 in
theorem cw_74 : Cond.code ⟨"AyeJars", "untell", "(I)Z"⟩ prog_1_method_38_code 2 (some .boolean) ∈ TG := ch_5 (List.mem_of_getElem? (i := 227) rfl) rfl
set_option maxRecDepth 100000 in
theorem cw_75 : Cond.code ⟨"AyeJarsModel", "untell", "(I)Z"⟩ prog_14_method_123_code 2 (some .boolean) ∈ TG := ch_9 (List.mem_of_getElem? (i := 52) rfl) rfl
set_option maxRecDepth 100000 in
theorem cw_76 : Cond.code ⟨"AyeJars", "later", "(I)I"⟩ prog_1_method_39_code 2 (some .int) ∈ TG := ch_5 (List.mem_of_getElem? (i := 235) rfl) rfl
set_option maxRecDepth 100000 in
theorem cw_77 : Cond.code ⟨"AyeJarsModel", "later", "(I)I"⟩ prog_14_method_124_code 2 (some .int) ∈ TG := ch_9 (List.mem_of_getElem? (i := 56) rfl) rfl
set_option maxRecDepth 100000 in
theorem cw_78 : Cond.code ⟨"AyeJars", "fits", "(I)I"⟩ prog_1_method_40_code 2 (some .int) ∈ TG := ch_6 (List.mem_of_getElem? (i := 0) rfl) rfl
set_option maxRecDepth 100000 in
theorem cw_79 : Cond.code ⟨"AyeJarsModel", "fits", "(I)I"⟩ prog_14_method_127_code 2 (some .int) ∈ TG := ch_9 (List.mem_of_getElem? (i := 61) rfl) rfl
set_option maxRecDepth 100000 in
theorem cw_80 : Cond.code ⟨"AyeJars", "sure", "(II)I"⟩ prog_1_method_41_code 3 (some .int) ∈ TG := ch_6 (List.mem_of_getElem? (i := 25) rfl) rfl
set_option maxRecDepth 100000 in
theorem cw_81 : Cond.code ⟨"AyeJarsModel", "sure", "(II)I"⟩ prog_14_method_128_code 3 (some .int) ∈ TG := ch_9 (List.mem_of_getElem? (i := 73) rfl) rfl
set_option maxRecDepth 100000 in
theorem cw_82 : Cond.code ⟨"AyeJars", "ask", "(II)I"⟩ prog_1_method_42_code 3 (some .int) ∈ TG := ch_6 (List.mem_of_getElem? (i := 39) rfl) rfl
set_option maxRecDepth 100000 in
theorem cw_83 : Cond.code ⟨"AyeJarsModel", "ask", "(II)I"⟩ prog_14_method_129_code 7 (some .int) ∈ TG := ch_9 (List.mem_of_getElem? (i := 77) rfl) rfl
set_option maxRecDepth 100000 in
theorem cw_84 : Cond.code ⟨"AyeJars", "image", "(I)I"⟩ prog_1_method_43_code 2 (some .int) ∈ TG := ch_6 (List.mem_of_getElem? (i := 48) rfl) rfl
set_option maxRecDepth 100000 in
theorem cw_85 : Cond.code ⟨"AyeJarsModel", "image", "(I)I"⟩ prog_14_method_130_code 3 (some .int) ∈ TG := ch_9 (List.mem_of_getElem? (i := 81) rfl) rfl
set_option maxRecDepth 100000 in
theorem cw_86 : Cond.code ⟨"AyeJars", "back", "(I)I"⟩ prog_1_method_44_code 2 (some .int) ∈ TG := ch_6 (List.mem_of_getElem? (i := 57) rfl) rfl
set_option maxRecDepth 100000 in
theorem cw_87 : Cond.code ⟨"AyeJarsModel", "back", "(I)I"⟩ prog_14_method_131_code 3 (some .int) ∈ TG := ch_9 (List.mem_of_getElem? (i := 85) rfl) rfl
set_option maxRecDepth 100000 in
theorem cw_88 : Cond.code ⟨"AyeJars", "about", "(I)I"⟩ prog_1_method_45_code 2 (some .int) ∈ TG := ch_6 (List.mem_of_getElem? (i := 61) rfl) rfl
set_option maxRecDepth 100000 in
theorem cw_89 : Cond.code ⟨"AyeJarsModel", "about", "(I)I"⟩ prog_14_method_133_code 2 (some .int) ∈ TG := ch_9 (List.mem_of_getElem? (i := 89) rfl) rfl
set_option maxRecDepth 100000 in
theorem cw_90 : Cond.code ⟨"AyeJars$Acts", "slot", "(I)LAyeJars$Jars;"⟩ prog_2_method_8_code 2 (some (.object "AyeJars$Jars")) ∈ TG := ch_3 (List.mem_of_getElem? (i := 204) rfl) rfl
set_option maxRecDepth 100000 in
theorem cw_91 : Cond.code ⟨"AyeJars$Jars", "copyFrom", "(LAyeJars$Jars;)V"⟩ prog_8_method_8_code 2 (none) ∈ TG := ch_3 (List.mem_of_getElem? (i := 211) rfl) rfl
set_option maxRecDepth 100000 in
theorem cw_92 : Cond.code ⟨"AyeJars$Jars", "<init>", "()V"⟩ prog_8_method_1_code 1 (none) ∈ TG := ch_1 (List.mem_of_getElem? (i := 198) rfl) rfl
set_option maxRecDepth 100000 in
theorem cw_93 : Cond.code ⟨"java/lang/Math", "floorMod", "(II)I"⟩ prog_17_method_50_code 3 (some .int) ∈ TG := ch_3 (List.mem_of_getElem? (i := 207) rfl) rfl
set_option maxRecDepth 100000 in
theorem cw_94 : Cond.code ⟨"AyeJars$House", "breathsOf", "(I)I"⟩ prog_7_method_7_code 2 (some .int) ∈ TG := ch_3 (List.mem_of_getElem? (i := 236) rfl) rfl
set_option maxRecDepth 100000 in
theorem cw_95 : Cond.code ⟨"java/lang/Math", "min", "(II)I"⟩ prog_17_method_69_code 2 (some .int) ∈ TG := ch_4 (List.mem_of_getElem? (i := 67) rfl) rfl
set_option maxRecDepth 100000 in
theorem cw_96 : Cond.code ⟨"AyeJars$Trial", "fading", "()I"⟩ prog_12_method_8_code 3 (some .int) ∈ TG := ch_4 (List.mem_of_getElem? (i := 56) rfl) rfl
set_option maxRecDepth 100000 in
theorem cw_97 : Cond.code ⟨"AyeJars$Ahead", "billsOfFate", "(I)I"⟩ prog_3_method_8_code 4 (some .int) ∈ TG := ch_6 (List.mem_of_getElem? (i := 65) rfl) rfl
set_option maxRecDepth 100000 in
theorem cw_98 : Cond.code ⟨"AyeJars$Acts", "undoable", "()I"⟩ prog_2_method_6_code 1 (some .int) ∈ TG := ch_6 (List.mem_of_getElem? (i := 69) rfl) rfl
set_option maxRecDepth 100000 in
theorem cw_99 : Cond.code ⟨"AyeJars$Acts", "redoable", "()I"⟩ prog_2_method_7_code 1 (some .int) ∈ TG := ch_6 (List.mem_of_getElem? (i := 73) rfl) rfl
set_option maxRecDepth 100000 in
theorem cw_100 : Cond.code ⟨"AyeJars$Nose", "nextToAsk", "(II)I"⟩ prog_9_method_10_code 10 (some .int) ∈ TG := ch_6 (List.mem_of_getElem? (i := 43) rfl) rfl
set_option maxRecDepth 100000 in
theorem cw_101 : Cond.code ⟨"AyeJars", "isBox", "(I)Z"⟩ prog_1_method_46_code 2 (some .boolean) ∈ TG := ch_6 (List.mem_of_getElem? (i := 52) rfl) rfl
set_option maxRecDepth 100000 in
theorem cw_102 : Cond.code ⟨"AyeJars$Ahead", "bestShelf", "(I)I"⟩ prog_3_method_20_code 5 (some .int) ∈ TG := ch_5 (List.mem_of_getElem? (i := 47) rfl) rfl
set_option maxRecDepth 100000 in
theorem cw_103 : Cond.code ⟨"AyeJars$House", "hasBill", "(I)Z"⟩ prog_7_method_5_code 2 (some .boolean) ∈ TG := ch_3 (List.mem_of_getElem? (i := 189) rfl) rfl
set_option maxRecDepth 100000 in
theorem cw_104 : Cond.code ⟨"AyeJars$Ahead", "brittleBills", "()I"⟩ prog_3_method_27_code 3 (some .int) ∈ TG := ch_5 (List.mem_of_getElem? (i := 198) rfl) rfl
set_option maxRecDepth 100000 in
theorem cw_105 : Cond.code ⟨"AyeJars$Acts", "keep", "(LAyeJars$Jars;)V"⟩ prog_2_method_3_code 2 (none) ∈ TG := ch_4 (List.mem_of_getElem? (i := 110) rfl) rfl
set_option maxRecDepth 100000 in
theorem cw_106 : Cond.code ⟨"AyeJars$Ahead", "daysTillDull", "(I)I"⟩ prog_3_method_17_code 3 (some .int) ∈ TG := ch_4 (List.mem_of_getElem? (i := 179) rfl) rfl
set_option maxRecDepth 100000 in
theorem cw_107 : Cond.code ⟨"AyeJars$Tokens", "hasRoom", "(I)Z"⟩ prog_11_method_2_code 2 (some .boolean) ∈ TG := ch_2 (List.mem_of_getElem? (i := 227) rfl) rfl
set_option maxRecDepth 100000 in
theorem cw_108 : Cond.code ⟨"AyeJars$Tokens", "append", "(I)V"⟩ prog_11_method_3_code 3 (none) ∈ TG := ch_2 (List.mem_of_getElem? (i := 231) rfl) rfl
set_option maxRecDepth 100000 in
theorem cw_109 : Cond.code ⟨"AyeJars$Nose", "fitting", "(I)J"⟩ prog_9_method_5_code 5 (some .long) ∈ TG := ch_6 (List.mem_of_getElem? (i := 4) rfl) rfl
set_option maxRecDepth 100000 in
theorem cw_110 : Cond.code ⟨"java/lang/Long", "bitCount", "(J)I"⟩ prog_16_method_50_code 2 (some .int) ∈ TG := ch_6 (List.mem_of_getElem? (i := 18) rfl) rfl
set_option maxRecDepth 100000 in
theorem cw_111 : Cond.code ⟨"AyeJars$Reader", "readHouse", "()Z"⟩ prog_10_method_2_code 3 (some .boolean) ∈ TG := ch_3 (List.mem_of_getElem? (i := 3) rfl) rfl
set_option maxRecDepth 100000 in
theorem cw_112 : Cond.code ⟨"AyeJars$House", "copyFrom", "(LAyeJars$House;)V"⟩ prog_7_method_3_code 2 (none) ∈ TG := ch_3 (List.mem_of_getElem? (i := 166) rfl) rfl
set_option maxRecDepth 100000 in
theorem cw_113 : Cond.code ⟨"AyeJars$Jars", "layOut", "(LAyeJars$House;)V"⟩ prog_8_method_7_code 3 (none) ∈ TG := ch_3 (List.mem_of_getElem? (i := 178) rfl) rfl
set_option maxRecDepth 100000 in
theorem cw_114 : Cond.code ⟨"AyeJars$Acts", "begin", "(LAyeJars$Jars;)V"⟩ prog_2_method_2_code 2 (none) ∈ TG := ch_3 (List.mem_of_getElem? (i := 200) rfl) rfl
set_option maxRecDepth 100000 in
theorem cw_115 : Cond.code ⟨"AyeJars$Nose", "forget", "()V"⟩ prog_9_method_2_code 1 (none) ∈ TG := ch_3 (List.mem_of_getElem? (i := 216) rfl) rfl
set_option maxRecDepth 100000 in
theorem cw_116 : Cond.code ⟨"AyeJars$Choices", "clear", "()V"⟩ prog_5_method_2_code 1 (none) ∈ TG := ch_3 (List.mem_of_getElem? (i := 220) rfl) rfl
set_option maxRecDepth 100000 in
theorem cw_117 : Cond.code ⟨"AyeJars$Tokens", "<init>", "()V"⟩ prog_11_method_1_code 1 (none) ∈ TG := ch_1 (List.mem_of_getElem? (i := 35) rfl) rfl
set_option maxRecDepth 100000 in
theorem cw_118 : Cond.code ⟨"AyeJars$House", "<init>", "()V"⟩ prog_7_method_1_code 1 (none) ∈ TG := ch_1 (List.mem_of_getElem? (i := 69) rfl) rfl
set_option maxRecDepth 100000 in
theorem cw_119 : Cond.code ⟨"AyeJars$Reader", "<init>", "(LAyeJars$Tokens;LAyeJars$House;)V"⟩ prog_10_method_1_code 3 (none) ∈ TG := ch_1 (List.mem_of_getElem? (i := 161) rfl) rfl
set_option maxRecDepth 100000 in
theorem cw_120 : Cond.code ⟨"AyeJars$Acts", "<init>", "()V"⟩ prog_2_method_1_code 2 (none) ∈ TG := ch_1 (List.mem_of_getElem? (i := 225) rfl) rfl
set_option maxRecDepth 100000 in
theorem cw_121 : Cond.code ⟨"AyeJars$Trial", "<init>", "(LAyeJars$House;)V"⟩ prog_12_method_1_code 2 (none) ∈ TG := ch_2 (List.mem_of_getElem? (i := 7) rfl) rfl
set_option maxRecDepth 100000 in
theorem cw_122 : Cond.code ⟨"AyeJars$Ahead", "<init>", "(LAyeJars$House;LAyeJars$Jars;LAyeJars$Trial;)V"⟩ prog_3_method_1_code 4 (none) ∈ TG := ch_2 (List.mem_of_getElem? (i := 44) rfl) rfl
set_option maxRecDepth 100000 in
theorem cw_123 : Cond.code ⟨"AyeJars$Chances", "<init>", "(LAyeJars$House;LAyeJars$Jars;LAyeJars$Trial;LAyeJars$Ahead;)V"⟩ prog_4_method_1_code 5 (none) ∈ TG := ch_2 (List.mem_of_getElem? (i := 60) rfl) rfl
set_option maxRecDepth 100000 in
theorem cw_124 : Cond.code ⟨"AyeJars$Choices", "<init>", "(LAyeJars$House;LAyeJars$Jars;LAyeJars$Trial;LAyeJars$Ahead;)V"⟩ prog_5_method_1_code 6 (none) ∈ TG := ch_2 (List.mem_of_getElem? (i := 85) rfl) rfl
set_option maxRecDepth 100000 in
theorem cw_125 : Cond.code ⟨"AyeJars$Nose", "<init>", "(LAyeJars$House;LAyeJars$Trial;)V"⟩ prog_9_method_1_code 3 (none) ∈ TG := ch_2 (List.mem_of_getElem? (i := 141) rfl) rfl
set_option maxRecDepth 100000 in
theorem cw_126 : Cond.code ⟨"AyeJars$Ahead", "mayJoin", "(II)Z"⟩ prog_3_method_5_code 3 (some .boolean) ∈ TG := ch_4 (List.mem_of_getElem? (i := 133) rfl) rfl
set_option maxRecDepth 100000 in
theorem cw_127 : Cond.code ⟨"AyeJars$Ahead", "latestVote", "(II)I"⟩ prog_3_method_19_code 6 (some .int) ∈ TG := ch_4 (List.mem_of_getElem? (i := 211) rfl) rfl
set_option maxRecDepth 100000 in
theorem cw_128 : Cond.code ⟨"AyeJars$Ahead", "passingWithNeed", "(I)I"⟩ prog_3_method_21_code 4 (some .int) ∈ TG := ch_5 (List.mem_of_getElem? (i := 64) rfl) rfl
set_option maxRecDepth 100000 in
theorem cw_129 : Cond.code ⟨"AyeJars$Choices", "lyingAt", "(I)I"⟩ prog_5_method_3_code 2 (some .int) ∈ TG := ch_5 (List.mem_of_getElem? (i := 215) rfl) rfl
set_option maxRecDepth 100000 in
theorem cw_130 : Cond.code ⟨"AyeJars$Ahead", "longestLasting", "(I)I"⟩ prog_3_method_28_code 6 (some .int) ∈ TG := ch_5 (List.mem_of_getElem? (i := 206) rfl) rfl
set_option maxRecDepth 100000 in
theorem cw_131 : Cond.code ⟨"AyeJars$Ahead", "countMatches", "()I"⟩ prog_3_method_26_code 4 (some .int) ∈ TG := ch_5 (List.mem_of_getElem? (i := 188) rfl) rfl
set_option maxRecDepth 100000 in
theorem cw_132 : Cond.code ⟨"AyeJars$Chances", "weighMean", "(II)Z"⟩ prog_4_method_6_code 4 (some .boolean) ∈ TG := ch_5 (List.mem_of_getElem? (i := 99) rfl) rfl
set_option maxRecDepth 100000 in
theorem cw_133 : Cond.code ⟨"AyeJars$House", "hasMember", "(I)Z"⟩ prog_7_method_4_code 2 (some .boolean) ∈ TG := ch_3 (List.mem_of_getElem? (i := 232) rfl) rfl
set_option maxRecDepth 100000 in
theorem cw_134 : Cond.code ⟨"AyeJars$Ahead", "fewestSaviours", "(I)I"⟩ prog_3_method_18_code 6 (some .int) ∈ TG := ch_4 (List.mem_of_getElem? (i := 196) rfl) rfl
set_option maxRecDepth 100000 in
theorem cw_135 : Cond.code ⟨"AyeJars$Chances", "weighOdds", "(II)Z"⟩ prog_4_method_5_code 4 (some .boolean) ∈ TG := ch_5 (List.mem_of_getElem? (i := 72) rfl) rfl
set_option maxRecDepth 100000 in
theorem cw_136 : Cond.code ⟨"AyeJars$Ahead", "passing", "()I"⟩ prog_3_method_15_code 3 (some .int) ∈ TG := ch_4 (List.mem_of_getElem? (i := 187) rfl) rfl
set_option maxRecDepth 100000 in
theorem cw_137 : Cond.code ⟨"AyeJars$Choices", "choosePlan", "()I"⟩ prog_5_method_5_code 3 (some .int) ∈ TG := ch_4 (List.mem_of_getElem? (i := 219) rfl) rfl
set_option maxRecDepth 100000 in
theorem cw_138 : Cond.code ⟨"AyeJars$Chances", "weighPower", "(II)Z"⟩ prog_4_method_3_code 6 (some .boolean) ∈ TG := ch_5 (List.mem_of_getElem? (i := 13) rfl) rfl
set_option maxRecDepth 100000 in
theorem cw_139 : Cond.code ⟨"AyeJars$Choices", "chooseQueue", "(I)I"⟩ prog_5_method_10_code 3 (some .int) ∈ TG := ch_5 (List.mem_of_getElem? (i := 117) rfl) rfl
set_option maxRecDepth 100000 in
theorem cw_140 : Cond.code ⟨"AyeJars$Acts", "goOn", "(LAyeJars$Jars;)Z"⟩ prog_2_method_5_code 2 (some .boolean) ∈ TG := ch_4 (List.mem_of_getElem? (i := 163) rfl) rfl
set_option maxRecDepth 100000 in
theorem cw_141 : Cond.code ⟨"AyeJars$Ahead", "richestKept", "()I"⟩ prog_3_method_25_code 5 (some .int) ∈ TG := ch_5 (List.mem_of_getElem? (i := 180) rfl) rfl
set_option maxRecDepth 100000 in
theorem cw_142 : Cond.code ⟨"AyeJars$Ahead", "ripestDays", "(II)I"⟩ prog_3_method_22_code 8 (some .int) ∈ TG := ch_5 (List.mem_of_getElem? (i := 107) rfl) rfl
set_option maxRecDepth 100000 in
theorem cw_143 : Cond.code ⟨"AyeJars$Choices", "chooseSabotage", "(I)I"⟩ prog_5_method_13_code 4 (some .int) ∈ TG := ch_5 (List.mem_of_getElem? (i := 155) rfl) rfl
set_option maxRecDepth 100000 in
theorem cw_144 : Cond.code ⟨"AyeJars$Jars", "get", "(II)I"⟩ prog_8_method_2_code 3 (some .int) ∈ TG := ch_4 (List.mem_of_getElem? (i := 25) rfl) rfl
set_option maxRecDepth 100000 in
theorem cw_145 : Cond.code ⟨"AyeJars$Ahead", "isKept", "(I)Z"⟩ prog_3_method_2_code 2 (some .boolean) ∈ TG := ch_4 (List.mem_of_getElem? (i := 20) rfl) rfl
set_option maxRecDepth 100000 in
theorem cw_146 : Cond.code ⟨"AyeJars$Nose", "tell", "(IIZI)I"⟩ prog_9_method_3_code 5 (some .int) ∈ TG := ch_5 (List.mem_of_getElem? (i := 223) rfl) rfl
set_option maxRecDepth 100000 in
theorem cw_147 : Cond.code ⟨"AyeJars$Ahead", "shakesToSpoil", "(I)I"⟩ prog_3_method_23_code 3 (some .int) ∈ TG := ch_5 (List.mem_of_getElem? (i := 143) rfl) rfl
set_option maxRecDepth 100000 in
theorem cw_148 : Cond.code ⟨"AyeJars$Nose", "sureness", "(II)I"⟩ prog_9_method_9_code 6 (some .int) ∈ TG := ch_6 (List.mem_of_getElem? (i := 29) rfl) rfl
set_option maxRecDepth 100000 in
theorem cw_149 : Cond.code ⟨"AyeJars$Acts", "goBack", "(LAyeJars$Jars;)Z"⟩ prog_2_method_4_code 2 (some .boolean) ∈ TG := ch_4 (List.mem_of_getElem? (i := 155) rfl) rfl
set_option maxRecDepth 100000 in
theorem cw_150 : Cond.code ⟨"AyeJars$Nose", "takeBack", "(II)Z"⟩ prog_9_method_4_code 3 (some .boolean) ∈ TG := ch_5 (List.mem_of_getElem? (i := 231) rfl) rfl
set_option maxRecDepth 100000 in
theorem cw_151 : Cond.code ⟨"AyeJars$Ahead", "mayVote", "(II)Z"⟩ prog_3_method_3_code 3 (some .boolean) ∈ TG := ch_4 (List.mem_of_getElem? (i := 11) rfl) rfl
set_option maxRecDepth 100000 in
theorem cw_152 : Cond.code ⟨"AyeJars$Ahead", "volumeWasted", "()I"⟩ prog_3_method_24_code 3 (some .int) ∈ TG := ch_5 (List.mem_of_getElem? (i := 172) rfl) rfl
set_option maxRecDepth 100000 in
theorem cw_153 : Cond.code ⟨"AyeJars$Ahead", "volumeBehind", "(II)I"⟩ prog_3_method_16_code 3 (some .int) ∈ TG := ch_4 (List.mem_of_getElem? (i := 171) rfl) rfl
set_option maxRecDepth 100000 in
theorem cw_154 : Cond.code ⟨"AyeJarsModel", "many", "()I"⟩ prog_14_method_43_code 1 (some .int) ∈ TG := ch_7 (List.mem_of_getElem? (i := 200) rfl) rfl
set_option maxRecDepth 100000 in
theorem cw_155 : Cond.code ⟨"AyeJarsModel", "thoseThat", "(I)I"⟩ prog_14_method_132_code 4 (some .int) ∈ TG := ch_9 (List.mem_of_getElem? (i := 93) rfl) rfl
set_option maxRecDepth 100000 in
theorem cw_156 : Cond.code ⟨"AyeJarsModel", "isIn", "(III)Z"⟩ prog_14_method_38_code 3 (some .boolean) ∈ TG := ch_7 (List.mem_of_getElem? (i := 203) rfl) rfl
set_option maxRecDepth 100000 in
theorem cw_157 : Cond.code ⟨"AyeJarsModel", "layFits", "(I)V"⟩ prog_14_method_126_code 4 (none) ∈ TG := ch_9 (List.mem_of_getElem? (i := 65) rfl) rfl
set_option maxRecDepth 100000 in
theorem cw_158 : Cond.code ⟨"AyeJarsModel", "isLeft", "(I)Z"⟩ prog_14_method_46_code 2 (some .boolean) ∈ TG := ch_7 (List.mem_of_getElem? (i := 218) rfl) rfl
set_option maxRecDepth 100000 in
theorem cw_159 : Cond.code ⟨"AyeJarsModel", "isBill", "(I)Z"⟩ prog_14_method_45_code 2 (some .boolean) ∈ TG := ch_7 (List.mem_of_getElem? (i := 222) rfl) rfl
set_option maxRecDepth 100000 in
theorem cw_160 : Cond.code ⟨"AyeJarsModel", "keepAct", "()V"⟩ prog_14_method_72_code 2 (none) ∈ TG := ch_8 (List.mem_of_getElem? (i := 68) rfl) rfl
set_option maxRecDepth 100000 in
theorem cw_161 : Cond.code ⟨"AyeJarsModel", "goDay", "()I"⟩ prog_14_method_81_code 3 (some .int) ∈ TG := ch_8 (List.mem_of_getElem? (i := 104) rfl) rfl
set_option maxRecDepth 100000 in
theorem cw_162 : Cond.code ⟨"AyeJarsModel", "sign", "(I)I"⟩ prog_14_method_2_code 2 (some .int) ∈ TG := ch_7 (List.mem_of_getElem? (i := 58) rfl) rfl
set_option maxRecDepth 100000 in
theorem cw_163 : Cond.code ⟨"AyeJarsModel", "clearBank", "()V"⟩ prog_14_method_17_code 1 (none) ∈ TG := ch_6 (List.mem_of_getElem? (i := 83) rfl) rfl
set_option maxRecDepth 100000 in
theorem cw_164 : Cond.code ⟨"AyeJarsModel", "goOn", "()V"⟩ prog_14_method_9_code 3 (none) ∈ TG := ch_7 (List.mem_of_getElem? (i := 54) rfl) rfl
set_option maxRecDepth 100000 in
theorem cw_165 : Cond.code ⟨"AyeJarsModel", "isGood", "()Z"⟩ prog_14_method_6_code 1 (some .boolean) ∈ TG := ch_7 (List.mem_of_getElem? (i := 92) rfl) rfl
set_option maxRecDepth 100000 in
theorem cw_166 : Cond.code ⟨"AyeJarsModel", "startAnew", "()V"⟩ prog_14_method_53_code 2 (none) ∈ TG := ch_6 (List.mem_of_getElem? (i := 87) rfl) rfl
set_option maxRecDepth 100000 in
theorem cw_167 : Cond.code ⟨"AyeJarsModel", "canJoin", "(II)Z"⟩ prog_14_method_78_code 3 (some .boolean) ∈ TG := ch_8 (List.mem_of_getElem? (i := 92) rfl) rfl
set_option maxRecDepth 100000 in
theorem cw_168 : Cond.code ⟨"AyeJarsModel", "isMember", "(I)Z"⟩ prog_14_method_44_code 2 (some .boolean) ∈ TG := ch_7 (List.mem_of_getElem? (i := 196) rfl) rfl
set_option maxRecDepth 100000 in
theorem cw_169 : Cond.code ⟨"AyeJarsModel", "doesFit", "(II)Z"⟩ prog_14_method_125_code 5 (some .boolean) ∈ TG := ch_9 (List.mem_of_getElem? (i := 69) rfl) rfl
set_option maxRecDepth 100000 in
theorem cw_170 : Cond.code ⟨"AyeJarsModel", "mayAll", "(III)Z"⟩ prog_14_method_110_code 5 (some .boolean) ∈ TG := ch_9 (List.mem_of_getElem? (i := 4) rfl) rfl
set_option maxRecDepth 100000 in
theorem cw_171 : Cond.code ⟨"AyeJarsModel", "times", "(II)I"⟩ prog_14_method_103_code 4 (some .int) ∈ TG := ch_8 (List.mem_of_getElem? (i := 214) rfl) rfl
set_option maxRecDepth 100000 in
theorem cw_172 : Cond.code ⟨"AyeJarsModel", "layChoice", "(I)I"⟩ prog_14_method_104_code 5 (some .int) ∈ TG := ch_8 (List.mem_of_getElem? (i := 218) rfl) rfl
set_option maxRecDepth 100000 in
theorem cw_173 : Cond.code ⟨"AyeJarsModel", "passedByChoice", "()I"⟩ prog_14_method_105_code 5 (some .int) ∈ TG := ch_8 (List.mem_of_getElem? (i := 222) rfl) rfl
set_option maxRecDepth 100000 in
theorem cw_174 : Cond.code ⟨"AyeJarsModel", "keepNow", "()V"⟩ prog_14_method_95_code 2 (none) ∈ TG := ch_8 (List.mem_of_getElem? (i := 183) rfl) rfl
set_option maxRecDepth 100000 in
theorem cw_175 : Cond.code ⟨"AyeJarsModel", "shakeAll", "(II)I"⟩ prog_14_method_119_code 7 (some .int) ∈ TG := ch_9 (List.mem_of_getElem? (i := 40) rfl) rfl
set_option maxRecDepth 100000 in
theorem cw_176 : Cond.code ⟨"AyeJarsModel", "forced", "()I"⟩ prog_14_method_120_code 3 (some .int) ∈ TG := ch_9 (List.mem_of_getElem? (i := 44) rfl) rfl
set_option maxRecDepth 100000 in
theorem cw_177 : Cond.code ⟨"AyeJarsModel", "bringBack", "()V"⟩ prog_14_method_96_code 2 (none) ∈ TG := ch_8 (List.mem_of_getElem? (i := 187) rfl) rfl
set_option maxRecDepth 100000 in
theorem cw_178 : Cond.code ⟨"AyeJarsModel", "canShake", "(I)Z"⟩ prog_14_method_75_code 2 (some .boolean) ∈ TG := ch_8 (List.mem_of_getElem? (i := 76) rfl) rfl
set_option maxRecDepth 100000 in
theorem cw_179 : Cond.code ⟨"AyeJarsModel", "mayVote", "(II)Z"⟩ prog_14_method_63_code 3 (some .boolean) ∈ TG := ch_7 (List.mem_of_getElem? (i := 214) rfl) rfl
set_option maxRecDepth 100000 in
theorem cw_180 : Cond.code ⟨"AyeJars$House", "opensOf", "(I)I"⟩ prog_7_method_10_code 2 (some .int) ∈ TG := ch_4 (List.mem_of_getElem? (i := 43) rfl) rfl
set_option maxRecDepth 100000 in
theorem cw_181 : Cond.code ⟨"AyeJars$Ahead", "votersFor", "(I)I"⟩ prog_3_method_4_code 3 (some .int) ∈ TG := ch_4 (List.mem_of_getElem? (i := 16) rfl) rfl
set_option maxRecDepth 100000 in
theorem cw_182 : Cond.code ⟨"AyeJars$Ahead", "daysLeft", "(I)I"⟩ prog_3_method_9_code 2 (some .int) ∈ TG := ch_4 (List.mem_of_getElem? (i := 92) rfl) rfl
set_option maxRecDepth 100000 in
theorem cw_183 : Cond.code ⟨"AyeJars$Chances", "mayAllVote", "(III)Z"⟩ prog_4_method_7_code 4 (some .boolean) ∈ TG := ch_5 (List.mem_of_getElem? (i := 76) rfl) rfl
set_option maxRecDepth 100000 in
theorem cw_184 : Cond.code ⟨"java/util/Arrays", "fill", "([II)V"⟩ prog_22_method_103_code 4 (none) ∈ TG := ch_3 (List.mem_of_getElem? (i := 181) rfl) rfl
set_option maxRecDepth 100000 in
theorem cw_185 : Cond.code ⟨"AyeJars$Choices", "forcingSets", "(I)J"⟩ prog_5_method_6_code 6 (some .long) ∈ TG := ch_4 (List.mem_of_getElem? (i := 224) rfl) rfl
set_option maxRecDepth 100000 in
theorem cw_186 : Cond.code ⟨"AyeJars$Choices", "extendPlan", "(II)V"⟩ prog_5_method_7_code 4 (none) ∈ TG := ch_4 (List.mem_of_getElem? (i := 232) rfl) rfl
set_option maxRecDepth 100000 in
theorem cw_187 : Cond.code ⟨"AyeJars$Choices", "fillShaken", "(II)V"⟩ prog_5_method_14_code 7 (none) ∈ TG := ch_5 (List.mem_of_getElem? (i := 159) rfl) rfl
set_option maxRecDepth 100000 in
theorem cw_188 : Cond.code ⟨"AyeJars$Choices", "weighSabotage", "(II)V"⟩ prog_5_method_15_code 7 (none) ∈ TG := ch_5 (List.mem_of_getElem? (i := 164) rfl) rfl
set_option maxRecDepth 100000 in
theorem cw_189 : Cond.code ⟨"AyeJars$Choices", "weighPlan", "(I)V"⟩ prog_5_method_8_code 3 (none) ∈ TG := ch_4 (List.mem_of_getElem? (i := 236) rfl) rfl
set_option maxRecDepth 100000 in
theorem cw_190 : Cond.code ⟨"AyeJars$Choices", "countForced", "()I"⟩ prog_5_method_9_code 3 (some .int) ∈ TG := ch_5 (List.mem_of_getElem? (i := 0) rfl) rfl
set_option maxRecDepth 100000 in
theorem cw_191 : Cond.code ⟨"AyeJars$Choices", "layTried", "(I)V"⟩ prog_5_method_4_code 2 (none) ∈ TG := ch_5 (List.mem_of_getElem? (i := 4) rfl) rfl
set_option maxRecDepth 100000 in
theorem cw_192 : Cond.code ⟨"AyeJars$House", "sumOf", "([II)I"⟩ prog_7_method_12_code 4 (some .int) ∈ TG := ch_3 (List.mem_of_getElem? (i := 239) rfl) rfl
set_option maxRecDepth 100000 in
theorem cw_193 : Cond.code ⟨"AyeJars$Formula", "clear", "()V"⟩ prog_6_method_2_code 1 (none) ∈ TG := ch_3 (List.mem_of_getElem? (i := 11) rfl) rfl
set_option maxRecDepth 100000 in
theorem cw_194 : Cond.code ⟨"AyeJars$Formula", "copyFrom", "(LAyeJars$Formula;)V"⟩ prog_6_method_3_code 2 (none) ∈ TG := ch_3 (List.mem_of_getElem? (i := 173) rfl) rfl
set_option maxRecDepth 100000 in
theorem cw_195 : Cond.code ⟨"AyeJars$Formula", "<init>", "()V"⟩ prog_6_method_1_code 1 (none) ∈ TG := ch_1 (List.mem_of_getElem? (i := 75) rfl) rfl
set_option maxRecDepth 100000 in
theorem cw_196 : Cond.code ⟨"AyeJars$Jars", "hasCell", "(II)Z"⟩ prog_8_method_4_code 2 (some .boolean) ∈ TG := ch_3 (List.mem_of_getElem? (i := 196) rfl) rfl
set_option maxRecDepth 100000 in
theorem cw_197 : Cond.code ⟨"AyeJars$House", "shelfOf", "(I)I"⟩ prog_7_method_11_code 2 (some .int) ∈ TG := ch_3 (List.mem_of_getElem? (i := 185) rfl) rfl
set_option maxRecDepth 100000 in
theorem cw_198 : Cond.code ⟨"AyeJars$Jars", "put", "(III)V"⟩ prog_8_method_3_code 4 (none) ∈ TG := ch_3 (List.mem_of_getElem? (i := 193) rfl) rfl
set_option maxRecDepth 100000 in
theorem cw_199 : Cond.code ⟨"AyeJars$Trial", "startEmpty", "(III)V"⟩ prog_12_method_5_code 4 (none) ∈ TG := ch_5 (List.mem_of_getElem? (i := 27) rfl) rfl
set_option maxRecDepth 100000 in
theorem cw_200 : Cond.code ⟨"AyeJars$Trial", "breathe", "(I)V"⟩ prog_12_method_6_code 2 (none) ∈ TG := ch_4 (List.mem_of_getElem? (i := 87) rfl) rfl
set_option maxRecDepth 100000 in
theorem cw_201 : Cond.code ⟨"AyeJars$Trial", "rest", "(I)V"⟩ prog_12_method_9_code 3 (none) ∈ TG := ch_4 (List.mem_of_getElem? (i := 82) rfl) rfl
set_option maxRecDepth 100000 in
theorem cw_202 : Cond.code ⟨"AyeJars$Nose", "fadeStrangeJars", "()V"⟩ prog_9_method_6_code 3 (none) ∈ TG := ch_6 (List.mem_of_getElem? (i := 8) rfl) rfl
set_option maxRecDepth 100000 in
theorem cw_203 : Cond.code ⟨"AyeJars$Nose", "agrees", "(II)Z"⟩ prog_9_method_7_code 6 (some .boolean) ∈ TG := ch_6 (List.mem_of_getElem? (i := 15) rfl) rfl
set_option maxRecDepth 100000 in
theorem cw_204 : Cond.code ⟨"AyeJars$House", "clear", "()V"⟩ prog_7_method_2_code 1 (none) ∈ TG := ch_3 (List.mem_of_getElem? (i := 7) rfl) rfl
set_option maxRecDepth 100000 in
theorem cw_205 : Cond.code ⟨"AyeJars$Tokens", "start", "()V"⟩ prog_11_method_4_code 1 (none) ∈ TG := ch_3 (List.mem_of_getElem? (i := 15) rfl) rfl
set_option maxRecDepth 100000 in
theorem cw_206 : Cond.code ⟨"AyeJars$Tokens", "byteAt", "(I)I"⟩ prog_11_method_6_code 2 (some .int) ∈ TG := ch_3 (List.mem_of_getElem? (i := 23) rfl) rfl
set_option maxRecDepth 100000 in
theorem cw_207 : Cond.code ⟨"AyeJars$Tokens", "advance", "()V"⟩ prog_11_method_5_code 2 (none) ∈ TG := ch_3 (List.mem_of_getElem? (i := 19) rfl) rfl
set_option maxRecDepth 1000000 in
theorem cwAll : ∀ q ∈ tM.zip tY, Cond.code q.2 (mBy q.1) (mLoc q.1) (mRet q.1) ∈ TG := List.forall_mem_cons.mpr ⟨cw_0, List.forall_mem_cons.mpr ⟨cw_1, List.forall_mem_cons.mpr ⟨cw_2, List.forall_mem_cons.mpr ⟨cw_3, List.forall_mem_cons.mpr ⟨cw_4, List.forall_mem_cons.mpr ⟨cw_5, List.forall_mem_cons.mpr ⟨cw_6, List.forall_mem_cons.mpr ⟨cw_7, List.forall_mem_cons.mpr ⟨cw_8, List.forall_mem_cons.mpr ⟨cw_9, List.forall_mem_cons.mpr ⟨cw_10, List.forall_mem_cons.mpr ⟨cw_11, List.forall_mem_cons.mpr ⟨cw_12, List.forall_mem_cons.mpr ⟨cw_13, List.forall_mem_cons.mpr ⟨cw_14, List.forall_mem_cons.mpr ⟨cw_15, List.forall_mem_cons.mpr ⟨cw_16, List.forall_mem_cons.mpr ⟨cw_17, List.forall_mem_cons.mpr ⟨cw_18, List.forall_mem_cons.mpr ⟨cw_19, List.forall_mem_cons.mpr ⟨cw_20, List.forall_mem_cons.mpr ⟨cw_21, List.forall_mem_cons.mpr ⟨cw_22, List.forall_mem_cons.mpr ⟨cw_23, List.forall_mem_cons.mpr ⟨cw_24, List.forall_mem_cons.mpr ⟨cw_25, List.forall_mem_cons.mpr ⟨cw_26, List.forall_mem_cons.mpr ⟨cw_27, List.forall_mem_cons.mpr ⟨cw_28, List.forall_mem_cons.mpr ⟨cw_29, List.forall_mem_cons.mpr ⟨cw_30, List.forall_mem_cons.mpr ⟨cw_31, List.forall_mem_cons.mpr ⟨cw_32, List.forall_mem_cons.mpr ⟨cw_33, List.forall_mem_cons.mpr ⟨cw_34, List.forall_mem_cons.mpr ⟨cw_35, List.forall_mem_cons.mpr ⟨cw_36, List.forall_mem_cons.mpr ⟨cw_37, List.forall_mem_cons.mpr ⟨cw_38, List.forall_mem_cons.mpr ⟨cw_39, List.forall_mem_cons.mpr ⟨cw_40, List.forall_mem_cons.mpr ⟨cw_41, List.forall_mem_cons.mpr ⟨cw_42, List.forall_mem_cons.mpr ⟨cw_43, List.forall_mem_cons.mpr ⟨cw_44, List.forall_mem_cons.mpr ⟨cw_45, List.forall_mem_cons.mpr ⟨cw_46, List.forall_mem_cons.mpr ⟨cw_47, List.forall_mem_cons.mpr ⟨cw_48, List.forall_mem_cons.mpr ⟨cw_49, List.forall_mem_cons.mpr ⟨cw_50, List.forall_mem_cons.mpr ⟨cw_51, List.forall_mem_cons.mpr ⟨cw_52, List.forall_mem_cons.mpr ⟨cw_53, List.forall_mem_cons.mpr ⟨cw_54, List.forall_mem_cons.mpr ⟨cw_55, List.forall_mem_cons.mpr ⟨cw_56, List.forall_mem_cons.mpr ⟨cw_57, List.forall_mem_cons.mpr ⟨cw_58, List.forall_mem_cons.mpr ⟨cw_59, List.forall_mem_cons.mpr ⟨cw_60, List.forall_mem_cons.mpr ⟨cw_61, List.forall_mem_cons.mpr ⟨cw_62, List.forall_mem_cons.mpr ⟨cw_63, List.forall_mem_cons.mpr ⟨cw_64, List.forall_mem_cons.mpr ⟨cw_65, List.forall_mem_cons.mpr ⟨cw_66, List.forall_mem_cons.mpr ⟨cw_67, List.forall_mem_cons.mpr ⟨cw_68, List.forall_mem_cons.mpr ⟨cw_69, List.forall_mem_cons.mpr ⟨cw_70, List.forall_mem_cons.mpr ⟨cw_71, List.forall_mem_cons.mpr ⟨cw_72, List.forall_mem_cons.mpr ⟨cw_73, List.forall_mem_cons.mpr ⟨cw_74, List.forall_mem_cons.mpr ⟨cw_75, List.forall_mem_cons.mpr ⟨cw_76, List.forall_mem_cons.mpr ⟨cw_77, List.forall_mem_cons.mpr ⟨cw_78, List.forall_mem_cons.mpr ⟨cw_79, List.forall_mem_cons.mpr ⟨cw_80, List.forall_mem_cons.mpr ⟨cw_81, List.forall_mem_cons.mpr ⟨cw_82, List.forall_mem_cons.mpr ⟨cw_83, List.forall_mem_cons.mpr ⟨cw_84, List.forall_mem_cons.mpr ⟨cw_85, List.forall_mem_cons.mpr ⟨cw_86, List.forall_mem_cons.mpr ⟨cw_87, List.forall_mem_cons.mpr ⟨cw_88, List.forall_mem_cons.mpr ⟨cw_89, List.forall_mem_cons.mpr ⟨cw_90, List.forall_mem_cons.mpr ⟨cw_91, List.forall_mem_cons.mpr ⟨cw_92, List.forall_mem_cons.mpr ⟨cw_93, List.forall_mem_cons.mpr ⟨cw_94, List.forall_mem_cons.mpr ⟨cw_95, List.forall_mem_cons.mpr ⟨cw_96, List.forall_mem_cons.mpr ⟨cw_97, List.forall_mem_cons.mpr ⟨cw_98, List.forall_mem_cons.mpr ⟨cw_99, List.forall_mem_cons.mpr ⟨cw_100, List.forall_mem_cons.mpr ⟨cw_101, List.forall_mem_cons.mpr ⟨cw_102, List.forall_mem_cons.mpr ⟨cw_103, List.forall_mem_cons.mpr ⟨cw_104, List.forall_mem_cons.mpr ⟨cw_105, List.forall_mem_cons.mpr ⟨cw_106, List.forall_mem_cons.mpr ⟨cw_107, List.forall_mem_cons.mpr ⟨cw_108, List.forall_mem_cons.mpr ⟨cw_109, List.forall_mem_cons.mpr ⟨cw_110, List.forall_mem_cons.mpr ⟨cw_111, List.forall_mem_cons.mpr ⟨cw_112, List.forall_mem_cons.mpr ⟨cw_113, List.forall_mem_cons.mpr ⟨cw_114, List.forall_mem_cons.mpr ⟨cw_115, List.forall_mem_cons.mpr ⟨cw_116, List.forall_mem_cons.mpr ⟨cw_117, List.forall_mem_cons.mpr ⟨cw_118, List.forall_mem_cons.mpr ⟨cw_119, List.forall_mem_cons.mpr ⟨cw_120, List.forall_mem_cons.mpr ⟨cw_121, List.forall_mem_cons.mpr ⟨cw_122, List.forall_mem_cons.mpr ⟨cw_123, List.forall_mem_cons.mpr ⟨cw_124, List.forall_mem_cons.mpr ⟨cw_125, List.forall_mem_cons.mpr ⟨cw_126, List.forall_mem_cons.mpr ⟨cw_127, List.forall_mem_cons.mpr ⟨cw_128, List.forall_mem_cons.mpr ⟨cw_129, List.forall_mem_cons.mpr ⟨cw_130, List.forall_mem_cons.mpr ⟨cw_131, List.forall_mem_cons.mpr ⟨cw_132, List.forall_mem_cons.mpr ⟨cw_133, List.forall_mem_cons.mpr ⟨cw_134, List.forall_mem_cons.mpr ⟨cw_135, List.forall_mem_cons.mpr ⟨cw_136, List.forall_mem_cons.mpr ⟨cw_137, List.forall_mem_cons.mpr ⟨cw_138, List.forall_mem_cons.mpr ⟨cw_139, List.forall_mem_cons.mpr ⟨cw_140, List.forall_mem_cons.mpr ⟨cw_141, List.forall_mem_cons.mpr ⟨cw_142, List.forall_mem_cons.mpr ⟨cw_143, List.forall_mem_cons.mpr ⟨cw_144, List.forall_mem_cons.mpr ⟨cw_145, List.forall_mem_cons.mpr ⟨cw_146, List.forall_mem_cons.mpr ⟨cw_147, List.forall_mem_cons.mpr ⟨cw_148, List.forall_mem_cons.mpr ⟨cw_149, List.forall_mem_cons.mpr ⟨cw_150, List.forall_mem_cons.mpr ⟨cw_151, List.forall_mem_cons.mpr ⟨cw_152, List.forall_mem_cons.mpr ⟨cw_153, List.forall_mem_cons.mpr ⟨cw_154, List.forall_mem_cons.mpr ⟨cw_155, List.forall_mem_cons.mpr ⟨cw_156, List.forall_mem_cons.mpr ⟨cw_157, List.forall_mem_cons.mpr ⟨cw_158, List.forall_mem_cons.mpr ⟨cw_159, List.forall_mem_cons.mpr ⟨cw_160, List.forall_mem_cons.mpr ⟨cw_161, List.forall_mem_cons.mpr ⟨cw_162, List.forall_mem_cons.mpr ⟨cw_163, List.forall_mem_cons.mpr ⟨cw_164, List.forall_mem_cons.mpr ⟨cw_165, List.forall_mem_cons.mpr ⟨cw_166, List.forall_mem_cons.mpr ⟨cw_167, List.forall_mem_cons.mpr ⟨cw_168, List.forall_mem_cons.mpr ⟨cw_169, List.forall_mem_cons.mpr ⟨cw_170, List.forall_mem_cons.mpr ⟨cw_171, List.forall_mem_cons.mpr ⟨cw_172, List.forall_mem_cons.mpr ⟨cw_173, List.forall_mem_cons.mpr ⟨cw_174, List.forall_mem_cons.mpr ⟨cw_175, List.forall_mem_cons.mpr ⟨cw_176, List.forall_mem_cons.mpr ⟨cw_177, List.forall_mem_cons.mpr ⟨cw_178, List.forall_mem_cons.mpr ⟨cw_179, List.forall_mem_cons.mpr ⟨cw_180, List.forall_mem_cons.mpr ⟨cw_181, List.forall_mem_cons.mpr ⟨cw_182, List.forall_mem_cons.mpr ⟨cw_183, List.forall_mem_cons.mpr ⟨cw_184, List.forall_mem_cons.mpr ⟨cw_185, List.forall_mem_cons.mpr ⟨cw_186, List.forall_mem_cons.mpr ⟨cw_187, List.forall_mem_cons.mpr ⟨cw_188, List.forall_mem_cons.mpr ⟨cw_189, List.forall_mem_cons.mpr ⟨cw_190, List.forall_mem_cons.mpr ⟨cw_191, List.forall_mem_cons.mpr ⟨cw_192, List.forall_mem_cons.mpr ⟨cw_193, List.forall_mem_cons.mpr ⟨cw_194, List.forall_mem_cons.mpr ⟨cw_195, List.forall_mem_cons.mpr ⟨cw_196, List.forall_mem_cons.mpr ⟨cw_197, List.forall_mem_cons.mpr ⟨cw_198, List.forall_mem_cons.mpr ⟨cw_199, List.forall_mem_cons.mpr ⟨cw_200, List.forall_mem_cons.mpr ⟨cw_201, List.forall_mem_cons.mpr ⟨cw_202, List.forall_mem_cons.mpr ⟨cw_203, List.forall_mem_cons.mpr ⟨cw_204, List.forall_mem_cons.mpr ⟨cw_205, List.forall_mem_cons.mpr ⟨cw_206, List.forall_mem_cons.mpr ⟨cw_207, fun _ h => absurd h List.not_mem_nil⟩⟩⟩⟩⟩⟩⟩⟩⟩⟩⟩⟩⟩⟩⟩⟩⟩⟩⟩⟩⟩⟩⟩⟩⟩⟩⟩⟩⟩⟩⟩⟩⟩⟩⟩⟩⟩⟩⟩⟩⟩⟩⟩⟩⟩⟩⟩⟩⟩⟩⟩⟩⟩⟩⟩⟩⟩⟩⟩⟩⟩⟩⟩⟩⟩⟩⟩⟩⟩⟩⟩⟩⟩⟩⟩⟩⟩⟩⟩⟩⟩⟩⟩⟩⟩⟩⟩⟩⟩⟩⟩⟩⟩⟩⟩⟩⟩⟩⟩⟩⟩⟩⟩⟩⟩⟩⟩⟩⟩⟩⟩⟩⟩⟩⟩⟩⟩⟩⟩⟩⟩⟩⟩⟩⟩⟩⟩⟩⟩⟩⟩⟩⟩⟩⟩⟩⟩⟩⟩⟩⟩⟩⟩⟩⟩⟩⟩⟩⟩⟩⟩⟩⟩⟩⟩⟩⟩⟩⟩⟩⟩⟩⟩⟩⟩⟩⟩⟩⟩⟩⟩⟩⟩⟩⟩⟩⟩⟩⟩⟩⟩⟩⟩⟩⟩⟩⟩⟩⟩⟩⟩⟩⟩⟩⟩⟩⟩⟩⟩⟩⟩⟩⟩⟩⟩⟩⟩⟩
