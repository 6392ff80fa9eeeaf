theorem ch_1 {w : Cond} (h : w ∈ tables_1_1) (hg : goodWord w = true) : w ∈ TG := List.mem_filter.mpr ⟨List.mem_append_right _ (show w ∈ tables_1 from (List.mem_append_left _ h)), hg⟩
theorem ch_2 {w : Cond} (h : w ∈ tables_1_2) (hg : goodWord w = true) : w ∈ TG := List.mem_filter.mpr ⟨List.mem_append_right _ (show w ∈ tables_1 from (List.mem_append_right _ (List.mem_append_left _ h))), hg⟩
theorem ch_3 {w : Cond} (h : w ∈ tables_1_3) (hg : goodWord w = true) : w ∈ TG := List.mem_filter.mpr ⟨List.mem_append_right _ (show w ∈ tables_1 from (List.mem_append_right _ (List.mem_append_right _ (List.mem_append_left _ h)))), hg⟩
theorem ch_4 {w : Cond} (h : w ∈ tables_1_4) (hg : goodWord w = true) : w ∈ TG := List.mem_filter.mpr ⟨List.mem_append_right _ (show w ∈ tables_1 from (List.mem_append_right _ (List.mem_append_right _ (List.mem_append_right _ (List.mem_append_left _ h))))), hg⟩
theorem ch_5 {w : Cond} (h : w ∈ tables_1_5) (hg : goodWord w = true) : w ∈ TG := List.mem_filter.mpr ⟨List.mem_append_right _ (show w ∈ tables_1 from (List.mem_append_right _ (List.mem_append_right _ (List.mem_append_right _ (List.mem_append_right _ (List.mem_append_left _ h)))))), hg⟩
theorem ch_6 {w : Cond} (h : w ∈ tables_1_6) (hg : goodWord w = true) : w ∈ TG := List.mem_filter.mpr ⟨List.mem_append_right _ (show w ∈ tables_1 from (List.mem_append_right _ (List.mem_append_right _ (List.mem_append_right _ (List.mem_append_right _ (List.mem_append_right _ (List.mem_append_left _ h))))))), hg⟩
theorem ch_7 {w : Cond} (h : w ∈ tables_1_7) (hg : goodWord w = true) : w ∈ TG := List.mem_filter.mpr ⟨List.mem_append_right _ (show w ∈ tables_1 from (List.mem_append_right _ (List.mem_append_right _ (List.mem_append_right _ (List.mem_append_right _ (List.mem_append_right _ (List.mem_append_right _ (List.mem_append_left _ h)))))))), hg⟩
theorem ch_8 {w : Cond} (h : w ∈ tables_1_8) (hg : goodWord w = true) : w ∈ TG := List.mem_filter.mpr ⟨List.mem_append_right _ (show w ∈ tables_1 from (List.mem_append_right _ (List.mem_append_right _ (List.mem_append_right _ (List.mem_append_right _ (List.mem_append_right _ (List.mem_append_right _ (List.mem_append_right _ (List.mem_append_left _ h))))))))), hg⟩
theorem ch_9 {w : Cond} (h : w ∈ tables_1_9) (hg : goodWord w = true) : w ∈ TG := List.mem_filter.mpr ⟨List.mem_append_right _ (show w ∈ tables_1 from (List.mem_append_right _ (List.mem_append_right _ (List.mem_append_right _ (List.mem_append_right _ (List.mem_append_right _ (List.mem_append_right _ (List.mem_append_right _ (List.mem_append_right _ h))))))))), hg⟩
set_option maxRecDepth 100000 in
theorem cw_0 : Cond.code ⟨"AyeJarsModel", "about", "(I)I"⟩ prog_14_method_133_code 2 (some .int) ∈ TG := ch_9 (List.mem_of_getElem? (i := 89) rfl) rfl
set_option maxRecDepth 100000 in
theorem cw_1 : Cond.code ⟨"AyeJarsModel", "thoseThat", "(I)I"⟩ prog_14_method_132_code 4 (some .int) ∈ TG := ch_9 (List.mem_of_getElem? (i := 93) rfl) rfl
set_option maxRecDepth 100000 in
theorem cw_2 : Cond.code ⟨"AyeJarsModel", "many", "()I"⟩ prog_14_method_43_code 1 (some .int) ∈ TG := ch_7 (List.mem_of_getElem? (i := 200) rfl) rfl
set_option maxRecDepth 100000 in
theorem cw_3 : Cond.code ⟨"AyeJars", "about", "(I)I"⟩ prog_1_method_45_code 2 (some .int) ∈ TG := ch_6 (List.mem_of_getElem? (i := 61) rfl) rfl
set_option maxRecDepth 100000 in
theorem cw_4 : Cond.code ⟨"AyeJars$Acts", "redoable", "()I"⟩ prog_2_method_7_code 1 (some .int) ∈ TG := ch_6 (List.mem_of_getElem? (i := 73) rfl) rfl
set_option maxRecDepth 100000 in
theorem cw_5 : Cond.code ⟨"AyeJars$Acts", "undoable", "()I"⟩ prog_2_method_6_code 1 (some .int) ∈ TG := ch_6 (List.mem_of_getElem? (i := 69) rfl) rfl
set_option maxRecDepth 100000 in
theorem cw_6 : Cond.code ⟨"AyeJars$Ahead", "billsOfFate", "(I)I"⟩ prog_3_method_8_code 4 (some .int) ∈ TG := ch_6 (List.mem_of_getElem? (i := 65) rfl) rfl
set_option maxRecDepth 100000 in
theorem cw_7 : Cond.code ⟨"AyeJars$Jars", "get", "(II)I"⟩ prog_8_method_2_code 3 (some .int) ∈ TG := ch_4 (List.mem_of_getElem? (i := 25) rfl) rfl
set_option maxRecDepth 100000 in
theorem cw_8 : Cond.code ⟨"AyeJars$Jars", "hasCell", "(II)Z"⟩ prog_8_method_4_code 2 (some .boolean) ∈ TG := ch_3 (List.mem_of_getElem? (i := 196) rfl) rfl
set_option maxRecDepth 100000 in
theorem cw_9 : Cond.code ⟨"AyeJarsModel", "back", "(I)I"⟩ prog_14_method_131_code 3 (some .int) ∈ TG := ch_9 (List.mem_of_getElem? (i := 85) rfl) rfl
set_option maxRecDepth 100000 in
theorem cw_10 : Cond.code ⟨"AyeJarsModel", "isIn", "(III)Z"⟩ prog_14_method_38_code 3 (some .boolean) ∈ TG := ch_7 (List.mem_of_getElem? (i := 203) rfl) rfl
set_option maxRecDepth 100000 in
theorem cw_11 : Cond.code ⟨"AyeJars", "back", "(I)I"⟩ prog_1_method_44_code 2 (some .int) ∈ TG := ch_6 (List.mem_of_getElem? (i := 57) rfl) rfl
set_option maxRecDepth 100000 in
theorem cw_12 : Cond.code ⟨"AyeJars$Acts", "begin", "(LAyeJars$Jars;)V"⟩ prog_2_method_2_code 2 (none) ∈ TG := ch_3 (List.mem_of_getElem? (i := 200) rfl) rfl
set_option maxRecDepth 100000 in
theorem cw_13 : Cond.code ⟨"AyeJars$Jars", "copyFrom", "(LAyeJars$Jars;)V"⟩ prog_8_method_8_code 2 (none) ∈ TG := ch_3 (List.mem_of_getElem? (i := 211) rfl) rfl
set_option maxRecDepth 100000 in
theorem cw_14 : Cond.code ⟨"AyeJars$Acts", "slot", "(I)LAyeJars$Jars;"⟩ prog_2_method_8_code 2 (some (.object "AyeJars$Jars")) ∈ TG := ch_3 (List.mem_of_getElem? (i := 204) rfl) rfl
set_option maxRecDepth 100000 in
theorem cw_15 : Cond.code ⟨"java/lang/Math", "floorMod", "(II)I"⟩ prog_17_method_50_code 3 (some .int) ∈ TG := ch_3 (List.mem_of_getElem? (i := 207) rfl) rfl
set_option maxRecDepth 100000 in
theorem cw_16 : Cond.code ⟨"AyeJars", "isBox", "(I)Z"⟩ prog_1_method_46_code 2 (some .boolean) ∈ TG := ch_6 (List.mem_of_getElem? (i := 52) rfl) rfl
set_option maxRecDepth 100000 in
theorem cw_17 : Cond.code ⟨"AyeJarsModel", "image", "(I)I"⟩ prog_14_method_130_code 3 (some .int) ∈ TG := ch_9 (List.mem_of_getElem? (i := 81) rfl) rfl
set_option maxRecDepth 100000 in
theorem cw_18 : Cond.code ⟨"AyeJars", "image", "(I)I"⟩ prog_1_method_43_code 2 (some .int) ∈ TG := ch_6 (List.mem_of_getElem? (i := 48) rfl) rfl
set_option maxRecDepth 100000 in
theorem cw_19 : Cond.code ⟨"AyeJarsModel", "ask", "(II)I"⟩ prog_14_method_129_code 7 (some .int) ∈ TG := ch_9 (List.mem_of_getElem? (i := 77) rfl) rfl
set_option maxRecDepth 100000 in
theorem cw_20 : Cond.code ⟨"AyeJarsModel", "layFits", "(I)V"⟩ prog_14_method_126_code 4 (none) ∈ TG := ch_9 (List.mem_of_getElem? (i := 65) rfl) rfl
set_option maxRecDepth 100000 in
theorem cw_21 : Cond.code ⟨"AyeJarsModel", "doesFit", "(II)Z"⟩ prog_14_method_125_code 5 (some .boolean) ∈ TG := ch_9 (List.mem_of_getElem? (i := 69) rfl) rfl
set_option maxRecDepth 100000 in
theorem cw_22 : Cond.code ⟨"AyeJarsModel", "leave", "(I)V"⟩ prog_14_method_58_code 3 (none) ∈ TG := ch_8 (List.mem_of_getElem? (i := 48) rfl) rfl
set_option maxRecDepth 100000 in
theorem cw_23 : Cond.code ⟨"AyeJarsModel", "fades", "()I"⟩ prog_14_method_57_code 2 (some .int) ∈ TG := ch_8 (List.mem_of_getElem? (i := 18) rfl) rfl
set_option maxRecDepth 100000 in
theorem cw_24 : Cond.code ⟨"AyeJarsModel", "lesser", "(II)I"⟩ prog_14_method_39_code 2 (some .int) ∈ TG := ch_8 (List.mem_of_getElem? (i := 32) rfl) rfl
set_option maxRecDepth 100000 in
theorem cw_25 : Cond.code ⟨"AyeJarsModel", "lossOf", "(I)I"⟩ prog_14_method_52_code 2 (some .int) ∈ TG := ch_8 (List.mem_of_getElem? (i := 2) rfl) rfl
set_option maxRecDepth 100000 in
theorem cw_26 : Cond.code ⟨"AyeJarsModel", "sumOf", "([II)I"⟩ prog_14_method_51_code 5 (some .int) ∈ TG := ch_8 (List.mem_of_getElem? (i := 6) rfl) rfl
set_option maxRecDepth 100000 in
theorem cw_27 : Cond.code ⟨"AyeJarsModel", "has", "(II)Z"⟩ prog_14_method_40_code 2 (some .boolean) ∈ TG := ch_7 (List.mem_of_getElem? (i := 206) rfl) rfl
set_option maxRecDepth 100000 in
theorem cw_28 : Cond.code ⟨"AyeJarsModel", "comes", "()I"⟩ prog_14_method_36_code 4 (some .int) ∈ TG := ch_8 (List.mem_of_getElem? (i := 22) rfl) rfl
set_option maxRecDepth 100000 in
theorem cw_29 : Cond.code ⟨"AyeJarsModel", "two", "(III)I"⟩ prog_14_method_34_code 3 (some .int) ∈ TG := ch_8 (List.mem_of_getElem? (i := 29) rfl) rfl
set_option maxRecDepth 100000 in
theorem cw_30 : Cond.code ⟨"AyeJarsModel", "asked", "(II)I"⟩ prog_14_method_35_code 3 (some .int) ∈ TG := ch_8 (List.mem_of_getElem? (i := 26) rfl) rfl
set_option maxRecDepth 100000 in
theorem cw_31 : Cond.code ⟨"AyeJarsModel", "isLetter", "(I)Z"⟩ prog_14_method_3_code 1 (some .boolean) ∈ TG := ch_7 (List.mem_of_getElem? (i := 61) rfl) rfl
set_option maxRecDepth 100000 in
theorem cw_32 : Cond.code ⟨"AyeJarsModel", "breathe", "(I)V"⟩ prog_14_method_56_code 2 (none) ∈ TG := ch_8 (List.mem_of_getElem? (i := 139) rfl) rfl
set_option maxRecDepth 100000 in
theorem cw_33 : Cond.code ⟨"AyeJarsModel", "layFresh", "(I)V"⟩ prog_14_method_55_code 2 (none) ∈ TG := ch_8 (List.mem_of_getElem? (i := 203) rfl) rfl
set_option maxRecDepth 100000 in
theorem cw_34 : Cond.code ⟨"AyeJars", "ask", "(II)I"⟩ prog_1_method_42_code 3 (some .int) ∈ TG := ch_6 (List.mem_of_getElem? (i := 39) rfl) rfl
set_option maxRecDepth 100000 in
theorem cw_35 : Cond.code ⟨"AyeJars$Nose", "nextToAsk", "(II)I"⟩ prog_9_method_10_code 10 (some .int) ∈ TG := ch_6 (List.mem_of_getElem? (i := 43) rfl) rfl
set_option maxRecDepth 100000 in
theorem cw_36 : Cond.code ⟨"java/lang/Math", "max", "(II)I"⟩ prog_17_method_65_code 2 (some .int) ∈ TG := ch_4 (List.mem_of_getElem? (i := 70) rfl) rfl
set_option maxRecDepth 100000 in
theorem cw_37 : Cond.code ⟨"java/lang/Long", "bitCount", "(J)I"⟩ prog_16_method_50_code 2 (some .int) ∈ TG := ch_6 (List.mem_of_getElem? (i := 18) rfl) rfl
set_option maxRecDepth 100000 in
theorem cw_38 : Cond.code ⟨"AyeJars$Nose", "countWith", "(JI)I"⟩ prog_9_method_8_code 5 (some .int) ∈ TG := ch_6 (List.mem_of_getElem? (i := 34) rfl) rfl
set_option maxRecDepth 100000 in
theorem cw_39 : Cond.code ⟨"AyeJars$Nose", "fitting", "(I)J"⟩ prog_9_method_5_code 5 (some .long) ∈ TG := ch_6 (List.mem_of_getElem? (i := 4) rfl) rfl
set_option maxRecDepth 100000 in
theorem cw_40 : Cond.code ⟨"AyeJars$Nose", "agrees", "(II)Z"⟩ prog_9_method_7_code 6 (some .boolean) ∈ TG := ch_6 (List.mem_of_getElem? (i := 15) rfl) rfl
set_option maxRecDepth 100000 in
theorem cw_41 : Cond.code ⟨"AyeJars$Nose", "fadeStrangeJars", "()V"⟩ prog_9_method_6_code 3 (none) ∈ TG := ch_6 (List.mem_of_getElem? (i := 8) rfl) rfl
set_option maxRecDepth 100000 in
theorem cw_42 : Cond.code ⟨"AyeJars$Trial", "rest", "(I)V"⟩ prog_12_method_9_code 3 (none) ∈ TG := ch_4 (List.mem_of_getElem? (i := 82) rfl) rfl
set_option maxRecDepth 100000 in
theorem cw_43 : Cond.code ⟨"AyeJars$Trial", "fading", "()I"⟩ prog_12_method_8_code 3 (some .int) ∈ TG := ch_4 (List.mem_of_getElem? (i := 56) rfl) rfl
set_option maxRecDepth 100000 in
theorem cw_44 : Cond.code ⟨"java/lang/Math", "min", "(II)I"⟩ prog_17_method_69_code 2 (some .int) ∈ TG := ch_4 (List.mem_of_getElem? (i := 67) rfl) rfl
set_option maxRecDepth 100000 in
theorem cw_45 : Cond.code ⟨"AyeJars$Formula", "value", "(IIIIII)I"⟩ prog_6_method_5_code 12 (some .int) ∈ TG := ch_4 (List.mem_of_getElem? (i := 61) rfl) rfl
set_option maxRecDepth 100000 in
theorem cw_46 : Cond.code ⟨"AyeJars$Formula", "combine", "(III)I"⟩ prog_6_method_6_code 3 (some .int) ∈ TG := ch_4 (List.mem_of_getElem? (i := 64) rfl) rfl
set_option maxRecDepth 100000 in
theorem cw_47 : Cond.code ⟨"AyeJars$House", "lossOf", "(I)I"⟩ prog_7_method_8_code 2 (some .int) ∈ TG := ch_4 (List.mem_of_getElem? (i := 3) rfl) rfl
set_option maxRecDepth 100000 in
theorem cw_48 : Cond.code ⟨"AyeJars$House", "sumOf", "([II)I"⟩ prog_7_method_12_code 4 (some .int) ∈ TG := ch_3 (List.mem_of_getElem? (i := 239) rfl) rfl
set_option maxRecDepth 100000 in
theorem cw_49 : Cond.code ⟨"AyeJars$Trial", "breathe", "(I)V"⟩ prog_12_method_6_code 2 (none) ∈ TG := ch_4 (List.mem_of_getElem? (i := 87) rfl) rfl
set_option maxRecDepth 100000 in
theorem cw_50 : Cond.code ⟨"AyeJars$House", "breathsOf", "(I)I"⟩ prog_7_method_7_code 2 (some .int) ∈ TG := ch_3 (List.mem_of_getElem? (i := 236) rfl) rfl
set_option maxRecDepth 100000 in
theorem cw_51 : Cond.code ⟨"AyeJars$Trial", "startEmpty", "(III)V"⟩ prog_12_method_5_code 4 (none) ∈ TG := ch_5 (List.mem_of_getElem? (i := 27) rfl) rfl
set_option maxRecDepth 100000 in
theorem cw_52 : Cond.code ⟨"AyeJarsModel", "sure", "(II)I"⟩ prog_14_method_128_code 3 (some .int) ∈ TG := ch_9 (List.mem_of_getElem? (i := 73) rfl) rfl
set_option maxRecDepth 100000 in
theorem cw_53 : Cond.code ⟨"AyeJarsModel", "isMember", "(I)Z"⟩ prog_14_method_44_code 2 (some .boolean) ∈ TG := ch_7 (List.mem_of_getElem? (i := 196) rfl) rfl
set_option maxRecDepth 100000 in
theorem cw_54 : Cond.code ⟨"AyeJars", "sure", "(II)I"⟩ prog_1_method_41_code 3 (some .int) ∈ TG := ch_6 (List.mem_of_getElem? (i := 25) rfl) rfl
set_option maxRecDepth 100000 in
theorem cw_55 : Cond.code ⟨"AyeJars$Nose", "sureness", "(II)I"⟩ prog_9_method_9_code 6 (some .int) ∈ TG := ch_6 (List.mem_of_getElem? (i := 29) rfl) rfl
set_option maxRecDepth 100000 in
theorem cw_56 : Cond.code ⟨"AyeJars$House", "hasMember", "(I)Z"⟩ prog_7_method_4_code 2 (some .boolean) ∈ TG := ch_3 (List.mem_of_getElem? (i := 232) rfl) rfl
set_option maxRecDepth 100000 in
theorem cw_57 : Cond.code ⟨"AyeJarsModel", "fits", "(I)I"⟩ prog_14_method_127_code 2 (some .int) ∈ TG := ch_9 (List.mem_of_getElem? (i := 61) rfl) rfl
set_option maxRecDepth 100000 in
theorem cw_58 : Cond.code ⟨"AyeJars", "fits", "(I)I"⟩ prog_1_method_40_code 2 (some .int) ∈ TG := ch_6 (List.mem_of_getElem? (i := 0) rfl) rfl
set_option maxRecDepth 100000 in
theorem cw_59 : Cond.code ⟨"AyeJarsModel", "later", "(I)I"⟩ prog_14_method_124_code 2 (some .int) ∈ TG := ch_9 (List.mem_of_getElem? (i := 56) rfl) rfl
set_option maxRecDepth 100000 in
theorem cw_60 : Cond.code ⟨"AyeJars", "later", "(I)I"⟩ prog_1_method_39_code 2 (some .int) ∈ TG := ch_5 (List.mem_of_getElem? (i := 235) rfl) rfl
set_option maxRecDepth 100000 in
theorem cw_61 : Cond.code ⟨"AyeJarsModel", "untell", "(I)Z"⟩ prog_14_method_123_code 2 (some .boolean) ∈ TG := ch_9 (List.mem_of_getElem? (i := 52) rfl) rfl
set_option maxRecDepth 100000 in
theorem cw_62 : Cond.code ⟨"AyeJars", "untell", "(I)Z"⟩ prog_1_method_38_code 2 (some .boolean) ∈ TG := ch_5 (List.mem_of_getElem? (i := 227) rfl) rfl
set_option maxRecDepth 100000 in
theorem cw_63 : Cond.code ⟨"AyeJars$Nose", "takeBack", "(II)Z"⟩ prog_9_method_4_code 3 (some .boolean) ∈ TG := ch_5 (List.mem_of_getElem? (i := 231) rfl) rfl
set_option maxRecDepth 100000 in
theorem cw_64 : Cond.code ⟨"AyeJarsModel", "sniffed", "(IIZ)I"⟩ prog_14_method_122_code 4 (some .int) ∈ TG := ch_9 (List.mem_of_getElem? (i := 48) rfl) rfl
set_option maxRecDepth 100000 in
theorem cw_65 : Cond.code ⟨"AyeJars", "sniffed", "(IIZ)I"⟩ prog_1_method_37_code 4 (some .int) ∈ TG := ch_5 (List.mem_of_getElem? (i := 219) rfl) rfl
set_option maxRecDepth 100000 in
theorem cw_66 : Cond.code ⟨"AyeJars$Nose", "tell", "(IIZI)I"⟩ prog_9_method_3_code 5 (some .int) ∈ TG := ch_5 (List.mem_of_getElem? (i := 223) rfl) rfl
set_option maxRecDepth 100000 in
theorem cw_67 : Cond.code ⟨"AyeJarsModel", "lies", "(I)I"⟩ prog_14_method_102_code 2 (some .int) ∈ TG := ch_8 (List.mem_of_getElem? (i := 207) rfl) rfl
set_option maxRecDepth 100000 in
theorem cw_68 : Cond.code ⟨"AyeJars", "lies", "(I)I"⟩ prog_1_method_36_code 2 (some .int) ∈ TG := ch_5 (List.mem_of_getElem? (i := 211) rfl) rfl
set_option maxRecDepth 100000 in
theorem cw_69 : Cond.code ⟨"AyeJars$Choices", "lyingAt", "(I)I"⟩ prog_5_method_3_code 2 (some .int) ∈ TG := ch_5 (List.mem_of_getElem? (i := 215) rfl) rfl
set_option maxRecDepth 100000 in
theorem cw_70 : Cond.code ⟨"AyeJarsModel", "longest", "(I)I"⟩ prog_14_method_101_code 5 (some .int) ∈ TG := ch_8 (List.mem_of_getElem? (i := 199) rfl) rfl
set_option maxRecDepth 100000 in
theorem cw_71 : Cond.code ⟨"AyeJars", "longest", "(I)I"⟩ prog_1_method_35_code 2 (some .int) ∈ TG := ch_5 (List.mem_of_getElem? (i := 202) rfl) rfl
set_option maxRecDepth 100000 in
theorem cw_72 : Cond.code ⟨"AyeJars$Ahead", "longestLasting", "(I)I"⟩ prog_3_method_28_code 6 (some .int) ∈ TG := ch_5 (List.mem_of_getElem? (i := 206) rfl) rfl
set_option maxRecDepth 100000 in
theorem cw_73 : Cond.code ⟨"AyeJarsModel", "brittle", "()I"⟩ prog_14_method_94_code 3 (some .int) ∈ TG := ch_8 (List.mem_of_getElem? (i := 171) rfl) rfl
set_option maxRecDepth 100000 in
theorem cw_74 : Cond.code ⟨"AyeJarsModel", "needOf", "(I)I"⟩ prog_14_method_49_code 2 (some .int) ∈ TG := ch_7 (List.mem_of_getElem? (i := 234) rfl) rfl
set_option maxRecDepth 100000 in
theorem cw_75 : Cond.code ⟨"AyeJarsModel", "openedShaken", "(II)I"⟩ prog_14_method_92_code 3 (some .int) ∈ TG := ch_8 (List.mem_of_getElem? (i := 167) rfl) rfl
set_option maxRecDepth 100000 in
theorem cw_76 : Cond.code ⟨"AyeJarsModel", "onDay", "(I)I"⟩ prog_14_method_59_code 2 (some .int) ∈ TG := ch_8 (List.mem_of_getElem? (i := 44) rfl) rfl
set_option maxRecDepth 100000 in
theorem cw_77 : Cond.code ⟨"AyeJarsModel", "dayOf", "(I)I"⟩ prog_14_method_50_code 2 (some .int) ∈ TG := ch_7 (List.mem_of_getElem? (i := 238) rfl) rfl
set_option maxRecDepth 100000 in
theorem cw_78 : Cond.code ⟨"AyeJarsModel", "layAside", "(I)V"⟩ prog_14_method_54_code 2 (none) ∈ TG := ch_8 (List.mem_of_getElem? (i := 14) rfl) rfl
set_option maxRecDepth 100000 in
theorem cw_79 : Cond.code ⟨"AyeJarsModel", "wouldPass", "(I)Z"⟩ prog_14_method_61_code 2 (some .boolean) ∈ TG := ch_8 (List.mem_of_getElem? (i := 36) rfl) rfl
set_option maxRecDepth 100000 in
theorem cw_80 : Cond.code ⟨"AyeJarsModel", "openedAt", "(I)I"⟩ prog_14_method_60_code 2 (some .int) ∈ TG := ch_8 (List.mem_of_getElem? (i := 40) rfl) rfl
set_option maxRecDepth 100000 in
theorem cw_81 : Cond.code ⟨"AyeJarsModel", "isLeft", "(I)Z"⟩ prog_14_method_46_code 2 (some .boolean) ∈ TG := ch_7 (List.mem_of_getElem? (i := 218) rfl) rfl
set_option maxRecDepth 100000 in
theorem cw_82 : Cond.code ⟨"AyeJarsModel", "isBill", "(I)Z"⟩ prog_14_method_45_code 2 (some .boolean) ∈ TG := ch_7 (List.mem_of_getElem? (i := 222) rfl) rfl
set_option maxRecDepth 100000 in
theorem cw_83 : Cond.code ⟨"AyeJars", "brittle", "()I"⟩ prog_1_method_34_code 1 (some .int) ∈ TG := ch_5 (List.mem_of_getElem? (i := 194) rfl) rfl
set_option maxRecDepth 100000 in
theorem cw_84 : Cond.code ⟨"AyeJars$Ahead", "brittleBills", "()I"⟩ prog_3_method_27_code 3 (some .int) ∈ TG := ch_5 (List.mem_of_getElem? (i := 198) rfl) rfl
set_option maxRecDepth 100000 in
theorem cw_85 : Cond.code ⟨"AyeJars$House", "needsOf", "(I)I"⟩ prog_7_method_9_code 2 (some .int) ∈ TG := ch_4 (List.mem_of_getElem? (i := 39) rfl) rfl
set_option maxRecDepth 100000 in
theorem cw_86 : Cond.code ⟨"AyeJars$House", "hasBill", "(I)Z"⟩ prog_7_method_5_code 2 (some .boolean) ∈ TG := ch_3 (List.mem_of_getElem? (i := 189) rfl) rfl
set_option maxRecDepth 100000 in
theorem cw_87 : Cond.code ⟨"AyeJars$Ahead", "volumeByShaking", "(II)I"⟩ prog_3_method_12_code 3 (some .int) ∈ TG := ch_5 (List.mem_of_getElem? (i := 147) rfl) rfl
set_option maxRecDepth 100000 in
theorem cw_88 : Cond.code ⟨"AyeJars$Ahead", "daysLeft", "(I)I"⟩ prog_3_method_9_code 2 (some .int) ∈ TG := ch_4 (List.mem_of_getElem? (i := 92) rfl) rfl
set_option maxRecDepth 100000 in
theorem cw_89 : Cond.code ⟨"AyeJars$House", "opensOf", "(I)I"⟩ prog_7_method_10_code 2 (some .int) ∈ TG := ch_4 (List.mem_of_getElem? (i := 43) rfl) rfl
set_option maxRecDepth 100000 in
theorem cw_90 : Cond.code ⟨"AyeJars$Trial", "take", "(LAyeJars$Jars;I)V"⟩ prog_12_method_2_code 3 (none) ∈ TG := ch_4 (List.mem_of_getElem? (i := 51) rfl) rfl
set_option maxRecDepth 100000 in
theorem cw_91 : Cond.code ⟨"AyeJars$Ahead", "wouldPass", "(I)Z"⟩ prog_3_method_14_code 2 (some .boolean) ∈ TG := ch_4 (List.mem_of_getElem? (i := 74) rfl) rfl
set_option maxRecDepth 100000 in
theorem cw_92 : Cond.code ⟨"AyeJars$Ahead", "volumeByBreathing", "(III)I"⟩ prog_3_method_11_code 4 (some .int) ∈ TG := ch_4 (List.mem_of_getElem? (i := 78) rfl) rfl
set_option maxRecDepth 100000 in
theorem cw_93 : Cond.code ⟨"AyeJars$Ahead", "isKept", "(I)Z"⟩ prog_3_method_2_code 2 (some .boolean) ∈ TG := ch_4 (List.mem_of_getElem? (i := 20) rfl) rfl
set_option maxRecDepth 100000 in
theorem cw_94 : Cond.code ⟨"AyeJarsModel", "matches", "()I"⟩ prog_14_method_99_code 4 (some .int) ∈ TG := ch_8 (List.mem_of_getElem? (i := 191) rfl) rfl
set_option maxRecDepth 100000 in
theorem cw_95 : Cond.code ⟨"AyeJarsModel", "joined", "(II)I"⟩ prog_14_method_97_code 4 (some .int) ∈ TG := ch_8 (List.mem_of_getElem? (i := 179) rfl) rfl
set_option maxRecDepth 100000 in
theorem cw_96 : Cond.code ⟨"AyeJarsModel", "bringBack", "()V"⟩ prog_14_method_96_code 2 (none) ∈ TG := ch_8 (List.mem_of_getElem? (i := 187) rfl) rfl
set_option maxRecDepth 100000 in
theorem cw_97 : Cond.code ⟨"AyeJarsModel", "joinBoth", "(II)V"⟩ prog_14_method_79_code 3 (none) ∈ TG := ch_8 (List.mem_of_getElem? (i := 96) rfl) rfl
set_option maxRecDepth 100000 in
theorem cw_98 : Cond.code ⟨"AyeJarsModel", "keepNow", "()V"⟩ prog_14_method_95_code 2 (none) ∈ TG := ch_8 (List.mem_of_getElem? (i := 183) rfl) rfl
set_option maxRecDepth 100000 in
theorem cw_99 : Cond.code ⟨"AyeJarsModel", "canJoin", "(II)Z"⟩ prog_14_method_78_code 3 (some .boolean) ∈ TG := ch_8 (List.mem_of_getElem? (i := 92) rfl) rfl
set_option maxRecDepth 100000 in
theorem cw_100 : Cond.code ⟨"AyeJarsModel", "isEmpty", "(I)Z"⟩ prog_14_method_47_code 2 (some .boolean) ∈ TG := ch_8 (List.mem_of_getElem? (i := 80) rfl) rfl
set_option maxRecDepth 100000 in
theorem cw_101 : Cond.code ⟨"AyeJars", "matches", "()I"⟩ prog_1_method_33_code 1 (some .int) ∈ TG := ch_5 (List.mem_of_getElem? (i := 184) rfl) rfl
set_option maxRecDepth 100000 in
theorem cw_102 : Cond.code ⟨"AyeJars$Ahead", "countMatches", "()I"⟩ prog_3_method_26_code 4 (some .int) ∈ TG := ch_5 (List.mem_of_getElem? (i := 188) rfl) rfl
set_option maxRecDepth 100000 in
theorem cw_103 : Cond.code ⟨"AyeJars$Ahead", "jointVolume", "(II)I"⟩ prog_3_method_13_code 3 (some .int) ∈ TG := ch_5 (List.mem_of_getElem? (i := 55) rfl) rfl
set_option maxRecDepth 100000 in
theorem cw_104 : Cond.code ⟨"AyeJars$Trial", "pourIn", "(LAyeJars$Jars;I)V"⟩ prog_12_method_7_code 3 (none) ∈ TG := ch_4 (List.mem_of_getElem? (i := 138) rfl) rfl
set_option maxRecDepth 100000 in
theorem cw_105 : Cond.code ⟨"AyeJars$Ahead", "mayJoin", "(II)Z"⟩ prog_3_method_5_code 3 (some .boolean) ∈ TG := ch_4 (List.mem_of_getElem? (i := 133) rfl) rfl
set_option maxRecDepth 100000 in
theorem cw_106 : Cond.code ⟨"AyeJars$Jars", "isEmpty", "(I)Z"⟩ prog_8_method_5_code 2 (some .boolean) ∈ TG := ch_4 (List.mem_of_getElem? (i := 119) rfl) rfl
set_option maxRecDepth 100000 in
theorem cw_107 : Cond.code ⟨"AyeJarsModel", "richest", "()I"⟩ prog_14_method_71_code 3 (some .int) ∈ TG := ch_8 (List.mem_of_getElem? (i := 60) rfl) rfl
set_option maxRecDepth 100000 in
theorem cw_108 : Cond.code ⟨"AyeJars", "richest", "()I"⟩ prog_1_method_32_code 1 (some .int) ∈ TG := ch_5 (List.mem_of_getElem? (i := 176) rfl) rfl
set_option maxRecDepth 100000 in
theorem cw_109 : Cond.code ⟨"AyeJars$Ahead", "richestKept", "()I"⟩ prog_3_method_25_code 5 (some .int) ∈ TG := ch_5 (List.mem_of_getElem? (i := 180) rfl) rfl
set_option maxRecDepth 100000 in
theorem cw_110 : Cond.code ⟨"AyeJarsModel", "wasted", "()I"⟩ prog_14_method_70_code 3 (some .int) ∈ TG := ch_8 (List.mem_of_getElem? (i := 56) rfl) rfl
set_option maxRecDepth 100000 in
theorem cw_111 : Cond.code ⟨"AyeJars", "wasted", "()I"⟩ prog_1_method_31_code 1 (some .int) ∈ TG := ch_5 (List.mem_of_getElem? (i := 168) rfl) rfl
set_option maxRecDepth 100000 in
theorem cw_112 : Cond.code ⟨"AyeJars$Ahead", "volumeWasted", "()I"⟩ prog_3_method_24_code 3 (some .int) ∈ TG := ch_5 (List.mem_of_getElem? (i := 172) rfl) rfl
set_option maxRecDepth 100000 in
theorem cw_113 : Cond.code ⟨"AyeJarsModel", "sabotage", "(I)I"⟩ prog_14_method_121_code 8 (some .int) ∈ TG := ch_9 (List.mem_of_getElem? (i := 36) rfl) rfl
set_option maxRecDepth 100000 in
theorem cw_114 : Cond.code ⟨"AyeJarsModel", "forced", "()I"⟩ prog_14_method_120_code 3 (some .int) ∈ TG := ch_9 (List.mem_of_getElem? (i := 44) rfl) rfl
set_option maxRecDepth 100000 in
theorem cw_115 : Cond.code ⟨"AyeJarsModel", "shakeAll", "(II)I"⟩ prog_14_method_119_code 7 (some .int) ∈ TG := ch_9 (List.mem_of_getElem? (i := 40) rfl) rfl
set_option maxRecDepth 100000 in
theorem cw_116 : Cond.code ⟨"AyeJarsModel", "goDay", "()I"⟩ prog_14_method_81_code 3 (some .int) ∈ TG := ch_8 (List.mem_of_getElem? (i := 104) rfl) rfl
set_option maxRecDepth 100000 in
theorem cw_117 : Cond.code ⟨"AyeJarsModel", "canShake", "(I)Z"⟩ prog_14_method_75_code 2 (some .boolean) ∈ TG := ch_8 (List.mem_of_getElem? (i := 76) rfl) rfl
set_option maxRecDepth 100000 in
theorem cw_118 : Cond.code ⟨"AyeJarsModel", "times", "(II)I"⟩ prog_14_method_103_code 4 (some .int) ∈ TG := ch_8 (List.mem_of_getElem? (i := 214) rfl) rfl
set_option maxRecDepth 100000 in
theorem cw_119 : Cond.code ⟨"AyeJars", "sabotage", "(I)I"⟩ prog_1_method_30_code 2 (some .int) ∈ TG := ch_5 (List.mem_of_getElem? (i := 151) rfl) rfl
set_option maxRecDepth 100000 in
theorem cw_120 : Cond.code ⟨"AyeJars$Choices", "chooseSabotage", "(I)I"⟩ prog_5_method_13_code 4 (some .int) ∈ TG := ch_5 (List.mem_of_getElem? (i := 155) rfl) rfl
set_option maxRecDepth 100000 in
theorem cw_121 : Cond.code ⟨"AyeJars$Choices", "weighSabotage", "(II)V"⟩ prog_5_method_15_code 7 (none) ∈ TG := ch_5 (List.mem_of_getElem? (i := 164) rfl) rfl
set_option maxRecDepth 100000 in
theorem cw_122 : Cond.code ⟨"AyeJars$Choices", "layTried", "(I)V"⟩ prog_5_method_4_code 2 (none) ∈ TG := ch_5 (List.mem_of_getElem? (i := 4) rfl) rfl
set_option maxRecDepth 100000 in
theorem cw_123 : Cond.code ⟨"AyeJars$Choices", "countForced", "()I"⟩ prog_5_method_9_code 3 (some .int) ∈ TG := ch_5 (List.mem_of_getElem? (i := 0) rfl) rfl
set_option maxRecDepth 100000 in
theorem cw_124 : Cond.code ⟨"java/util/Arrays", "fill", "([II)V"⟩ prog_22_method_103_code 4 (none) ∈ TG := ch_3 (List.mem_of_getElem? (i := 181) rfl) rfl
set_option maxRecDepth 100000 in
theorem cw_125 : Cond.code ⟨"AyeJars$Choices", "fillShaken", "(II)V"⟩ prog_5_method_14_code 7 (none) ∈ TG := ch_5 (List.mem_of_getElem? (i := 159) rfl) rfl
set_option maxRecDepth 100000 in
theorem cw_126 : Cond.code ⟨"AyeJars$Choices", "clear", "()V"⟩ prog_5_method_2_code 1 (none) ∈ TG := ch_3 (List.mem_of_getElem? (i := 220) rfl) rfl
set_option maxRecDepth 100000 in
theorem cw_127 : Cond.code ⟨"AyeJarsModel", "spoil", "(I)I"⟩ prog_14_method_93_code 3 (some .int) ∈ TG := ch_8 (List.mem_of_getElem? (i := 163) rfl) rfl
set_option maxRecDepth 100000 in
theorem cw_128 : Cond.code ⟨"AyeJars", "spoil", "(I)I"⟩ prog_1_method_29_code 2 (some .int) ∈ TG := ch_5 (List.mem_of_getElem? (i := 139) rfl) rfl
set_option maxRecDepth 100000 in
theorem cw_129 : Cond.code ⟨"AyeJars$Ahead", "shakesToSpoil", "(I)I"⟩ prog_3_method_23_code 3 (some .int) ∈ TG := ch_5 (List.mem_of_getElem? (i := 143) rfl) rfl
set_option maxRecDepth 100000 in
theorem cw_130 : Cond.code ⟨"AyeJarsModel", "queue", "(I)I"⟩ prog_14_method_118_code 6 (some .int) ∈ TG := ch_9 (List.mem_of_getElem? (i := 24) rfl) rfl
set_option maxRecDepth 100000 in
theorem cw_131 : Cond.code ⟨"AyeJarsModel", "openedByQueue", "(I)I"⟩ prog_14_method_117_code 3 (some .int) ∈ TG := ch_9 (List.mem_of_getElem? (i := 32) rfl) rfl
set_option maxRecDepth 100000 in
theorem cw_132 : Cond.code ⟨"AyeJarsModel", "layQueue", "(II)Z"⟩ prog_14_method_116_code 6 (some .boolean) ∈ TG := ch_9 (List.mem_of_getElem? (i := 28) rfl) rfl
set_option maxRecDepth 100000 in
theorem cw_133 : Cond.code ⟨"AyeJarsModel", "bitsOf", "(I)I"⟩ prog_14_method_41_code 3 (some .int) ∈ TG := ch_8 (List.mem_of_getElem? (i := 131) rfl) rfl
set_option maxRecDepth 100000 in
theorem cw_134 : Cond.code ⟨"AyeJars", "queue", "(I)I"⟩ prog_1_method_28_code 2 (some .int) ∈ TG := ch_5 (List.mem_of_getElem? (i := 113) rfl) rfl
set_option maxRecDepth 100000 in
theorem cw_135 : Cond.code ⟨"AyeJars$Choices", "chooseQueue", "(I)I"⟩ prog_5_method_10_code 3 (some .int) ∈ TG := ch_5 (List.mem_of_getElem? (i := 117) rfl) rfl
set_option maxRecDepth 100000 in
theorem cw_136 : Cond.code ⟨"AyeJars$Choices", "extendQueue", "(III)V"⟩ prog_5_method_11_code 6 (none) ∈ TG := ch_5 (List.mem_of_getElem? (i := 125) rfl) rfl
set_option maxRecDepth 100000 in
theorem cw_137 : Cond.code ⟨"AyeJars$Trial", "copyFrom", "(LAyeJars$Trial;)V"⟩ prog_12_method_4_code 2 (none) ∈ TG := ch_5 (List.mem_of_getElem? (i := 133) rfl) rfl
set_option maxRecDepth 100000 in
theorem cw_138 : Cond.code ⟨"AyeJars$Choices", "weighQueue", "(II)V"⟩ prog_5_method_12_code 4 (none) ∈ TG := ch_5 (List.mem_of_getElem? (i := 129) rfl) rfl
set_option maxRecDepth 100000 in
theorem cw_139 : Cond.code ⟨"AyeJarsModel", "ripe", "(III)I"⟩ prog_14_method_90_code 8 (some .int) ∈ TG := ch_8 (List.mem_of_getElem? (i := 151) rfl) rfl
set_option maxRecDepth 100000 in
theorem cw_140 : Cond.code ⟨"AyeJarsModel", "openedLater", "(III)I"⟩ prog_14_method_88_code 4 (some .int) ∈ TG := ch_8 (List.mem_of_getElem? (i := 147) rfl) rfl
set_option maxRecDepth 100000 in
theorem cw_141 : Cond.code ⟨"AyeJarsModel", "isSet", "(I)Z"⟩ prog_14_method_48_code 2 (some .boolean) ∈ TG := ch_8 (List.mem_of_getElem? (i := 155) rfl) rfl
set_option maxRecDepth 100000 in
theorem cw_142 : Cond.code ⟨"AyeJars", "ripe", "(III)I"⟩ prog_1_method_27_code 5 (some .int) ∈ TG := ch_5 (List.mem_of_getElem? (i := 103) rfl) rfl
set_option maxRecDepth 100000 in
theorem cw_143 : Cond.code ⟨"AyeJars$Ahead", "ripestDays", "(II)I"⟩ prog_3_method_22_code 8 (some .int) ∈ TG := ch_5 (List.mem_of_getElem? (i := 107) rfl) rfl
set_option maxRecDepth 100000 in
theorem cw_144 : Cond.code ⟨"AyeJars$House", "hasSet", "(I)Z"⟩ prog_7_method_6_code 2 (some .boolean) ∈ TG := ch_5 (List.mem_of_getElem? (i := 81) rfl) rfl
set_option maxRecDepth 100000 in
theorem cw_145 : Cond.code ⟨"AyeJarsModel", "mean", "(III)I"⟩ prog_14_method_115_code 4 (some .int) ∈ TG := ch_9 (List.mem_of_getElem? (i := 20) rfl) rfl
set_option maxRecDepth 100000 in
theorem cw_146 : Cond.code ⟨"AyeJarsModel", "partOf", "(III)I"⟩ prog_14_method_113_code 6 (some .int) ∈ TG := ch_9 (List.mem_of_getElem? (i := 16) rfl) rfl
set_option maxRecDepth 100000 in
theorem cw_147 : Cond.code ⟨"AyeJarsModel", "divisor", "(II)I"⟩ prog_14_method_42_code 5 (some .int) ∈ TG := ch_8 (List.mem_of_getElem? (i := 236) rfl) rfl
set_option maxRecDepth 100000 in
theorem cw_148 : Cond.code ⟨"AyeJarsModel", "overParts", "(IIZ)I"⟩ prog_14_method_112_code 7 (some .int) ∈ TG := ch_9 (List.mem_of_getElem? (i := 8) rfl) rfl
set_option maxRecDepth 100000 in
theorem cw_149 : Cond.code ⟨"AyeJarsModel", "weightOf", "(II)I"⟩ prog_14_method_111_code 5 (some .int) ∈ TG := ch_9 (List.mem_of_getElem? (i := 12) rfl) rfl
set_option maxRecDepth 100000 in
theorem cw_150 : Cond.code ⟨"AyeJarsModel", "openedWith", "(II)I"⟩ prog_14_method_62_code 3 (some .int) ∈ TG := ch_8 (List.mem_of_getElem? (i := 135) rfl) rfl
set_option maxRecDepth 100000 in
theorem cw_151 : Cond.code ⟨"AyeJarsModel", "mayAll", "(III)Z"⟩ prog_14_method_110_code 5 (some .boolean) ∈ TG := ch_9 (List.mem_of_getElem? (i := 4) rfl) rfl
set_option maxRecDepth 100000 in
theorem cw_152 : Cond.code ⟨"AyeJarsModel", "mayVote", "(II)Z"⟩ prog_14_method_63_code 3 (some .boolean) ∈ TG := ch_7 (List.mem_of_getElem? (i := 214) rfl) rfl
set_option maxRecDepth 100000 in
theorem cw_153 : Cond.code ⟨"AyeJars", "mean", "(III)I"⟩ prog_1_method_26_code 4 (some .int) ∈ TG := ch_5 (List.mem_of_getElem? (i := 95) rfl) rfl
set_option maxRecDepth 100000 in
theorem cw_154 : Cond.code ⟨"AyeJars$Chances", "part", "(I)I"⟩ prog_4_method_2_code 4 (some .int) ∈ TG := ch_5 (List.mem_of_getElem? (i := 36) rfl) rfl
set_option maxRecDepth 100000 in
theorem cw_155 : Cond.code ⟨"AyeJars$Chances", "commonDivisor", "(JJ)J"⟩ prog_4_method_11_code 7 (some .long) ∈ TG := ch_5 (List.mem_of_getElem? (i := 39) rfl) rfl
set_option maxRecDepth 100000 in
theorem cw_156 : Cond.code ⟨"AyeJars$Chances", "weighMean", "(II)Z"⟩ prog_4_method_6_code 4 (some .boolean) ∈ TG := ch_5 (List.mem_of_getElem? (i := 99) rfl) rfl
set_option maxRecDepth 100000 in
theorem cw_157 : Cond.code ⟨"AyeJars$Chances", "weightOf", "(II)J"⟩ prog_4_method_8_code 4 (some .long) ∈ TG := ch_5 (List.mem_of_getElem? (i := 91) rfl) rfl
set_option maxRecDepth 100000 in
theorem cw_158 : Cond.code ⟨"AyeJars$Chances", "raise", "(JI)J"⟩ prog_4_method_9_code 6 (some .long) ∈ TG := ch_5 (List.mem_of_getElem? (i := 86) rfl) rfl
set_option maxRecDepth 100000 in
theorem cw_159 : Cond.code ⟨"java/lang/Integer", "bitCount", "(I)I"⟩ prog_15_method_49_code 1 (some .int) ∈ TG := ch_4 (List.mem_of_getElem? (i := 199) rfl) rfl
set_option maxRecDepth 100000 in
theorem cw_160 : Cond.code ⟨"AyeJars$Chances", "mayAllVote", "(III)Z"⟩ prog_4_method_7_code 4 (some .boolean) ∈ TG := ch_5 (List.mem_of_getElem? (i := 76) rfl) rfl
set_option maxRecDepth 100000 in
theorem cw_161 : Cond.code ⟨"AyeJars$Ahead", "votersFor", "(I)I"⟩ prog_3_method_4_code 3 (some .int) ∈ TG := ch_4 (List.mem_of_getElem? (i := 16) rfl) rfl
set_option maxRecDepth 100000 in
theorem cw_162 : Cond.code ⟨"AyeJarsModel", "odds", "(III)I"⟩ prog_14_method_114_code 4 (some .int) ∈ TG := ch_9 (List.mem_of_getElem? (i := 0) rfl) rfl
set_option maxRecDepth 100000 in
theorem cw_163 : Cond.code ⟨"AyeJars", "odds", "(III)I"⟩ prog_1_method_25_code 4 (some .int) ∈ TG := ch_5 (List.mem_of_getElem? (i := 68) rfl) rfl
set_option maxRecDepth 100000 in
theorem cw_164 : Cond.code ⟨"AyeJars$Chances", "weighOdds", "(II)Z"⟩ prog_4_method_5_code 4 (some .boolean) ∈ TG := ch_5 (List.mem_of_getElem? (i := 72) rfl) rfl
set_option maxRecDepth 100000 in
theorem cw_165 : Cond.code ⟨"AyeJarsModel", "law", "(I)I"⟩ prog_14_method_100_code 4 (some .int) ∈ TG := ch_8 (List.mem_of_getElem? (i := 195) rfl) rfl
set_option maxRecDepth 100000 in
theorem cw_166 : Cond.code ⟨"AyeJars", "law", "(I)I"⟩ prog_1_method_24_code 2 (some .int) ∈ TG := ch_5 (List.mem_of_getElem? (i := 60) rfl) rfl
set_option maxRecDepth 100000 in
theorem cw_167 : Cond.code ⟨"AyeJars$Ahead", "passingWithNeed", "(I)I"⟩ prog_3_method_21_code 4 (some .int) ∈ TG := ch_5 (List.mem_of_getElem? (i := 64) rfl) rfl
set_option maxRecDepth 100000 in
theorem cw_168 : Cond.code ⟨"AyeJarsModel", "joint", "(II)I"⟩ prog_14_method_98_code 3 (some .int) ∈ TG := ch_8 (List.mem_of_getElem? (i := 175) rfl) rfl
set_option maxRecDepth 100000 in
theorem cw_169 : Cond.code ⟨"AyeJars", "joint", "(II)I"⟩ prog_1_method_23_code 3 (some .int) ∈ TG := ch_5 (List.mem_of_getElem? (i := 51) rfl) rfl
set_option maxRecDepth 100000 in
theorem cw_170 : Cond.code ⟨"AyeJarsModel", "best", "(I)I"⟩ prog_14_method_91_code 6 (some .int) ∈ TG := ch_8 (List.mem_of_getElem? (i := 159) rfl) rfl
set_option maxRecDepth 100000 in
theorem cw_171 : Cond.code ⟨"AyeJars", "best", "(I)I"⟩ prog_1_method_22_code 2 (some .int) ∈ TG := ch_5 (List.mem_of_getElem? (i := 43) rfl) rfl
set_option maxRecDepth 100000 in
theorem cw_172 : Cond.code ⟨"AyeJars$Ahead", "bestShelf", "(I)I"⟩ prog_3_method_20_code 5 (some .int) ∈ TG := ch_5 (List.mem_of_getElem? (i := 47) rfl) rfl
set_option maxRecDepth 100000 in
theorem cw_173 : Cond.code ⟨"AyeJarsModel", "power", "(III)I"⟩ prog_14_method_109_code 6 (some .int) ∈ TG := ch_8 (List.mem_of_getElem? (i := 226) rfl) rfl
set_option maxRecDepth 100000 in
theorem cw_174 : Cond.code ⟨"AyeJarsModel", "factorial", "(I)I"⟩ prog_14_method_107_code 3 (some .int) ∈ TG := ch_8 (List.mem_of_getElem? (i := 233) rfl) rfl
set_option maxRecDepth 100000 in
theorem cw_175 : Cond.code ⟨"AyeJarsModel", "passesAlone", "(II)Z"⟩ prog_14_method_108_code 3 (some .boolean) ∈ TG := ch_8 (List.mem_of_getElem? (i := 230) rfl) rfl
set_option maxRecDepth 100000 in
theorem cw_176 : Cond.code ⟨"AyeJars", "power", "(III)I"⟩ prog_1_method_21_code 4 (some .int) ∈ TG := ch_5 (List.mem_of_getElem? (i := 9) rfl) rfl
set_option maxRecDepth 100000 in
theorem cw_177 : Cond.code ⟨"AyeJars$Chances", "weighPower", "(II)Z"⟩ prog_4_method_3_code 6 (some .boolean) ∈ TG := ch_5 (List.mem_of_getElem? (i := 13) rfl) rfl
set_option maxRecDepth 100000 in
theorem cw_178 : Cond.code ⟨"AyeJars$Chances", "factorial", "(I)J"⟩ prog_4_method_10_code 4 (some .long) ∈ TG := ch_5 (List.mem_of_getElem? (i := 18) rfl) rfl
set_option maxRecDepth 100000 in
theorem cw_179 : Cond.code ⟨"AyeJars$Chances", "passesFromEmpty", "(II)Z"⟩ prog_4_method_4_code 3 (some .boolean) ∈ TG := ch_5 (List.mem_of_getElem? (i := 22) rfl) rfl
set_option maxRecDepth 100000 in
theorem cw_180 : Cond.code ⟨"AyeJarsModel", "plan", "()I"⟩ prog_14_method_106_code 7 (some .int) ∈ TG := ch_8 (List.mem_of_getElem? (i := 211) rfl) rfl
set_option maxRecDepth 100000 in
theorem cw_181 : Cond.code ⟨"AyeJarsModel", "passedByChoice", "()I"⟩ prog_14_method_105_code 5 (some .int) ∈ TG := ch_8 (List.mem_of_getElem? (i := 222) rfl) rfl
set_option maxRecDepth 100000 in
theorem cw_182 : Cond.code ⟨"AyeJarsModel", "layChoice", "(I)I"⟩ prog_14_method_104_code 5 (some .int) ∈ TG := ch_8 (List.mem_of_getElem? (i := 218) rfl) rfl
set_option maxRecDepth 100000 in
theorem cw_183 : Cond.code ⟨"AyeJars", "plan", "()I"⟩ prog_1_method_20_code 1 (some .int) ∈ TG := ch_4 (List.mem_of_getElem? (i := 215) rfl) rfl
set_option maxRecDepth 100000 in
theorem cw_184 : Cond.code ⟨"AyeJars$Choices", "choosePlan", "()I"⟩ prog_5_method_5_code 3 (some .int) ∈ TG := ch_4 (List.mem_of_getElem? (i := 219) rfl) rfl
set_option maxRecDepth 100000 in
theorem cw_185 : Cond.code ⟨"AyeJars$Choices", "extendPlan", "(II)V"⟩ prog_5_method_7_code 4 (none) ∈ TG := ch_4 (List.mem_of_getElem? (i := 232) rfl) rfl
set_option maxRecDepth 100000 in
theorem cw_186 : Cond.code ⟨"AyeJars$Choices", "weighPlan", "(I)V"⟩ prog_5_method_8_code 3 (none) ∈ TG := ch_4 (List.mem_of_getElem? (i := 236) rfl) rfl
set_option maxRecDepth 100000 in
theorem cw_187 : Cond.code ⟨"AyeJars$Choices", "forcingSets", "(I)J"⟩ prog_5_method_6_code 6 (some .long) ∈ TG := ch_4 (List.mem_of_getElem? (i := 224) rfl) rfl
set_option maxRecDepth 100000 in
theorem cw_188 : Cond.code ⟨"AyeJarsModel", "latest", "(II)I"⟩ prog_14_method_89_code 5 (some .int) ∈ TG := ch_8 (List.mem_of_getElem? (i := 143) rfl) rfl
set_option maxRecDepth 100000 in
theorem cw_189 : Cond.code ⟨"AyeJars", "latest", "(II)I"⟩ prog_1_method_19_code 3 (some .int) ∈ TG := ch_4 (List.mem_of_getElem? (i := 207) rfl) rfl
set_option maxRecDepth 100000 in
theorem cw_190 : Cond.code ⟨"AyeJars$Ahead", "latestVote", "(II)I"⟩ prog_3_method_19_code 6 (some .int) ∈ TG := ch_4 (List.mem_of_getElem? (i := 211) rfl) rfl
set_option maxRecDepth 100000 in
theorem cw_191 : Cond.code ⟨"AyeJarsModel", "muster", "(II)I"⟩ prog_14_method_87_code 6 (some .int) ∈ TG := ch_8 (List.mem_of_getElem? (i := 128) rfl) rfl
set_option maxRecDepth 100000 in
theorem cw_192 : Cond.code ⟨"AyeJars", "muster", "(II)I"⟩ prog_1_method_18_code 4 (some .int) ∈ TG := ch_4 (List.mem_of_getElem? (i := 192) rfl) rfl
set_option maxRecDepth 100000 in
theorem cw_193 : Cond.code ⟨"AyeJars$Ahead", "fewestSaviours", "(I)I"⟩ prog_3_method_18_code 6 (some .int) ∈ TG := ch_4 (List.mem_of_getElem? (i := 196) rfl) rfl
set_option maxRecDepth 100000 in
theorem cw_194 : Cond.code ⟨"AyeJarsModel", "pass", "()I"⟩ prog_14_method_69_code 3 (some .int) ∈ TG := ch_8 (List.mem_of_getElem? (i := 52) rfl) rfl
set_option maxRecDepth 100000 in
theorem cw_195 : Cond.code ⟨"AyeJars", "pass", "()I"⟩ prog_1_method_17_code 1 (some .int) ∈ TG := ch_4 (List.mem_of_getElem? (i := 183) rfl) rfl
set_option maxRecDepth 100000 in
theorem cw_196 : Cond.code ⟨"AyeJars$Ahead", "passing", "()I"⟩ prog_3_method_15_code 3 (some .int) ∈ TG := ch_4 (List.mem_of_getElem? (i := 187) rfl) rfl
set_option maxRecDepth 100000 in
theorem cw_197 : Cond.code ⟨"AyeJarsModel", "dull", "(I)I"⟩ prog_14_method_86_code 3 (some .int) ∈ TG := ch_8 (List.mem_of_getElem? (i := 124) rfl) rfl
set_option maxRecDepth 100000 in
theorem cw_198 : Cond.code ⟨"AyeJars", "dull", "(I)I"⟩ prog_1_method_16_code 2 (some .int) ∈ TG := ch_4 (List.mem_of_getElem? (i := 175) rfl) rfl
set_option maxRecDepth 100000 in
theorem cw_199 : Cond.code ⟨"AyeJars$Ahead", "daysTillDull", "(I)I"⟩ prog_3_method_17_code 3 (some .int) ∈ TG := ch_4 (List.mem_of_getElem? (i := 179) rfl) rfl
set_option maxRecDepth 100000 in
theorem cw_200 : Cond.code ⟨"AyeJarsModel", "will", "(II)I"⟩ prog_14_method_85_code 3 (some .int) ∈ TG := ch_8 (List.mem_of_getElem? (i := 120) rfl) rfl
set_option maxRecDepth 100000 in
theorem cw_201 : Cond.code ⟨"AyeJars", "will", "(II)I"⟩ prog_1_method_15_code 3 (some .int) ∈ TG := ch_4 (List.mem_of_getElem? (i := 167) rfl) rfl
set_option maxRecDepth 100000 in
theorem cw_202 : Cond.code ⟨"AyeJars$Ahead", "volumeBehind", "(II)I"⟩ prog_3_method_16_code 3 (some .int) ∈ TG := ch_4 (List.mem_of_getElem? (i := 171) rfl) rfl
set_option maxRecDepth 100000 in
theorem cw_203 : Cond.code ⟨"AyeJarsModel", "redo", "()Z"⟩ prog_14_method_84_code 1 (some .boolean) ∈ TG := ch_8 (List.mem_of_getElem? (i := 116) rfl) rfl
set_option maxRecDepth 100000 in
theorem cw_204 : Cond.code ⟨"AyeJarsModel", "exchange", "()V"⟩ prog_14_method_73_code 3 (none) ∈ TG := ch_8 (List.mem_of_getElem? (i := 112) rfl) rfl
set_option maxRecDepth 100000 in
theorem cw_205 : Cond.code ⟨"AyeJars", "redo", "()Z"⟩ prog_1_method_14_code 1 (some .boolean) ∈ TG := ch_4 (List.mem_of_getElem? (i := 159) rfl) rfl
set_option maxRecDepth 100000 in
theorem cw_206 : Cond.code ⟨"AyeJars$Acts", "goOn", "(LAyeJars$Jars;)Z"⟩ prog_2_method_5_code 2 (some .boolean) ∈ TG := ch_4 (List.mem_of_getElem? (i := 163) rfl) rfl
set_option maxRecDepth 100000 in
theorem cw_207 : Cond.code ⟨"AyeJarsModel", "undo", "()Z"⟩ prog_14_method_83_code 1 (some .boolean) ∈ TG := ch_8 (List.mem_of_getElem? (i := 108) rfl) rfl
set_option maxRecDepth 100000 in
theorem cw_208 : Cond.code ⟨"AyeJars", "undo", "()Z"⟩ prog_1_method_13_code 1 (some .boolean) ∈ TG := ch_4 (List.mem_of_getElem? (i := 151) rfl) rfl
set_option maxRecDepth 100000 in
theorem cw_209 : Cond.code ⟨"AyeJars$Acts", "goBack", "(LAyeJars$Jars;)Z"⟩ prog_2_method_4_code 2 (some .boolean) ∈ TG := ch_4 (List.mem_of_getElem? (i := 155) rfl) rfl
set_option maxRecDepth 100000 in
theorem cw_210 : Cond.code ⟨"AyeJarsModel", "day", "()I"⟩ prog_14_method_82_code 1 (some .int) ∈ TG := ch_8 (List.mem_of_getElem? (i := 100) rfl) rfl
set_option maxRecDepth 100000 in
theorem cw_211 : Cond.code ⟨"AyeJarsModel", "keepAct", "()V"⟩ prog_14_method_72_code 2 (none) ∈ TG := ch_8 (List.mem_of_getElem? (i := 68) rfl) rfl
set_option maxRecDepth 100000 in
theorem cw_212 : Cond.code ⟨"AyeJars", "day", "()I"⟩ prog_1_method_12_code 5 (some .int) ∈ TG := ch_4 (List.mem_of_getElem? (i := 146) rfl) rfl
set_option maxRecDepth 100000 in
theorem cw_213 : Cond.code ⟨"AyeJars$Acts", "keep", "(LAyeJars$Jars;)V"⟩ prog_2_method_3_code 2 (none) ∈ TG := ch_4 (List.mem_of_getElem? (i := 110) rfl) rfl
set_option maxRecDepth 100000 in
theorem cw_214 : Cond.code ⟨"AyeJars$Jars", "put", "(III)V"⟩ prog_8_method_3_code 4 (none) ∈ TG := ch_3 (List.mem_of_getElem? (i := 193) rfl) rfl
set_option maxRecDepth 100000 in
theorem cw_215 : Cond.code ⟨"AyeJars$Trial", "putBack", "(LAyeJars$Jars;I)V"⟩ prog_12_method_3_code 3 (none) ∈ TG := ch_4 (List.mem_of_getElem? (i := 105) rfl) rfl
set_option maxRecDepth 100000 in
theorem cw_216 : Cond.code ⟨"AyeJarsModel", "join", "(II)I"⟩ prog_14_method_80_code 3 (some .int) ∈ TG := ch_8 (List.mem_of_getElem? (i := 88) rfl) rfl
set_option maxRecDepth 100000 in
theorem cw_217 : Cond.code ⟨"AyeJars", "join", "(II)I"⟩ prog_1_method_11_code 3 (some .int) ∈ TG := ch_4 (List.mem_of_getElem? (i := 129) rfl) rfl
set_option maxRecDepth 100000 in
theorem cw_218 : Cond.code ⟨"AyeJars$Jars", "empty", "(I)V"⟩ prog_8_method_6_code 2 (none) ∈ TG := ch_4 (List.mem_of_getElem? (i := 142) rfl) rfl
set_option maxRecDepth 100000 in
theorem cw_219 : Cond.code ⟨"AyeJarsModel", "shelve", "(II)I"⟩ prog_14_method_77_code 4 (some .int) ∈ TG := ch_8 (List.mem_of_getElem? (i := 84) rfl) rfl
set_option maxRecDepth 100000 in
theorem cw_220 : Cond.code ⟨"AyeJars", "shelve", "(II)I"⟩ prog_1_method_10_code 4 (some .int) ∈ TG := ch_4 (List.mem_of_getElem? (i := 125) rfl) rfl
set_option maxRecDepth 100000 in
theorem cw_221 : Cond.code ⟨"AyeJarsModel", "shake", "(I)I"⟩ prog_14_method_76_code 2 (some .int) ∈ TG := ch_8 (List.mem_of_getElem? (i := 72) rfl) rfl
set_option maxRecDepth 100000 in
theorem cw_222 : Cond.code ⟨"AyeJars", "shake", "(I)I"⟩ prog_1_method_9_code 3 (some .int) ∈ TG := ch_4 (List.mem_of_getElem? (i := 114) rfl) rfl
set_option maxRecDepth 100000 in
theorem cw_223 : Cond.code ⟨"AyeJarsModel", "vote", "(II)I"⟩ prog_14_method_74_code 3 (some .int) ∈ TG := ch_8 (List.mem_of_getElem? (i := 64) rfl) rfl
set_option maxRecDepth 100000 in
theorem cw_224 : Cond.code ⟨"AyeJars", "vote", "(II)I"⟩ prog_1_method_8_code 3 (some .int) ∈ TG := ch_4 (List.mem_of_getElem? (i := 98) rfl) rfl
set_option maxRecDepth 100000 in
theorem cw_225 : Cond.code ⟨"AyeJars$Ahead", "mayVote", "(II)Z"⟩ prog_3_method_3_code 3 (some .boolean) ∈ TG := ch_4 (List.mem_of_getElem? (i := 11) rfl) rfl
set_option maxRecDepth 100000 in
theorem cw_226 : Cond.code ⟨"AyeJarsModel", "bill", "(II)I"⟩ prog_14_method_68_code 3 (some .int) ∈ TG := ch_7 (List.mem_of_getElem? (i := 230) rfl) rfl
set_option maxRecDepth 100000 in
theorem cw_227 : Cond.code ⟨"AyeJarsModel", "fadesNow", "(I)I"⟩ prog_14_method_67_code 2 (some .int) ∈ TG := ch_8 (List.mem_of_getElem? (i := 10) rfl) rfl
set_option maxRecDepth 100000 in
theorem cw_228 : Cond.code ⟨"AyeJars", "bill", "(II)I"⟩ prog_1_method_7_code 3 (some .int) ∈ TG := ch_4 (List.mem_of_getElem? (i := 33) rfl) rfl
set_option maxRecDepth 100000 in
theorem cw_229 : Cond.code ⟨"AyeJars$Ahead", "fadingNow", "(I)I"⟩ prog_3_method_10_code 2 (some .int) ∈ TG := ch_4 (List.mem_of_getElem? (i := 47) rfl) rfl
set_option maxRecDepth 100000 in
theorem cw_230 : Cond.code ⟨"AyeJarsModel", "member", "(II)I"⟩ prog_14_method_66_code 3 (some .int) ∈ TG := ch_7 (List.mem_of_getElem? (i := 192) rfl) rfl
set_option maxRecDepth 100000 in
theorem cw_231 : Cond.code ⟨"AyeJarsModel", "breathedInto", "(I)I"⟩ prog_14_method_65_code 4 (some .int) ∈ TG := ch_7 (List.mem_of_getElem? (i := 226) rfl) rfl
set_option maxRecDepth 100000 in
theorem cw_232 : Cond.code ⟨"AyeJarsModel", "mayVoteFor", "(I)I"⟩ prog_14_method_64_code 4 (some .int) ∈ TG := ch_7 (List.mem_of_getElem? (i := 210) rfl) rfl
set_option maxRecDepth 100000 in
theorem cw_233 : Cond.code ⟨"AyeJars", "member", "(II)I"⟩ prog_1_method_6_code 3 (some .int) ∈ TG := ch_3 (List.mem_of_getElem? (i := 228) rfl) rfl
set_option maxRecDepth 100000 in
theorem cw_234 : Cond.code ⟨"AyeJars$Ahead", "billsHolding", "(I)I"⟩ prog_3_method_7_code 4 (some .int) ∈ TG := ch_4 (List.mem_of_getElem? (i := 29) rfl) rfl
set_option maxRecDepth 100000 in
theorem cw_235 : Cond.code ⟨"AyeJars$Ahead", "billsOpenTo", "(I)I"⟩ prog_3_method_6_code 4 (some .int) ∈ TG := ch_4 (List.mem_of_getElem? (i := 7) rfl) rfl
set_option maxRecDepth 100000 in
theorem cw_236 : Cond.code ⟨"AyeJarsModel", "fault", "(I)I"⟩ prog_14_method_37_code 2 (some .int) ∈ TG := ch_7 (List.mem_of_getElem? (i := 188) rfl) rfl
set_option maxRecDepth 100000 in
theorem cw_237 : Cond.code ⟨"AyeJars", "fault", "(I)I"⟩ prog_1_method_5_code 2 (some .int) ∈ TG := ch_3 (List.mem_of_getElem? (i := 224) rfl) rfl
set_option maxRecDepth 100000 in
theorem cw_238 : Cond.code ⟨"AyeJarsModel", "house", "()I"⟩ prog_14_method_18_code 2 (some .int) ∈ TG := ch_7 (List.mem_of_getElem? (i := 50) rfl) rfl
set_option maxRecDepth 100000 in
theorem cw_239 : Cond.code ⟨"AyeJarsModel", "startAnew", "()V"⟩ prog_14_method_53_code 2 (none) ∈ TG := ch_6 (List.mem_of_getElem? (i := 87) rfl) rfl
set_option maxRecDepth 100000 in
theorem cw_240 : Cond.code ⟨"AyeJarsModel", "isGood", "()Z"⟩ prog_14_method_6_code 1 (some .boolean) ∈ TG := ch_7 (List.mem_of_getElem? (i := 92) rfl) rfl
set_option maxRecDepth 100000 in
theorem cw_241 : Cond.code ⟨"AyeJarsModel", "readLine", "()V"⟩ prog_14_method_20_code 3 (none) ∈ TG := ch_7 (List.mem_of_getElem? (i := 96) rfl) rfl
set_option maxRecDepth 100000 in
theorem cw_242 : Cond.code ⟨"AyeJarsModel", "must", "(Z)V"⟩ prog_14_method_13_code 2 (none) ∈ TG := ch_7 (List.mem_of_getElem? (i := 132) rfl) rfl
set_option maxRecDepth 100000 in
theorem cw_243 : Cond.code ⟨"AyeJarsModel", "misplaced", "()V"⟩ prog_14_method_12_code 1 (none) ∈ TG := ch_7 (List.mem_of_getElem? (i := 108) rfl) rfl
set_option maxRecDepth 100000 in
theorem cw_244 : Cond.code ⟨"AyeJarsModel", "fails", "(II)V"⟩ prog_14_method_5_code 3 (none) ∈ TG := ch_7 (List.mem_of_getElem? (i := 112) rfl) rfl
set_option maxRecDepth 100000 in
theorem cw_245 : Cond.code ⟨"AyeJarsModel", "goOn", "()V"⟩ prog_14_method_9_code 3 (none) ∈ TG := ch_7 (List.mem_of_getElem? (i := 54) rfl) rfl
set_option maxRecDepth 100000 in
theorem cw_246 : Cond.code ⟨"AyeJarsModel", "isSign", "(I)Z"⟩ prog_14_method_8_code 1 (some .boolean) ∈ TG := ch_7 (List.mem_of_getElem? (i := 88) rfl) rfl
set_option maxRecDepth 100000 in
theorem cw_247 : Cond.code ⟨"AyeJarsModel", "sign", "(I)I"⟩ prog_14_method_2_code 2 (some .int) ∈ TG := ch_7 (List.mem_of_getElem? (i := 58) rfl) rfl
set_option maxRecDepth 100000 in
theorem cw_248 : Cond.code ⟨"AyeJarsModel", "isDigit", "(I)Z"⟩ prog_14_method_4_code 1 (some .boolean) ∈ TG := ch_7 (List.mem_of_getElem? (i := 85) rfl) rfl
set_option maxRecDepth 100000 in
theorem cw_249 : Cond.code ⟨"AyeJarsModel", "isKept", "(J)Z"⟩ prog_14_method_7_code 3 (some .boolean) ∈ TG := ch_7 (List.mem_of_getElem? (i := 64) rfl) rfl
set_option maxRecDepth 100000 in
theorem cw_250 : Cond.code ⟨"AyeJarsModel", "isSignHere", "(I)Z"⟩ prog_14_method_10_code 2 (some .boolean) ∈ TG := ch_7 (List.mem_of_getElem? (i := 164) rfl) rfl
set_option maxRecDepth 100000 in
theorem cw_251 : Cond.code ⟨"AyeJarsModel", "numeral", "(II)I"⟩ prog_14_method_14_code 4 (some .int) ∈ TG := ch_7 (List.mem_of_getElem? (i := 136) rfl) rfl
set_option maxRecDepth 100000 in
theorem cw_252 : Cond.code ⟨"AyeJarsModel", "readRule", "(I)V"⟩ prog_14_method_25_code 2 (none) ∈ TG := ch_7 (List.mem_of_getElem? (i := 148) rfl) rfl
set_option maxRecDepth 100000 in
theorem cw_253 : Cond.code ⟨"AyeJarsModel", "e", "()V"⟩ prog_14_method_28_code 2 (none) ∈ TG := ch_7 (List.mem_of_getElem? (i := 152) rfl) rfl
set_option maxRecDepth 100000 in
theorem cw_254 : Cond.code ⟨"AyeJarsModel", "behindUnit", "()Z"⟩ prog_14_method_33_code 2 (some .boolean) ∈ TG := ch_7 (List.mem_of_getElem? (i := 176) rfl) rfl
set_option maxRecDepth 100000 in
theorem cw_255 : Cond.code ⟨"AyeJarsModel", "pushE", "(II)V"⟩ prog_14_method_27_code 3 (none) ∈ TG := ch_7 (List.mem_of_getElem? (i := 156) rfl) rfl
set_option maxRecDepth 100000 in
theorem cw_256 : Cond.code ⟨"AyeJarsModel", "emit", "(II)V"⟩ prog_14_method_26_code 3 (none) ∈ TG := ch_7 (List.mem_of_getElem? (i := 172) rfl) rfl
set_option maxRecDepth 100000 in
theorem cw_257 : Cond.code ⟨"AyeJarsModel", "isCompared", "()Z"⟩ prog_14_method_32_code 2 (some .boolean) ∈ TG := ch_7 (List.mem_of_getElem? (i := 184) rfl) rfl
set_option maxRecDepth 100000 in
theorem cw_258 : Cond.code ⟨"AyeJarsModel", "rankHere", "()I"⟩ prog_14_method_31_code 1 (some .int) ∈ TG := ch_7 (List.mem_of_getElem? (i := 180) rfl) rfl
set_option maxRecDepth 100000 in
theorem cw_259 : Cond.code ⟨"AyeJarsModel", "isWord", "(J)Z"⟩ prog_14_method_11_code 3 (some .boolean) ∈ TG := ch_7 (List.mem_of_getElem? (i := 104) rfl) rfl
set_option maxRecDepth 100000 in
theorem cw_260 : Cond.code ⟨"AyeJarsModel", "unit", "()Z"⟩ prog_14_method_30_code 7 (some .boolean) ∈ TG := ch_7 (List.mem_of_getElem? (i := 160) rfl) rfl
set_option maxRecDepth 100000 in
theorem cw_261 : Cond.code ⟨"AyeJarsModel", "wordHere", "()I"⟩ prog_14_method_29_code 1 (some .int) ∈ TG := ch_7 (List.mem_of_getElem? (i := 168) rfl) rfl
set_option maxRecDepth 100000 in
theorem cw_262 : Cond.code ⟨"AyeJarsModel", "readBill", "()V"⟩ prog_14_method_24_code 2 (none) ∈ TG := ch_7 (List.mem_of_getElem? (i := 144) rfl) rfl
set_option maxRecDepth 100000 in
theorem cw_263 : Cond.code ⟨"AyeJarsModel", "perhaps", "(JI)I"⟩ prog_14_method_16_code 4 (some .int) ∈ TG := ch_7 (List.mem_of_getElem? (i := 140) rfl) rfl
set_option maxRecDepth 100000 in
theorem cw_264 : Cond.code ⟨"AyeJarsModel", "after", "(JII)I"⟩ prog_14_method_15_code 5 (some .int) ∈ TG := ch_7 (List.mem_of_getElem? (i := 128) rfl) rfl
set_option maxRecDepth 100000 in
theorem cw_265 : Cond.code ⟨"AyeJarsModel", "fresh", "(I)J"⟩ prog_14_method_22_code 4 (some .long) ∈ TG := ch_7 (List.mem_of_getElem? (i := 124) rfl) rfl
set_option maxRecDepth 100000 in
theorem cw_266 : Cond.code ⟨"AyeJarsModel", "here", "([JII)I"⟩ prog_14_method_21_code 5 (some .int) ∈ TG := ch_7 (List.mem_of_getElem? (i := 120) rfl) rfl
set_option maxRecDepth 100000 in
theorem cw_267 : Cond.code ⟨"AyeJarsModel", "readMember", "()V"⟩ prog_14_method_23_code 2 (none) ∈ TG := ch_7 (List.mem_of_getElem? (i := 116) rfl) rfl
set_option maxRecDepth 100000 in
theorem cw_268 : Cond.code ⟨"AyeJarsModel", "isFull", "()Z"⟩ prog_14_method_19_code 1 (some .boolean) ∈ TG := ch_7 (List.mem_of_getElem? (i := 100) rfl) rfl
set_option maxRecDepth 100000 in
theorem cw_269 : Cond.code ⟨"AyeJarsModel", "clearBank", "()V"⟩ prog_14_method_17_code 1 (none) ∈ TG := ch_6 (List.mem_of_getElem? (i := 83) rfl) rfl
set_option maxRecDepth 100000 in
theorem cw_270 : Cond.code ⟨"AyeJars", "house", "()I"⟩ prog_1_method_4_code 2 (some .int) ∈ TG := ch_2 (List.mem_of_getElem? (i := 239) rfl) rfl
set_option maxRecDepth 100000 in
theorem cw_271 : Cond.code ⟨"AyeJars$Nose", "forget", "()V"⟩ prog_9_method_2_code 1 (none) ∈ TG := ch_3 (List.mem_of_getElem? (i := 216) rfl) rfl
set_option maxRecDepth 100000 in
theorem cw_272 : Cond.code ⟨"AyeJars$Jars", "layOut", "(LAyeJars$House;)V"⟩ prog_8_method_7_code 3 (none) ∈ TG := ch_3 (List.mem_of_getElem? (i := 178) rfl) rfl
set_option maxRecDepth 100000 in
theorem cw_273 : Cond.code ⟨"AyeJars$House", "shelfOf", "(I)I"⟩ prog_7_method_11_code 2 (some .int) ∈ TG := ch_3 (List.mem_of_getElem? (i := 185) rfl) rfl
set_option maxRecDepth 100000 in
theorem cw_274 : Cond.code ⟨"AyeJars$House", "copyFrom", "(LAyeJars$House;)V"⟩ prog_7_method_3_code 2 (none) ∈ TG := ch_3 (List.mem_of_getElem? (i := 166) rfl) rfl
set_option maxRecDepth 100000 in
theorem cw_275 : Cond.code ⟨"AyeJars$Formula", "copyFrom", "(LAyeJars$Formula;)V"⟩ prog_6_method_3_code 2 (none) ∈ TG := ch_3 (List.mem_of_getElem? (i := 173) rfl) rfl
set_option maxRecDepth 100000 in
theorem cw_276 : Cond.code ⟨"AyeJars$Reader", "readHouse", "()Z"⟩ prog_10_method_2_code 3 (some .boolean) ∈ TG := ch_3 (List.mem_of_getElem? (i := 3) rfl) rfl
set_option maxRecDepth 100000 in
theorem cw_277 : Cond.code ⟨"AyeJars$Reader", "readToken", "(I)Z"⟩ prog_10_method_9_code 2 (some .boolean) ∈ TG := ch_3 (List.mem_of_getElem? (i := 154) rfl) rfl
set_option maxRecDepth 100000 in
theorem cw_278 : Cond.code ⟨"AyeJars$Tokens", "advance", "()V"⟩ prog_11_method_5_code 2 (none) ∈ TG := ch_3 (List.mem_of_getElem? (i := 19) rfl) rfl
set_option maxRecDepth 100000 in
theorem cw_279 : Cond.code ⟨"AyeJars$Tokens", "isSign", "(I)Z"⟩ prog_11_method_12_code 1 (some .boolean) ∈ TG := ch_3 (List.mem_of_getElem? (i := 93) rfl) rfl
set_option maxRecDepth 100000 in
theorem cw_280 : Cond.code ⟨"AyeJars$Tokens", "takeNumber", "()V"⟩ prog_11_method_9_code 2 (none) ∈ TG := ch_3 (List.mem_of_getElem? (i := 90) rfl) rfl
set_option maxRecDepth 100000 in
theorem cw_281 : Cond.code ⟨"AyeJars$Tokens", "isLetter", "(I)Z"⟩ prog_11_method_10_code 1 (some .boolean) ∈ TG := ch_3 (List.mem_of_getElem? (i := 26) rfl) rfl
set_option maxRecDepth 100000 in
theorem cw_282 : Cond.code ⟨"AyeJars$Tokens", "byteAt", "(I)I"⟩ prog_11_method_6_code 2 (some .int) ∈ TG := ch_3 (List.mem_of_getElem? (i := 23) rfl) rfl
set_option maxRecDepth 100000 in
theorem cw_283 : Cond.code ⟨"AyeJars$Tokens", "isDigit", "(I)Z"⟩ prog_11_method_11_code 1 (some .boolean) ∈ TG := ch_3 (List.mem_of_getElem? (i := 86) rfl) rfl
set_option maxRecDepth 100000 in
theorem cw_284 : Cond.code ⟨"AyeJars$Tokens", "takeWord", "()V"⟩ prog_11_method_7_code 1 (none) ∈ TG := ch_3 (List.mem_of_getElem? (i := 30) rfl) rfl
set_option maxRecDepth 100000 in
theorem cw_285 : Cond.code ⟨"AyeJars$Tokens", "tokenOf", "(J)I"⟩ prog_11_method_8_code 6 (some .int) ∈ TG := ch_3 (List.mem_of_getElem? (i := 34) rfl) rfl
set_option maxRecDepth 100000 in
theorem cw_286 : Cond.code ⟨"AyeJars$Reader", "refuse", "(I)Z"⟩ prog_10_method_3_code 2 (some .boolean) ∈ TG := ch_3 (List.mem_of_getElem? (i := 101) rfl) rfl
set_option maxRecDepth 100000 in
theorem cw_287 : Cond.code ⟨"AyeJars$Reader", "readDraw", "()Z"⟩ prog_10_method_8_code 1 (some .boolean) ∈ TG := ch_3 (List.mem_of_getElem? (i := 162) rfl) rfl
set_option maxRecDepth 100000 in
theorem cw_288 : Cond.code ⟨"AyeJars$Reader", "readPart", "(III)Z"⟩ prog_10_method_11_code 4 (some .boolean) ∈ TG := ch_3 (List.mem_of_getElem? (i := 110) rfl) rfl
set_option maxRecDepth 100000 in
theorem cw_289 : Cond.code ⟨"AyeJars$Reader", "readYawn", "()Z"⟩ prog_10_method_7_code 1 (some .boolean) ∈ TG := ch_3 (List.mem_of_getElem? (i := 158) rfl) rfl
set_option maxRecDepth 100000 in
theorem cw_290 : Cond.code ⟨"AyeJars$Reader", "readFade", "()Z"⟩ prog_10_method_6_code 1 (some .boolean) ∈ TG := ch_3 (List.mem_of_getElem? (i := 118) rfl) rfl
set_option maxRecDepth 100000 in
theorem cw_291 : Cond.code ⟨"AyeJars$Reader", "readEither", "(I)Z"⟩ prog_10_method_13_code 4 (some .boolean) ∈ TG := ch_3 (List.mem_of_getElem? (i := 122) rfl) rfl
set_option maxRecDepth 100000 in
theorem cw_292 : Cond.code ⟨"AyeJars$Reader", "write", "(I)Z"⟩ prog_10_method_12_code 2 (some .boolean) ∈ TG := ch_3 (List.mem_of_getElem? (i := 134) rfl) rfl
set_option maxRecDepth 100000 in
theorem cw_293 : Cond.code ⟨"AyeJars$Formula", "append", "(II)Z"⟩ prog_6_method_4_code 3 (some .boolean) ∈ TG := ch_3 (List.mem_of_getElem? (i := 138) rfl) rfl
set_option maxRecDepth 100000 in
theorem cw_294 : Cond.code ⟨"AyeJars$Reader", "readBoth", "(I)Z"⟩ prog_10_method_14_code 4 (some .boolean) ∈ TG := ch_3 (List.mem_of_getElem? (i := 126) rfl) rfl
set_option maxRecDepth 100000 in
theorem cw_295 : Cond.code ⟨"AyeJars$Reader", "readOne", "(I)Z"⟩ prog_10_method_15_code 4 (some .boolean) ∈ TG := ch_3 (List.mem_of_getElem? (i := 130) rfl) rfl
set_option maxRecDepth 100000 in
theorem cw_296 : Cond.code ⟨"AyeJars$Reader", "readSum", "(I)Z"⟩ prog_10_method_16_code 5 (some .boolean) ∈ TG := ch_3 (List.mem_of_getElem? (i := 142) rfl) rfl
set_option maxRecDepth 100000 in
theorem cw_297 : Cond.code ⟨"AyeJars$Reader", "readTerm", "(I)Z"⟩ prog_10_method_17_code 5 (some .boolean) ∈ TG := ch_3 (List.mem_of_getElem? (i := 146) rfl) rfl
set_option maxRecDepth 100000 in
theorem cw_298 : Cond.code ⟨"AyeJars$Reader", "readUnit", "(I)Z"⟩ prog_10_method_18_code 6 (some .boolean) ∈ TG := ch_3 (List.mem_of_getElem? (i := 150) rfl) rfl
set_option maxRecDepth 100000 in
theorem cw_299 : Cond.code ⟨"AyeJars$Reader", "readBill", "()Z"⟩ prog_10_method_5_code 2 (some .boolean) ∈ TG := ch_3 (List.mem_of_getElem? (i := 114) rfl) rfl
set_option maxRecDepth 100000 in
theorem cw_300 : Cond.code ⟨"AyeJars$Reader", "readName", "([JI)Z"⟩ prog_10_method_10_code 4 (some .boolean) ∈ TG := ch_3 (List.mem_of_getElem? (i := 106) rfl) rfl
set_option maxRecDepth 100000 in
theorem cw_301 : Cond.code ⟨"AyeJars$Reader", "readMember", "()Z"⟩ prog_10_method_4_code 2 (some .boolean) ∈ TG := ch_3 (List.mem_of_getElem? (i := 97) rfl) rfl
set_option maxRecDepth 100000 in
theorem cw_302 : Cond.code ⟨"AyeJars$Tokens", "start", "()V"⟩ prog_11_method_4_code 1 (none) ∈ TG := ch_3 (List.mem_of_getElem? (i := 15) rfl) rfl
set_option maxRecDepth 100000 in
theorem cw_303 : Cond.code ⟨"AyeJars$House", "clear", "()V"⟩ prog_7_method_2_code 1 (none) ∈ TG := ch_3 (List.mem_of_getElem? (i := 7) rfl) rfl
set_option maxRecDepth 100000 in
theorem cw_304 : Cond.code ⟨"AyeJars$Formula", "clear", "()V"⟩ prog_6_method_2_code 1 (none) ∈ TG := ch_3 (List.mem_of_getElem? (i := 11) rfl) rfl
set_option maxRecDepth 100000 in
theorem cw_305 : Cond.code ⟨"AyeJarsModel", "end", "(I)I"⟩ prog_14_method_135_code 2 (some .int) ∈ TG := ch_9 (List.mem_of_getElem? (i := 101) rfl) rfl
set_option maxRecDepth 100000 in
theorem cw_306 : Cond.code ⟨"AyeJars", "end", "(I)I"⟩ prog_1_method_3_code 2 (some .int) ∈ TG := ch_2 (List.mem_of_getElem? (i := 235) rfl) rfl
set_option maxRecDepth 100000 in
theorem cw_307 : Cond.code ⟨"AyeJarsModel", "feed", "(IIIII)I"⟩ prog_14_method_134_code 8 (some .int) ∈ TG := ch_9 (List.mem_of_getElem? (i := 97) rfl) rfl
set_option maxRecDepth 100000 in
theorem cw_308 : Cond.code ⟨"AyeJars", "feed", "(IIIII)I"⟩ prog_1_method_2_code 6 (some .int) ∈ TG := ch_2 (List.mem_of_getElem? (i := 223) rfl) rfl
set_option maxRecDepth 100000 in
theorem cw_309 : Cond.code ⟨"AyeJars$Tokens", "append", "(I)V"⟩ prog_11_method_3_code 3 (none) ∈ TG := ch_2 (List.mem_of_getElem? (i := 231) rfl) rfl
set_option maxRecDepth 100000 in
theorem cw_310 : Cond.code ⟨"AyeJars$Tokens", "hasRoom", "(I)Z"⟩ prog_11_method_2_code 2 (some .boolean) ∈ TG := ch_2 (List.mem_of_getElem? (i := 227) rfl) rfl
set_option maxRecDepth 100000 in
theorem cw_311 : Cond.code ⟨"AyeJarsModel", "<init>", "()V"⟩ prog_14_method_1_code 1 (none) ∈ TG := ch_6 (List.mem_of_getElem? (i := 78) rfl) rfl
set_option maxRecDepth 100000 in
theorem cw_312 : Cond.code ⟨"AyeJars", "<init>", "()V"⟩ prog_1_method_1_code 2 (none) ∈ TG := ch_1 (List.mem_of_getElem? (i := 27) rfl) rfl
set_option maxRecDepth 100000 in
theorem cw_313 : Cond.code ⟨"AyeJars$Nose", "<init>", "(LAyeJars$House;LAyeJars$Trial;)V"⟩ prog_9_method_1_code 3 (none) ∈ TG := ch_2 (List.mem_of_getElem? (i := 141) rfl) rfl
set_option maxRecDepth 100000 in
theorem cw_314 : Cond.code ⟨"AyeJars$Choices", "<init>", "(LAyeJars$House;LAyeJars$Jars;LAyeJars$Trial;LAyeJars$Ahead;)V"⟩ prog_5_method_1_code 6 (none) ∈ TG := ch_2 (List.mem_of_getElem? (i := 85) rfl) rfl
set_option maxRecDepth 100000 in
theorem cw_315 : Cond.code ⟨"AyeJars$Trial", "<init>", "(LAyeJars$House;)V"⟩ prog_12_method_1_code 2 (none) ∈ TG := ch_2 (List.mem_of_getElem? (i := 7) rfl) rfl
set_option maxRecDepth 100000 in
theorem cw_316 : Cond.code ⟨"AyeJars$Chances", "<init>", "(LAyeJars$House;LAyeJars$Jars;LAyeJars$Trial;LAyeJars$Ahead;)V"⟩ prog_4_method_1_code 5 (none) ∈ TG := ch_2 (List.mem_of_getElem? (i := 60) rfl) rfl
set_option maxRecDepth 100000 in
theorem cw_317 : Cond.code ⟨"AyeJars$Ahead", "<init>", "(LAyeJars$House;LAyeJars$Jars;LAyeJars$Trial;)V"⟩ prog_3_method_1_code 4 (none) ∈ TG := ch_2 (List.mem_of_getElem? (i := 44) rfl) rfl
set_option maxRecDepth 100000 in
theorem cw_318 : Cond.code ⟨"AyeJars$Acts", "<init>", "()V"⟩ prog_2_method_1_code 2 (none) ∈ TG := ch_1 (List.mem_of_getElem? (i := 225) rfl) rfl
set_option maxRecDepth 100000 in
theorem cw_319 : Cond.code ⟨"AyeJars$Jars", "<init>", "()V"⟩ prog_8_method_1_code 1 (none) ∈ TG := ch_1 (List.mem_of_getElem? (i := 198) rfl) rfl
set_option maxRecDepth 100000 in
theorem cw_320 : Cond.code ⟨"AyeJars$Reader", "<init>", "(LAyeJars$Tokens;LAyeJars$House;)V"⟩ prog_10_method_1_code 3 (none) ∈ TG := ch_1 (List.mem_of_getElem? (i := 161) rfl) rfl
set_option maxRecDepth 100000 in
theorem cw_321 : Cond.code ⟨"AyeJars$House", "<init>", "()V"⟩ prog_7_method_1_code 1 (none) ∈ TG := ch_1 (List.mem_of_getElem? (i := 69) rfl) rfl
set_option maxRecDepth 100000 in
theorem cw_322 : Cond.code ⟨"AyeJars$Formula", "<init>", "()V"⟩ prog_6_method_1_code 1 (none) ∈ TG := ch_1 (List.mem_of_getElem? (i := 75) rfl) rfl
set_option maxRecDepth 100000 in
theorem cw_323 : Cond.code ⟨"AyeJars$Tokens", "<init>", "()V"⟩ prog_11_method_1_code 1 (none) ∈ TG := ch_1 (List.mem_of_getElem? (i := 35) rfl) rfl
set_option maxRecDepth 1000000 in
theorem cwAll : ∀ q ∈ tM.zip tY, Cond.code q.2 (mBy q.1) (mLoc q.1) (mRet q.1) ∈ TG := List.forall_mem_cons.mpr ⟨cw_0, List.forall_mem_cons.mpr ⟨cw_1, List.forall_mem_cons.mpr ⟨cw_2, List.forall_mem_cons.mpr ⟨cw_3, List.forall_mem_cons.mpr ⟨cw_4, List.forall_mem_cons.mpr ⟨cw_5, List.forall_mem_cons.mpr ⟨cw_6, List.forall_mem_cons.mpr ⟨cw_7, List.forall_mem_cons.mpr ⟨cw_8, List.forall_mem_cons.mpr ⟨cw_9, List.forall_mem_cons.mpr ⟨cw_10, List.forall_mem_cons.mpr ⟨cw_11, List.forall_mem_cons.mpr ⟨cw_12, List.forall_mem_cons.mpr ⟨cw_13, List.forall_mem_cons.mpr ⟨cw_14, List.forall_mem_cons.mpr ⟨cw_15, List.forall_mem_cons.mpr ⟨cw_16, List.forall_mem_cons.mpr ⟨cw_17, List.forall_mem_cons.mpr ⟨cw_18, List.forall_mem_cons.mpr ⟨cw_19, List.forall_mem_cons.mpr ⟨cw_20, List.forall_mem_cons.mpr ⟨cw_21, List.forall_mem_cons.mpr ⟨cw_22, List.forall_mem_cons.mpr ⟨cw_23, List.forall_mem_cons.mpr ⟨cw_24, List.forall_mem_cons.mpr ⟨cw_25, List.forall_mem_cons.mpr ⟨cw_26, List.forall_mem_cons.mpr ⟨cw_27, List.forall_mem_cons.mpr ⟨cw_28, List.forall_mem_cons.mpr ⟨cw_29, List.forall_mem_cons.mpr ⟨cw_30, List.forall_mem_cons.mpr ⟨cw_31, List.forall_mem_cons.mpr ⟨cw_32, List.forall_mem_cons.mpr ⟨cw_33, List.forall_mem_cons.mpr ⟨cw_34, List.forall_mem_cons.mpr ⟨cw_35, List.forall_mem_cons.mpr ⟨cw_36, List.forall_mem_cons.mpr ⟨cw_37, List.forall_mem_cons.mpr ⟨cw_38, List.forall_mem_cons.mpr ⟨cw_39, List.forall_mem_cons.mpr ⟨cw_40, List.forall_mem_cons.mpr ⟨cw_41, List.forall_mem_cons.mpr ⟨cw_42, List.forall_mem_cons.mpr ⟨cw_43, List.forall_mem_cons.mpr ⟨cw_44, List.forall_mem_cons.mpr ⟨cw_45, List.forall_mem_cons.mpr ⟨cw_46, List.forall_mem_cons.mpr ⟨cw_47, List.forall_mem_cons.mpr ⟨cw_48, List.forall_mem_cons.mpr ⟨cw_49, List.forall_mem_cons.mpr ⟨cw_50, List.forall_mem_cons.mpr ⟨cw_51, List.forall_mem_cons.mpr ⟨cw_52, List.forall_mem_cons.mpr ⟨cw_53, List.forall_mem_cons.mpr ⟨cw_54, List.forall_mem_cons.mpr ⟨cw_55, List.forall_mem_cons.mpr ⟨cw_56, List.forall_mem_cons.mpr ⟨cw_57, List.forall_mem_cons.mpr ⟨cw_58, List.forall_mem_cons.mpr ⟨cw_59, List.forall_mem_cons.mpr ⟨cw_60, List.forall_mem_cons.mpr ⟨cw_61, List.forall_mem_cons.mpr ⟨cw_62, List.forall_mem_cons.mpr ⟨cw_63, List.forall_mem_cons.mpr ⟨cw_64, List.forall_mem_cons.mpr ⟨cw_65, List.forall_mem_cons.mpr ⟨cw_66, List.forall_mem_cons.mpr ⟨cw_67, List.forall_mem_cons.mpr ⟨cw_68, List.forall_mem_cons.mpr ⟨cw_69, List.forall_mem_cons.mpr ⟨cw_70, List.forall_mem_cons.mpr ⟨cw_71, List.forall_mem_cons.mpr ⟨cw_72, List.forall_mem_cons.mpr ⟨cw_73, List.forall_mem_cons.mpr ⟨cw_74, List.forall_mem_cons.mpr ⟨cw_75, List.forall_mem_cons.mpr ⟨cw_76, List.forall_mem_cons.mpr ⟨cw_77, List.forall_mem_cons.mpr ⟨cw_78, List.forall_mem_cons.mpr ⟨cw_79, List.forall_mem_cons.mpr ⟨cw_80, List.forall_mem_cons.mpr ⟨cw_81, List.forall_mem_cons.mpr ⟨cw_82, List.forall_mem_cons.mpr ⟨cw_83, List.forall_mem_cons.mpr ⟨cw_84, List.forall_mem_cons.mpr ⟨cw_85, List.forall_mem_cons.mpr ⟨cw_86, List.forall_mem_cons.mpr ⟨cw_87, List.forall_mem_cons.mpr ⟨cw_88, List.forall_mem_cons.mpr ⟨cw_89, List.forall_mem_cons.mpr ⟨cw_90, List.forall_mem_cons.mpr ⟨cw_91, List.forall_mem_cons.mpr ⟨cw_92, List.forall_mem_cons.mpr ⟨cw_93, List.forall_mem_cons.mpr ⟨cw_94, List.forall_mem_cons.mpr ⟨cw_95, List.forall_mem_cons.mpr ⟨cw_96, List.forall_mem_cons.mpr ⟨cw_97, List.forall_mem_cons.mpr ⟨cw_98, List.forall_mem_cons.mpr ⟨cw_99, List.forall_mem_cons.mpr ⟨cw_100, List.forall_mem_cons.mpr ⟨cw_101, List.forall_mem_cons.mpr ⟨cw_102, List.forall_mem_cons.mpr ⟨cw_103, List.forall_mem_cons.mpr ⟨cw_104, List.forall_mem_cons.mpr ⟨cw_105, List.forall_mem_cons.mpr ⟨cw_106, List.forall_mem_cons.mpr ⟨cw_107, List.forall_mem_cons.mpr ⟨cw_108, List.forall_mem_cons.mpr ⟨cw_109, List.forall_mem_cons.mpr ⟨cw_110, List.forall_mem_cons.mpr ⟨cw_111, List.forall_mem_cons.mpr ⟨cw_112, List.forall_mem_cons.mpr ⟨cw_113, List.forall_mem_cons.mpr ⟨cw_114, List.forall_mem_cons.mpr ⟨cw_115, List.forall_mem_cons.mpr ⟨cw_116, List.forall_mem_cons.mpr ⟨cw_117, List.forall_mem_cons.mpr ⟨cw_118, List.forall_mem_cons.mpr ⟨cw_119, List.forall_mem_cons.mpr ⟨cw_120, List.forall_mem_cons.mpr ⟨cw_121, List.forall_mem_cons.mpr ⟨cw_122, List.forall_mem_cons.mpr ⟨cw_123, List.forall_mem_cons.mpr ⟨cw_124, List.forall_mem_cons.mpr ⟨cw_125, List.forall_mem_cons.mpr ⟨cw_126, List.forall_mem_cons.mpr ⟨cw_127, List.forall_mem_cons.mpr ⟨cw_128, List.forall_mem_cons.mpr ⟨cw_129, List.forall_mem_cons.mpr ⟨cw_130, List.forall_mem_cons.mpr ⟨cw_131, List.forall_mem_cons.mpr ⟨cw_132, List.forall_mem_cons.mpr ⟨cw_133, List.forall_mem_cons.mpr ⟨cw_134, List.forall_mem_cons.mpr ⟨cw_135, List.forall_mem_cons.mpr ⟨cw_136, List.forall_mem_cons.mpr ⟨cw_137, List.forall_mem_cons.mpr ⟨cw_138, List.forall_mem_cons.mpr ⟨cw_139, List.forall_mem_cons.mpr ⟨cw_140, List.forall_mem_cons.mpr ⟨cw_141, List.forall_mem_cons.mpr ⟨cw_142, List.forall_mem_cons.mpr ⟨cw_143, List.forall_mem_cons.mpr ⟨cw_144, List.forall_mem_cons.mpr ⟨cw_145, List.forall_mem_cons.mpr ⟨cw_146, List.forall_mem_cons.mpr ⟨cw_147, List.forall_mem_cons.mpr ⟨cw_148, List.forall_mem_cons.mpr ⟨cw_149, List.forall_mem_cons.mpr ⟨cw_150, List.forall_mem_cons.mpr ⟨cw_151, List.forall_mem_cons.mpr ⟨cw_152, List.forall_mem_cons.mpr ⟨cw_153, List.forall_mem_cons.mpr ⟨cw_154, List.forall_mem_cons.mpr ⟨cw_155, List.forall_mem_cons.mpr ⟨cw_156, List.forall_mem_cons.mpr ⟨cw_157, List.forall_mem_cons.mpr ⟨cw_158, List.forall_mem_cons.mpr ⟨cw_159, List.forall_mem_cons.mpr ⟨cw_160, List.forall_mem_cons.mpr ⟨cw_161, List.forall_mem_cons.mpr ⟨cw_162, List.forall_mem_cons.mpr ⟨cw_163, List.forall_mem_cons.mpr ⟨cw_164, List.forall_mem_cons.mpr ⟨cw_165, List.forall_mem_cons.mpr ⟨cw_166, List.forall_mem_cons.mpr ⟨cw_167, List.forall_mem_cons.mpr ⟨cw_168, List.forall_mem_cons.mpr ⟨cw_169, List.forall_mem_cons.mpr ⟨cw_170, List.forall_mem_cons.mpr ⟨cw_171, List.forall_mem_cons.mpr ⟨cw_172, List.forall_mem_cons.mpr ⟨cw_173, List.forall_mem_cons.mpr ⟨cw_174, List.forall_mem_cons.mpr ⟨cw_175, List.forall_mem_cons.mpr ⟨cw_176, List.forall_mem_cons.mpr ⟨cw_177, List.forall_mem_cons.mpr ⟨cw_178, List.forall_mem_cons.mpr ⟨cw_179, List.forall_mem_cons.mpr ⟨cw_180, List.forall_mem_cons.mpr ⟨cw_181, List.forall_mem_cons.mpr ⟨cw_182, List.forall_mem_cons.mpr ⟨cw_183, List.forall_mem_cons.mpr ⟨cw_184, List.forall_mem_cons.mpr ⟨cw_185, List.forall_mem_cons.mpr ⟨cw_186, List.forall_mem_cons.mpr ⟨cw_187, List.forall_mem_cons.mpr ⟨cw_188, List.forall_mem_cons.mpr ⟨cw_189, List.forall_mem_cons.mpr ⟨cw_190, List.forall_mem_cons.mpr ⟨cw_191, List.forall_mem_cons.mpr ⟨cw_192, List.forall_mem_cons.mpr ⟨cw_193, List.forall_mem_cons.mpr ⟨cw_194, List.forall_mem_cons.mpr ⟨cw_195, List.forall_mem_cons.mpr ⟨cw_196, List.forall_mem_cons.mpr ⟨cw_197, List.forall_mem_cons.mpr ⟨cw_198, List.forall_mem_cons.mpr ⟨cw_199, List.forall_mem_cons.mpr ⟨cw_200, List.forall_mem_cons.mpr ⟨cw_201, List.forall_mem_cons.mpr ⟨cw_202, List.forall_mem_cons.mpr ⟨cw_203, List.forall_mem_cons.mpr ⟨cw_204, List.forall_mem_cons.mpr ⟨cw_205, List.forall_mem_cons.mpr ⟨cw_206, List.forall_mem_cons.mpr ⟨cw_207, List.forall_mem_cons.mpr ⟨cw_208, List.forall_mem_cons.mpr ⟨cw_209, List.forall_mem_cons.mpr ⟨cw_210, List.forall_mem_cons.mpr ⟨cw_211, List.forall_mem_cons.mpr ⟨cw_212, List.forall_mem_cons.mpr ⟨cw_213, List.forall_mem_cons.mpr ⟨cw_214, List.forall_mem_cons.mpr ⟨cw_215, List.forall_mem_cons.mpr ⟨cw_216, List.forall_mem_cons.mpr ⟨cw_217, List.forall_mem_cons.mpr ⟨cw_218, List.forall_mem_cons.mpr ⟨cw_219, List.forall_mem_cons.mpr ⟨cw_220, List.forall_mem_cons.mpr ⟨cw_221, List.forall_mem_cons.mpr ⟨cw_222, List.forall_mem_cons.mpr ⟨cw_223, List.forall_mem_cons.mpr ⟨cw_224, List.forall_mem_cons.mpr ⟨cw_225, List.forall_mem_cons.mpr ⟨cw_226, List.forall_mem_cons.mpr ⟨cw_227, List.forall_mem_cons.mpr ⟨cw_228, List.forall_mem_cons.mpr ⟨cw_229, List.forall_mem_cons.mpr ⟨cw_230, List.forall_mem_cons.mpr ⟨cw_231, List.forall_mem_cons.mpr ⟨cw_232, List.forall_mem_cons.mpr ⟨cw_233, List.forall_mem_cons.mpr ⟨cw_234, List.forall_mem_cons.mpr ⟨cw_235, List.forall_mem_cons.mpr ⟨cw_236, List.forall_mem_cons.mpr ⟨cw_237, List.forall_mem_cons.mpr ⟨cw_238, List.forall_mem_cons.mpr ⟨cw_239, List.forall_mem_cons.mpr ⟨cw_240, List.forall_mem_cons.mpr ⟨cw_241, List.forall_mem_cons.mpr ⟨cw_242, List.forall_mem_cons.mpr ⟨cw_243, List.forall_mem_cons.mpr ⟨cw_244, List.forall_mem_cons.mpr ⟨cw_245, List.forall_mem_cons.mpr ⟨cw_246, List.forall_mem_cons.mpr ⟨cw_247, List.forall_mem_cons.mpr ⟨cw_248, List.forall_mem_cons.mpr ⟨cw_249, List.forall_mem_cons.mpr ⟨cw_250, List.forall_mem_cons.mpr ⟨cw_251, List.forall_mem_cons.mpr ⟨cw_252, List.forall_mem_cons.mpr ⟨cw_253, List.forall_mem_cons.mpr ⟨cw_254, List.forall_mem_cons.mpr ⟨cw_255, List.forall_mem_cons.mpr ⟨cw_256, List.forall_mem_cons.mpr ⟨cw_257, List.forall_mem_cons.mpr ⟨cw_258, List.forall_mem_cons.mpr ⟨cw_259, List.forall_mem_cons.mpr ⟨cw_260, List.forall_mem_cons.mpr ⟨cw_261, List.forall_mem_cons.mpr ⟨cw_262, List.forall_mem_cons.mpr ⟨cw_263, List.forall_mem_cons.mpr ⟨cw_264, List.forall_mem_cons.mpr ⟨cw_265, List.forall_mem_cons.mpr ⟨cw_266, List.forall_mem_cons.mpr ⟨cw_267, List.forall_mem_cons.mpr ⟨cw_268, List.forall_mem_cons.mpr ⟨cw_269, List.forall_mem_cons.mpr ⟨cw_270, List.forall_mem_cons.mpr ⟨cw_271, List.forall_mem_cons.mpr ⟨cw_272, List.forall_mem_cons.mpr ⟨cw_273, List.forall_mem_cons.mpr ⟨cw_274, List.forall_mem_cons.mpr ⟨cw_275, List.forall_mem_cons.mpr ⟨cw_276, List.forall_mem_cons.mpr ⟨cw_277, List.forall_mem_cons.mpr ⟨cw_278, List.forall_mem_cons.mpr ⟨cw_279, List.forall_mem_cons.mpr ⟨cw_280, List.forall_mem_cons.mpr ⟨cw_281, List.forall_mem_cons.mpr ⟨cw_282, List.forall_mem_cons.mpr ⟨cw_283, List.forall_mem_cons.mpr ⟨cw_284, List.forall_mem_cons.mpr ⟨cw_285, List.forall_mem_cons.mpr ⟨cw_286, List.forall_mem_cons.mpr ⟨cw_287, List.forall_mem_cons.mpr ⟨cw_288, List.forall_mem_cons.mpr ⟨cw_289, List.forall_mem_cons.mpr ⟨cw_290, List.forall_mem_cons.mpr ⟨cw_291, List.forall_mem_cons.mpr ⟨cw_292, List.forall_mem_cons.mpr ⟨cw_293, List.forall_mem_cons.mpr ⟨cw_294, List.forall_mem_cons.mpr ⟨cw_295, List.forall_mem_cons.mpr ⟨cw_296, List.forall_mem_cons.mpr ⟨cw_297, List.forall_mem_cons.mpr ⟨cw_298, List.forall_mem_cons.mpr ⟨cw_299, List.forall_mem_cons.mpr ⟨cw_300, List.forall_mem_cons.mpr ⟨cw_301, List.forall_mem_cons.mpr ⟨cw_302, List.forall_mem_cons.mpr ⟨cw_303, List.forall_mem_cons.mpr ⟨cw_304, List.forall_mem_cons.mpr ⟨cw_305, List.forall_mem_cons.mpr ⟨cw_306, List.forall_mem_cons.mpr ⟨cw_307, List.forall_mem_cons.mpr ⟨cw_308, List.forall_mem_cons.mpr ⟨cw_309, List.forall_mem_cons.mpr ⟨cw_310, List.forall_mem_cons.mpr ⟨cw_311, List.forall_mem_cons.mpr ⟨cw_312, List.forall_mem_cons.mpr ⟨cw_313, List.forall_mem_cons.mpr ⟨cw_314, List.forall_mem_cons.mpr ⟨cw_315, List.forall_mem_cons.mpr ⟨cw_316, List.forall_mem_cons.mpr ⟨cw_317, List.forall_mem_cons.mpr ⟨cw_318, List.forall_mem_cons.mpr ⟨cw_319, List.forall_mem_cons.mpr ⟨cw_320, List.forall_mem_cons.mpr ⟨cw_321, List.forall_mem_cons.mpr ⟨cw_322, List.forall_mem_cons.mpr ⟨cw_323, fun _ h => absurd h List.not_mem_nil⟩⟩⟩⟩⟩⟩⟩⟩⟩⟩⟩⟩⟩⟩⟩⟩⟩⟩⟩⟩⟩⟩⟩⟩⟩⟩⟩⟩⟩⟩⟩⟩⟩⟩⟩⟩⟩⟩⟩⟩⟩⟩⟩⟩⟩⟩⟩⟩⟩⟩⟩⟩⟩⟩⟩⟩⟩⟩⟩⟩⟩⟩⟩⟩⟩⟩⟩⟩⟩⟩⟩⟩⟩⟩⟩⟩⟩⟩⟩⟩⟩⟩⟩⟩⟩⟩⟩⟩⟩⟩⟩⟩⟩⟩⟩⟩⟩⟩⟩⟩⟩⟩⟩⟩⟩⟩⟩⟩⟩⟩⟩⟩⟩⟩⟩⟩⟩⟩⟩⟩⟩⟩⟩⟩⟩⟩⟩⟩⟩⟩⟩⟩⟩⟩⟩⟩⟩⟩⟩⟩⟩⟩⟩⟩⟩⟩⟩⟩⟩⟩⟩⟩⟩⟩⟩⟩⟩⟩⟩⟩⟩⟩⟩⟩⟩⟩⟩⟩⟩⟩⟩⟩⟩⟩⟩⟩⟩⟩⟩⟩⟩⟩⟩⟩⟩⟩⟩⟩⟩⟩⟩⟩⟩⟩⟩⟩⟩⟩⟩⟩⟩⟩⟩⟩⟩⟩⟩⟩⟩⟩⟩⟩⟩⟩⟩⟩⟩⟩⟩⟩⟩⟩⟩⟩⟩⟩⟩⟩⟩⟩⟩⟩⟩⟩⟩⟩⟩⟩⟩⟩⟩⟩⟩⟩⟩⟩⟩⟩⟩⟩⟩⟩⟩⟩⟩⟩⟩⟩⟩⟩⟩⟩⟩⟩⟩⟩⟩⟩⟩⟩⟩⟩⟩⟩⟩⟩⟩⟩⟩⟩⟩⟩⟩⟩⟩⟩⟩⟩⟩⟩⟩⟩⟩⟩⟩⟩⟩⟩⟩⟩⟩⟩⟩⟩⟩⟩⟩⟩⟩⟩⟩⟩⟩⟩⟩⟩⟩⟩⟩⟩⟩⟩⟩⟩
