section
-- ===== PART A: goes FIRST, ahead of the names: the tables' words, and 'selects' of the private methods out of them =====
/-- a private method of a class that the tables say can be made, by its rows of tables_1 -/
def lw_okq (q : MethodName × Nat) : Prop := (q.1.cls ≠ "java/lang/invoke/MethodHandle" ∧ q.1.cls ≠ "java/lang/invoke/VarHandle") ∧ Cond.instantiable q.1.cls q.2 ∈ tables_1 ∧ Cond.privateMethod q.1 ∈ tables_1 ∧ Cond.instanceMethod q.1 ∈ tables_1
theorem lw_p0 : lw_okq (⟨"AyeJars$Tokens", "byteAt", "(I)I"⟩, 7) := ⟨⟨by decide +kernel, by decide +kernel⟩, List.mem_of_getElem? (i := 32) (by decide +kernel), List.mem_of_getElem? (i := 501) (by decide +kernel), List.mem_of_getElem? (i := 502) (by decide +kernel)⟩
theorem lw_p1 : lw_okq (⟨"AyeJars$Tokens", "takeWord", "()V"⟩, 7) := ⟨⟨by decide +kernel, by decide +kernel⟩, List.mem_of_getElem? (i := 32) (by decide +kernel), List.mem_of_getElem? (i := 508) (by decide +kernel), List.mem_of_getElem? (i := 509) (by decide +kernel)⟩
theorem lw_p2 : lw_okq (⟨"AyeJars$Tokens", "takeNumber", "()V"⟩, 7) := ⟨⟨by decide +kernel, by decide +kernel⟩, List.mem_of_getElem? (i := 32) (by decide +kernel), List.mem_of_getElem? (i := 568) (by decide +kernel), List.mem_of_getElem? (i := 569) (by decide +kernel)⟩
theorem lw_p3 : lw_okq (⟨"AyeJars$Reader", "readMember", "()Z"⟩, 9) := ⟨⟨by decide +kernel, by decide +kernel⟩, List.mem_of_getElem? (i := 158) (by decide +kernel), List.mem_of_getElem? (i := 575) (by decide +kernel), List.mem_of_getElem? (i := 576) (by decide +kernel)⟩
theorem lw_p4 : lw_okq (⟨"AyeJars$Reader", "refuse", "(I)Z"⟩, 9) := ⟨⟨by decide +kernel, by decide +kernel⟩, List.mem_of_getElem? (i := 158) (by decide +kernel), List.mem_of_getElem? (i := 579) (by decide +kernel), List.mem_of_getElem? (i := 580) (by decide +kernel)⟩
theorem lw_p5 : lw_okq (⟨"AyeJars$Reader", "readName", "([JI)Z"⟩, 9) := ⟨⟨by decide +kernel, by decide +kernel⟩, List.mem_of_getElem? (i := 158) (by decide +kernel), List.mem_of_getElem? (i := 584) (by decide +kernel), List.mem_of_getElem? (i := 585) (by decide +kernel)⟩
theorem lw_p6 : lw_okq (⟨"AyeJars$Reader", "readPart", "(III)Z"⟩, 9) := ⟨⟨by decide +kernel, by decide +kernel⟩, List.mem_of_getElem? (i := 158) (by decide +kernel), List.mem_of_getElem? (i := 588) (by decide +kernel), List.mem_of_getElem? (i := 589) (by decide +kernel)⟩
theorem lw_p7 : lw_okq (⟨"AyeJars$Reader", "readBill", "()Z"⟩, 9) := ⟨⟨by decide +kernel, by decide +kernel⟩, List.mem_of_getElem? (i := 158) (by decide +kernel), List.mem_of_getElem? (i := 592) (by decide +kernel), List.mem_of_getElem? (i := 593) (by decide +kernel)⟩
theorem lw_p8 : lw_okq (⟨"AyeJars$Reader", "readFade", "()Z"⟩, 9) := ⟨⟨by decide +kernel, by decide +kernel⟩, List.mem_of_getElem? (i := 158) (by decide +kernel), List.mem_of_getElem? (i := 596) (by decide +kernel), List.mem_of_getElem? (i := 597) (by decide +kernel)⟩
theorem lw_p9 : lw_okq (⟨"AyeJars$Reader", "readEither", "(I)Z"⟩, 9) := ⟨⟨by decide +kernel, by decide +kernel⟩, List.mem_of_getElem? (i := 158) (by decide +kernel), List.mem_of_getElem? (i := 600) (by decide +kernel), List.mem_of_getElem? (i := 601) (by decide +kernel)⟩
theorem lw_p10 : lw_okq (⟨"AyeJars$Reader", "readBoth", "(I)Z"⟩, 9) := ⟨⟨by decide +kernel, by decide +kernel⟩, List.mem_of_getElem? (i := 158) (by decide +kernel), List.mem_of_getElem? (i := 604) (by decide +kernel), List.mem_of_getElem? (i := 605) (by decide +kernel)⟩
theorem lw_p11 : lw_okq (⟨"AyeJars$Reader", "readOne", "(I)Z"⟩, 9) := ⟨⟨by decide +kernel, by decide +kernel⟩, List.mem_of_getElem? (i := 158) (by decide +kernel), List.mem_of_getElem? (i := 608) (by decide +kernel), List.mem_of_getElem? (i := 609) (by decide +kernel)⟩
theorem lw_p12 : lw_okq (⟨"AyeJars$Reader", "write", "(I)Z"⟩, 9) := ⟨⟨by decide +kernel, by decide +kernel⟩, List.mem_of_getElem? (i := 158) (by decide +kernel), List.mem_of_getElem? (i := 612) (by decide +kernel), List.mem_of_getElem? (i := 613) (by decide +kernel)⟩
theorem lw_p13 : lw_okq (⟨"AyeJars$Reader", "readSum", "(I)Z"⟩, 9) := ⟨⟨by decide +kernel, by decide +kernel⟩, List.mem_of_getElem? (i := 158) (by decide +kernel), List.mem_of_getElem? (i := 620) (by decide +kernel), List.mem_of_getElem? (i := 621) (by decide +kernel)⟩
theorem lw_p14 : lw_okq (⟨"AyeJars$Reader", "readTerm", "(I)Z"⟩, 9) := ⟨⟨by decide +kernel, by decide +kernel⟩, List.mem_of_getElem? (i := 158) (by decide +kernel), List.mem_of_getElem? (i := 624) (by decide +kernel), List.mem_of_getElem? (i := 625) (by decide +kernel)⟩
theorem lw_p15 : lw_okq (⟨"AyeJars$Reader", "readUnit", "(I)Z"⟩, 9) := ⟨⟨by decide +kernel, by decide +kernel⟩, List.mem_of_getElem? (i := 158) (by decide +kernel), List.mem_of_getElem? (i := 628) (by decide +kernel), List.mem_of_getElem? (i := 629) (by decide +kernel)⟩
def lw_privs_1 : List (MethodName × Nat) := [(⟨"AyeJars$Tokens", "byteAt", "(I)I"⟩, 7), (⟨"AyeJars$Tokens", "takeWord", "()V"⟩, 7), (⟨"AyeJars$Tokens", "takeNumber", "()V"⟩, 7), (⟨"AyeJars$Reader", "readMember", "()Z"⟩, 9), (⟨"AyeJars$Reader", "refuse", "(I)Z"⟩, 9), (⟨"AyeJars$Reader", "readName", "([JI)Z"⟩, 9), (⟨"AyeJars$Reader", "readPart", "(III)Z"⟩, 9), (⟨"AyeJars$Reader", "readBill", "()Z"⟩, 9), (⟨"AyeJars$Reader", "readFade", "()Z"⟩, 9), (⟨"AyeJars$Reader", "readEither", "(I)Z"⟩, 9), (⟨"AyeJars$Reader", "readBoth", "(I)Z"⟩, 9), (⟨"AyeJars$Reader", "readOne", "(I)Z"⟩, 9), (⟨"AyeJars$Reader", "write", "(I)Z"⟩, 9), (⟨"AyeJars$Reader", "readSum", "(I)Z"⟩, 9), (⟨"AyeJars$Reader", "readTerm", "(I)Z"⟩, 9), (⟨"AyeJars$Reader", "readUnit", "(I)Z"⟩, 9)]
theorem lw_r1 : ∀ q ∈ lw_privs_1, lw_okq q := List.forall_mem_cons.mpr ⟨lw_p0, List.forall_mem_cons.mpr ⟨lw_p1, List.forall_mem_cons.mpr ⟨lw_p2, List.forall_mem_cons.mpr ⟨lw_p3, List.forall_mem_cons.mpr ⟨lw_p4, List.forall_mem_cons.mpr ⟨lw_p5, List.forall_mem_cons.mpr ⟨lw_p6, List.forall_mem_cons.mpr ⟨lw_p7, List.forall_mem_cons.mpr ⟨lw_p8, List.forall_mem_cons.mpr ⟨lw_p9, List.forall_mem_cons.mpr ⟨lw_p10, List.forall_mem_cons.mpr ⟨lw_p11, List.forall_mem_cons.mpr ⟨lw_p12, List.forall_mem_cons.mpr ⟨lw_p13, List.forall_mem_cons.mpr ⟨lw_p14, List.forall_mem_cons.mpr ⟨lw_p15, fun _ h => absurd h List.not_mem_nil⟩⟩⟩⟩⟩⟩⟩⟩⟩⟩⟩⟩⟩⟩⟩⟩
theorem lw_p16 : lw_okq (⟨"AyeJars$Reader", "readToken", "(I)Z"⟩, 9) := ⟨⟨by decide +kernel, by decide +kernel⟩, List.mem_of_getElem? (i := 158) (by decide +kernel), List.mem_of_getElem? (i := 632) (by decide +kernel), List.mem_of_getElem? (i := 633) (by decide +kernel)⟩
theorem lw_p17 : lw_okq (⟨"AyeJars$Reader", "readYawn", "()Z"⟩, 9) := ⟨⟨by decide +kernel, by decide +kernel⟩, List.mem_of_getElem? (i := 158) (by decide +kernel), List.mem_of_getElem? (i := 636) (by decide +kernel), List.mem_of_getElem? (i := 637) (by decide +kernel)⟩
theorem lw_p18 : lw_okq (⟨"AyeJars$Reader", "readDraw", "()Z"⟩, 9) := ⟨⟨by decide +kernel, by decide +kernel⟩, List.mem_of_getElem? (i := 158) (by decide +kernel), List.mem_of_getElem? (i := 640) (by decide +kernel), List.mem_of_getElem? (i := 641) (by decide +kernel)⟩
theorem lw_p19 : lw_okq (⟨"AyeJars$Acts", "slot", "(I)LAyeJars$Jars;"⟩, 4) := ⟨⟨by decide +kernel, by decide +kernel⟩, List.mem_of_getElem? (i := 222) (by decide +kernel), List.mem_of_getElem? (i := 682) (by decide +kernel), List.mem_of_getElem? (i := 683) (by decide +kernel)⟩
theorem lw_p20 : lw_okq (⟨"AyeJars$Choices", "forcingSets", "(I)J"⟩, 15) := ⟨⟨by decide +kernel, by decide +kernel⟩, List.mem_of_getElem? (i := 322) (by decide +kernel), List.mem_of_getElem? (i := 942) (by decide +kernel), List.mem_of_getElem? (i := 943) (by decide +kernel)⟩
theorem lw_p21 : lw_okq (⟨"AyeJars$Choices", "extendPlan", "(II)V"⟩, 15) := ⟨⟨by decide +kernel, by decide +kernel⟩, List.mem_of_getElem? (i := 322) (by decide +kernel), List.mem_of_getElem? (i := 950) (by decide +kernel), List.mem_of_getElem? (i := 951) (by decide +kernel)⟩
theorem lw_p22 : lw_okq (⟨"AyeJars$Choices", "weighPlan", "(I)V"⟩, 15) := ⟨⟨by decide +kernel, by decide +kernel⟩, List.mem_of_getElem? (i := 322) (by decide +kernel), List.mem_of_getElem? (i := 954) (by decide +kernel), List.mem_of_getElem? (i := 955) (by decide +kernel)⟩
theorem lw_p23 : lw_okq (⟨"AyeJars$Choices", "countForced", "()I"⟩, 15) := ⟨⟨by decide +kernel, by decide +kernel⟩, List.mem_of_getElem? (i := 322) (by decide +kernel), List.mem_of_getElem? (i := 958) (by decide +kernel), List.mem_of_getElem? (i := 959) (by decide +kernel)⟩
theorem lw_p24 : lw_okq (⟨"AyeJars$Choices", "layTried", "(I)V"⟩, 15) := ⟨⟨by decide +kernel, by decide +kernel⟩, List.mem_of_getElem? (i := 322) (by decide +kernel), List.mem_of_getElem? (i := 962) (by decide +kernel), List.mem_of_getElem? (i := 963) (by decide +kernel)⟩
theorem lw_p25 : lw_okq (⟨"AyeJars$Chances", "passesFromEmpty", "(II)Z"⟩, 6) := ⟨⟨by decide +kernel, by decide +kernel⟩, List.mem_of_getElem? (i := 297) (by decide +kernel), List.mem_of_getElem? (i := 980) (by decide +kernel), List.mem_of_getElem? (i := 981) (by decide +kernel)⟩
theorem lw_p26 : lw_okq (⟨"AyeJars$Chances", "mayAllVote", "(III)Z"⟩, 6) := ⟨⟨by decide +kernel, by decide +kernel⟩, List.mem_of_getElem? (i := 297) (by decide +kernel), List.mem_of_getElem? (i := 1034) (by decide +kernel), List.mem_of_getElem? (i := 1035) (by decide +kernel)⟩
theorem lw_p27 : lw_okq (⟨"AyeJars$Chances", "weightOf", "(II)J"⟩, 6) := ⟨⟨by decide +kernel, by decide +kernel⟩, List.mem_of_getElem? (i := 297) (by decide +kernel), List.mem_of_getElem? (i := 1049) (by decide +kernel), List.mem_of_getElem? (i := 1050) (by decide +kernel)⟩
theorem lw_p28 : lw_okq (⟨"AyeJars$Choices", "extendQueue", "(III)V"⟩, 15) := ⟨⟨by decide +kernel, by decide +kernel⟩, List.mem_of_getElem? (i := 322) (by decide +kernel), List.mem_of_getElem? (i := 1083) (by decide +kernel), List.mem_of_getElem? (i := 1084) (by decide +kernel)⟩
theorem lw_p29 : lw_okq (⟨"AyeJars$Choices", "weighQueue", "(II)V"⟩, 15) := ⟨⟨by decide +kernel, by decide +kernel⟩, List.mem_of_getElem? (i := 322) (by decide +kernel), List.mem_of_getElem? (i := 1087) (by decide +kernel), List.mem_of_getElem? (i := 1088) (by decide +kernel)⟩
theorem lw_p30 : lw_okq (⟨"AyeJars$Choices", "fillShaken", "(II)V"⟩, 15) := ⟨⟨by decide +kernel, by decide +kernel⟩, List.mem_of_getElem? (i := 322) (by decide +kernel), List.mem_of_getElem? (i := 1117) (by decide +kernel), List.mem_of_getElem? (i := 1118) (by decide +kernel)⟩
theorem lw_p31 : lw_okq (⟨"AyeJars$Choices", "weighSabotage", "(II)V"⟩, 15) := ⟨⟨by decide +kernel, by decide +kernel⟩, List.mem_of_getElem? (i := 322) (by decide +kernel), List.mem_of_getElem? (i := 1122) (by decide +kernel), List.mem_of_getElem? (i := 1123) (by decide +kernel)⟩
def lw_privs_2 : List (MethodName × Nat) := [(⟨"AyeJars$Reader", "readToken", "(I)Z"⟩, 9), (⟨"AyeJars$Reader", "readYawn", "()Z"⟩, 9), (⟨"AyeJars$Reader", "readDraw", "()Z"⟩, 9), (⟨"AyeJars$Acts", "slot", "(I)LAyeJars$Jars;"⟩, 4), (⟨"AyeJars$Choices", "forcingSets", "(I)J"⟩, 15), (⟨"AyeJars$Choices", "extendPlan", "(II)V"⟩, 15), (⟨"AyeJars$Choices", "weighPlan", "(I)V"⟩, 15), (⟨"AyeJars$Choices", "countForced", "()I"⟩, 15), (⟨"AyeJars$Choices", "layTried", "(I)V"⟩, 15), (⟨"AyeJars$Chances", "passesFromEmpty", "(II)Z"⟩, 6), (⟨"AyeJars$Chances", "mayAllVote", "(III)Z"⟩, 6), (⟨"AyeJars$Chances", "weightOf", "(II)J"⟩, 6), (⟨"AyeJars$Choices", "extendQueue", "(III)V"⟩, 15), (⟨"AyeJars$Choices", "weighQueue", "(II)V"⟩, 15), (⟨"AyeJars$Choices", "fillShaken", "(II)V"⟩, 15), (⟨"AyeJars$Choices", "weighSabotage", "(II)V"⟩, 15)]
theorem lw_r2 : ∀ q ∈ lw_privs_2, lw_okq q := List.forall_mem_cons.mpr ⟨lw_p16, List.forall_mem_cons.mpr ⟨lw_p17, List.forall_mem_cons.mpr ⟨lw_p18, List.forall_mem_cons.mpr ⟨lw_p19, List.forall_mem_cons.mpr ⟨lw_p20, List.forall_mem_cons.mpr ⟨lw_p21, List.forall_mem_cons.mpr ⟨lw_p22, List.forall_mem_cons.mpr ⟨lw_p23, List.forall_mem_cons.mpr ⟨lw_p24, List.forall_mem_cons.mpr ⟨lw_p25, List.forall_mem_cons.mpr ⟨lw_p26, List.forall_mem_cons.mpr ⟨lw_p27, List.forall_mem_cons.mpr ⟨lw_p28, List.forall_mem_cons.mpr ⟨lw_p29, List.forall_mem_cons.mpr ⟨lw_p30, List.forall_mem_cons.mpr ⟨lw_p31, fun _ h => absurd h List.not_mem_nil⟩⟩⟩⟩⟩⟩⟩⟩⟩⟩⟩⟩⟩⟩⟩⟩
theorem lw_p32 : lw_okq (⟨"AyeJars$Nose", "fadeStrangeJars", "()V"⟩, 10) := ⟨⟨by decide +kernel, by decide +kernel⟩, List.mem_of_getElem? (i := 378) (by decide +kernel), List.mem_of_getElem? (i := 1206) (by decide +kernel), List.mem_of_getElem? (i := 1207) (by decide +kernel)⟩
theorem lw_p33 : lw_okq (⟨"AyeJars$Nose", "agrees", "(II)Z"⟩, 10) := ⟨⟨by decide +kernel, by decide +kernel⟩, List.mem_of_getElem? (i := 378) (by decide +kernel), List.mem_of_getElem? (i := 1213) (by decide +kernel), List.mem_of_getElem? (i := 1214) (by decide +kernel)⟩
theorem lw_p34 : lw_okq (⟨"AyeJars", "isBox", "(I)Z"⟩, 14) := ⟨⟨by decide +kernel, by decide +kernel⟩, List.mem_of_getElem? (i := 24) (by decide +kernel), List.mem_of_getElem? (i := 1250) (by decide +kernel), List.mem_of_getElem? (i := 1251) (by decide +kernel)⟩
theorem lw_p35 : lw_okq (⟨"AyeJarsModel", "clearBank", "()V"⟩, 66) := ⟨⟨by decide +kernel, by decide +kernel⟩, List.mem_of_getElem? (i := 1275) (by decide +kernel), List.mem_of_getElem? (i := 1281) (by decide +kernel), List.mem_of_getElem? (i := 1282) (by decide +kernel)⟩
theorem lw_p36 : lw_okq (⟨"AyeJarsModel", "startAnew", "()V"⟩, 66) := ⟨⟨by decide +kernel, by decide +kernel⟩, List.mem_of_getElem? (i := 1275) (by decide +kernel), List.mem_of_getElem? (i := 1285) (by decide +kernel), List.mem_of_getElem? (i := 1286) (by decide +kernel)⟩
theorem lw_p37 : lw_okq (⟨"AyeJarsModel", "goOn", "()V"⟩, 66) := ⟨⟨by decide +kernel, by decide +kernel⟩, List.mem_of_getElem? (i := 1275) (by decide +kernel), List.mem_of_getElem? (i := 1492) (by decide +kernel), List.mem_of_getElem? (i := 1493) (by decide +kernel)⟩
theorem lw_p38 : lw_okq (⟨"AyeJarsModel", "sign", "(I)I"⟩, 66) := ⟨⟨by decide +kernel, by decide +kernel⟩, List.mem_of_getElem? (i := 1275) (by decide +kernel), List.mem_of_getElem? (i := 1496) (by decide +kernel), List.mem_of_getElem? (i := 1497) (by decide +kernel)⟩
theorem lw_p39 : lw_okq (⟨"AyeJarsModel", "isGood", "()Z"⟩, 66) := ⟨⟨by decide +kernel, by decide +kernel⟩, List.mem_of_getElem? (i := 1275) (by decide +kernel), List.mem_of_getElem? (i := 1530) (by decide +kernel), List.mem_of_getElem? (i := 1531) (by decide +kernel)⟩
theorem lw_p40 : lw_okq (⟨"AyeJarsModel", "readLine", "()V"⟩, 66) := ⟨⟨by decide +kernel, by decide +kernel⟩, List.mem_of_getElem? (i := 1275) (by decide +kernel), List.mem_of_getElem? (i := 1534) (by decide +kernel), List.mem_of_getElem? (i := 1535) (by decide +kernel)⟩
theorem lw_p41 : lw_okq (⟨"AyeJarsModel", "isFull", "()Z"⟩, 66) := ⟨⟨by decide +kernel, by decide +kernel⟩, List.mem_of_getElem? (i := 1275) (by decide +kernel), List.mem_of_getElem? (i := 1538) (by decide +kernel), List.mem_of_getElem? (i := 1539) (by decide +kernel)⟩
theorem lw_p42 : lw_okq (⟨"AyeJarsModel", "isWord", "(J)Z"⟩, 66) := ⟨⟨by decide +kernel, by decide +kernel⟩, List.mem_of_getElem? (i := 1275) (by decide +kernel), List.mem_of_getElem? (i := 1542) (by decide +kernel), List.mem_of_getElem? (i := 1543) (by decide +kernel)⟩
theorem lw_p43 : lw_okq (⟨"AyeJarsModel", "misplaced", "()V"⟩, 66) := ⟨⟨by decide +kernel, by decide +kernel⟩, List.mem_of_getElem? (i := 1275) (by decide +kernel), List.mem_of_getElem? (i := 1546) (by decide +kernel), List.mem_of_getElem? (i := 1547) (by decide +kernel)⟩
theorem lw_p44 : lw_okq (⟨"AyeJarsModel", "fails", "(II)V"⟩, 66) := ⟨⟨by decide +kernel, by decide +kernel⟩, List.mem_of_getElem? (i := 1275) (by decide +kernel), List.mem_of_getElem? (i := 1550) (by decide +kernel), List.mem_of_getElem? (i := 1551) (by decide +kernel)⟩
theorem lw_p45 : lw_okq (⟨"AyeJarsModel", "readMember", "()V"⟩, 66) := ⟨⟨by decide +kernel, by decide +kernel⟩, List.mem_of_getElem? (i := 1275) (by decide +kernel), List.mem_of_getElem? (i := 1554) (by decide +kernel), List.mem_of_getElem? (i := 1555) (by decide +kernel)⟩
theorem lw_p46 : lw_okq (⟨"AyeJarsModel", "here", "([JII)I"⟩, 66) := ⟨⟨by decide +kernel, by decide +kernel⟩, List.mem_of_getElem? (i := 1275) (by decide +kernel), List.mem_of_getElem? (i := 1558) (by decide +kernel), List.mem_of_getElem? (i := 1559) (by decide +kernel)⟩
theorem lw_p47 : lw_okq (⟨"AyeJarsModel", "fresh", "(I)J"⟩, 66) := ⟨⟨by decide +kernel, by decide +kernel⟩, List.mem_of_getElem? (i := 1275) (by decide +kernel), List.mem_of_getElem? (i := 1562) (by decide +kernel), List.mem_of_getElem? (i := 1563) (by decide +kernel)⟩
def lw_privs_3 : List (MethodName × Nat) := [(⟨"AyeJars$Nose", "fadeStrangeJars", "()V"⟩, 10), (⟨"AyeJars$Nose", "agrees", "(II)Z"⟩, 10), (⟨"AyeJars", "isBox", "(I)Z"⟩, 14), (⟨"AyeJarsModel", "clearBank", "()V"⟩, 66), (⟨"AyeJarsModel", "startAnew", "()V"⟩, 66), (⟨"AyeJarsModel", "goOn", "()V"⟩, 66), (⟨"AyeJarsModel", "sign", "(I)I"⟩, 66), (⟨"AyeJarsModel", "isGood", "()Z"⟩, 66), (⟨"AyeJarsModel", "readLine", "()V"⟩, 66), (⟨"AyeJarsModel", "isFull", "()Z"⟩, 66), (⟨"AyeJarsModel", "isWord", "(J)Z"⟩, 66), (⟨"AyeJarsModel", "misplaced", "()V"⟩, 66), (⟨"AyeJarsModel", "fails", "(II)V"⟩, 66), (⟨"AyeJarsModel", "readMember", "()V"⟩, 66), (⟨"AyeJarsModel", "here", "([JII)I"⟩, 66), (⟨"AyeJarsModel", "fresh", "(I)J"⟩, 66)]
theorem lw_r3 : ∀ q ∈ lw_privs_3, lw_okq q := List.forall_mem_cons.mpr ⟨lw_p32, List.forall_mem_cons.mpr ⟨lw_p33, List.forall_mem_cons.mpr ⟨lw_p34, List.forall_mem_cons.mpr ⟨lw_p35, List.forall_mem_cons.mpr ⟨lw_p36, List.forall_mem_cons.mpr ⟨lw_p37, List.forall_mem_cons.mpr ⟨lw_p38, List.forall_mem_cons.mpr ⟨lw_p39, List.forall_mem_cons.mpr ⟨lw_p40, List.forall_mem_cons.mpr ⟨lw_p41, List.forall_mem_cons.mpr ⟨lw_p42, List.forall_mem_cons.mpr ⟨lw_p43, List.forall_mem_cons.mpr ⟨lw_p44, List.forall_mem_cons.mpr ⟨lw_p45, List.forall_mem_cons.mpr ⟨lw_p46, List.forall_mem_cons.mpr ⟨lw_p47, fun _ h => absurd h List.not_mem_nil⟩⟩⟩⟩⟩⟩⟩⟩⟩⟩⟩⟩⟩⟩⟩⟩
theorem lw_p48 : lw_okq (⟨"AyeJarsModel", "after", "(JII)I"⟩, 66) := ⟨⟨by decide +kernel, by decide +kernel⟩, List.mem_of_getElem? (i := 1275) (by decide +kernel), List.mem_of_getElem? (i := 1566) (by decide +kernel), List.mem_of_getElem? (i := 1567) (by decide +kernel)⟩
theorem lw_p49 : lw_okq (⟨"AyeJarsModel", "must", "(Z)V"⟩, 66) := ⟨⟨by decide +kernel, by decide +kernel⟩, List.mem_of_getElem? (i := 1275) (by decide +kernel), List.mem_of_getElem? (i := 1570) (by decide +kernel), List.mem_of_getElem? (i := 1571) (by decide +kernel)⟩
theorem lw_p50 : lw_okq (⟨"AyeJarsModel", "numeral", "(II)I"⟩, 66) := ⟨⟨by decide +kernel, by decide +kernel⟩, List.mem_of_getElem? (i := 1275) (by decide +kernel), List.mem_of_getElem? (i := 1574) (by decide +kernel), List.mem_of_getElem? (i := 1575) (by decide +kernel)⟩
theorem lw_p51 : lw_okq (⟨"AyeJarsModel", "perhaps", "(JI)I"⟩, 66) := ⟨⟨by decide +kernel, by decide +kernel⟩, List.mem_of_getElem? (i := 1275) (by decide +kernel), List.mem_of_getElem? (i := 1578) (by decide +kernel), List.mem_of_getElem? (i := 1579) (by decide +kernel)⟩
theorem lw_p52 : lw_okq (⟨"AyeJarsModel", "readBill", "()V"⟩, 66) := ⟨⟨by decide +kernel, by decide +kernel⟩, List.mem_of_getElem? (i := 1275) (by decide +kernel), List.mem_of_getElem? (i := 1582) (by decide +kernel), List.mem_of_getElem? (i := 1583) (by decide +kernel)⟩
theorem lw_p53 : lw_okq (⟨"AyeJarsModel", "readRule", "(I)V"⟩, 66) := ⟨⟨by decide +kernel, by decide +kernel⟩, List.mem_of_getElem? (i := 1275) (by decide +kernel), List.mem_of_getElem? (i := 1586) (by decide +kernel), List.mem_of_getElem? (i := 1587) (by decide +kernel)⟩
theorem lw_p54 : lw_okq (⟨"AyeJarsModel", "e", "()V"⟩, 66) := ⟨⟨by decide +kernel, by decide +kernel⟩, List.mem_of_getElem? (i := 1275) (by decide +kernel), List.mem_of_getElem? (i := 1590) (by decide +kernel), List.mem_of_getElem? (i := 1591) (by decide +kernel)⟩
theorem lw_p55 : lw_okq (⟨"AyeJarsModel", "pushE", "(II)V"⟩, 66) := ⟨⟨by decide +kernel, by decide +kernel⟩, List.mem_of_getElem? (i := 1275) (by decide +kernel), List.mem_of_getElem? (i := 1594) (by decide +kernel), List.mem_of_getElem? (i := 1595) (by decide +kernel)⟩
theorem lw_p56 : lw_okq (⟨"AyeJarsModel", "unit", "()Z"⟩, 66) := ⟨⟨by decide +kernel, by decide +kernel⟩, List.mem_of_getElem? (i := 1275) (by decide +kernel), List.mem_of_getElem? (i := 1598) (by decide +kernel), List.mem_of_getElem? (i := 1599) (by decide +kernel)⟩
theorem lw_p57 : lw_okq (⟨"AyeJarsModel", "isSignHere", "(I)Z"⟩, 66) := ⟨⟨by decide +kernel, by decide +kernel⟩, List.mem_of_getElem? (i := 1275) (by decide +kernel), List.mem_of_getElem? (i := 1602) (by decide +kernel), List.mem_of_getElem? (i := 1603) (by decide +kernel)⟩
theorem lw_p58 : lw_okq (⟨"AyeJarsModel", "wordHere", "()I"⟩, 66) := ⟨⟨by decide +kernel, by decide +kernel⟩, List.mem_of_getElem? (i := 1275) (by decide +kernel), List.mem_of_getElem? (i := 1606) (by decide +kernel), List.mem_of_getElem? (i := 1607) (by decide +kernel)⟩
theorem lw_p59 : lw_okq (⟨"AyeJarsModel", "emit", "(II)V"⟩, 66) := ⟨⟨by decide +kernel, by decide +kernel⟩, List.mem_of_getElem? (i := 1275) (by decide +kernel), List.mem_of_getElem? (i := 1610) (by decide +kernel), List.mem_of_getElem? (i := 1611) (by decide +kernel)⟩
theorem lw_p60 : lw_okq (⟨"AyeJarsModel", "behindUnit", "()Z"⟩, 66) := ⟨⟨by decide +kernel, by decide +kernel⟩, List.mem_of_getElem? (i := 1275) (by decide +kernel), List.mem_of_getElem? (i := 1614) (by decide +kernel), List.mem_of_getElem? (i := 1615) (by decide +kernel)⟩
theorem lw_p61 : lw_okq (⟨"AyeJarsModel", "rankHere", "()I"⟩, 66) := ⟨⟨by decide +kernel, by decide +kernel⟩, List.mem_of_getElem? (i := 1275) (by decide +kernel), List.mem_of_getElem? (i := 1618) (by decide +kernel), List.mem_of_getElem? (i := 1619) (by decide +kernel)⟩
theorem lw_p62 : lw_okq (⟨"AyeJarsModel", "isCompared", "()Z"⟩, 66) := ⟨⟨by decide +kernel, by decide +kernel⟩, List.mem_of_getElem? (i := 1275) (by decide +kernel), List.mem_of_getElem? (i := 1622) (by decide +kernel), List.mem_of_getElem? (i := 1623) (by decide +kernel)⟩
theorem lw_p63 : lw_okq (⟨"AyeJarsModel", "isMember", "(I)Z"⟩, 66) := ⟨⟨by decide +kernel, by decide +kernel⟩, List.mem_of_getElem? (i := 1275) (by decide +kernel), List.mem_of_getElem? (i := 1634) (by decide +kernel), List.mem_of_getElem? (i := 1635) (by decide +kernel)⟩
def lw_privs_4 : List (MethodName × Nat) := [(⟨"AyeJarsModel", "after", "(JII)I"⟩, 66), (⟨"AyeJarsModel", "must", "(Z)V"⟩, 66), (⟨"AyeJarsModel", "numeral", "(II)I"⟩, 66), (⟨"AyeJarsModel", "perhaps", "(JI)I"⟩, 66), (⟨"AyeJarsModel", "readBill", "()V"⟩, 66), (⟨"AyeJarsModel", "readRule", "(I)V"⟩, 66), (⟨"AyeJarsModel", "e", "()V"⟩, 66), (⟨"AyeJarsModel", "pushE", "(II)V"⟩, 66), (⟨"AyeJarsModel", "unit", "()Z"⟩, 66), (⟨"AyeJarsModel", "isSignHere", "(I)Z"⟩, 66), (⟨"AyeJarsModel", "wordHere", "()I"⟩, 66), (⟨"AyeJarsModel", "emit", "(II)V"⟩, 66), (⟨"AyeJarsModel", "behindUnit", "()Z"⟩, 66), (⟨"AyeJarsModel", "rankHere", "()I"⟩, 66), (⟨"AyeJarsModel", "isCompared", "()Z"⟩, 66), (⟨"AyeJarsModel", "isMember", "(I)Z"⟩, 66)]
theorem lw_r4 : ∀ q ∈ lw_privs_4, lw_okq q := List.forall_mem_cons.mpr ⟨lw_p48, List.forall_mem_cons.mpr ⟨lw_p49, List.forall_mem_cons.mpr ⟨lw_p50, List.forall_mem_cons.mpr ⟨lw_p51, List.forall_mem_cons.mpr ⟨lw_p52, List.forall_mem_cons.mpr ⟨lw_p53, List.forall_mem_cons.mpr ⟨lw_p54, List.forall_mem_cons.mpr ⟨lw_p55, List.forall_mem_cons.mpr ⟨lw_p56, List.forall_mem_cons.mpr ⟨lw_p57, List.forall_mem_cons.mpr ⟨lw_p58, List.forall_mem_cons.mpr ⟨lw_p59, List.forall_mem_cons.mpr ⟨lw_p60, List.forall_mem_cons.mpr ⟨lw_p61, List.forall_mem_cons.mpr ⟨lw_p62, List.forall_mem_cons.mpr ⟨lw_p63, fun _ h => absurd h List.not_mem_nil⟩⟩⟩⟩⟩⟩⟩⟩⟩⟩⟩⟩⟩⟩⟩⟩
theorem lw_p64 : lw_okq (⟨"AyeJarsModel", "many", "()I"⟩, 66) := ⟨⟨by decide +kernel, by decide +kernel⟩, List.mem_of_getElem? (i := 1275) (by decide +kernel), List.mem_of_getElem? (i := 1638) (by decide +kernel), List.mem_of_getElem? (i := 1639) (by decide +kernel)⟩
theorem lw_p65 : lw_okq (⟨"AyeJarsModel", "mayVoteFor", "(I)I"⟩, 66) := ⟨⟨by decide +kernel, by decide +kernel⟩, List.mem_of_getElem? (i := 1275) (by decide +kernel), List.mem_of_getElem? (i := 1648) (by decide +kernel), List.mem_of_getElem? (i := 1649) (by decide +kernel)⟩
theorem lw_p66 : lw_okq (⟨"AyeJarsModel", "mayVote", "(II)Z"⟩, 66) := ⟨⟨by decide +kernel, by decide +kernel⟩, List.mem_of_getElem? (i := 1275) (by decide +kernel), List.mem_of_getElem? (i := 1652) (by decide +kernel), List.mem_of_getElem? (i := 1653) (by decide +kernel)⟩
theorem lw_p67 : lw_okq (⟨"AyeJarsModel", "isLeft", "(I)Z"⟩, 66) := ⟨⟨by decide +kernel, by decide +kernel⟩, List.mem_of_getElem? (i := 1275) (by decide +kernel), List.mem_of_getElem? (i := 1656) (by decide +kernel), List.mem_of_getElem? (i := 1657) (by decide +kernel)⟩
theorem lw_p68 : lw_okq (⟨"AyeJarsModel", "isBill", "(I)Z"⟩, 66) := ⟨⟨by decide +kernel, by decide +kernel⟩, List.mem_of_getElem? (i := 1275) (by decide +kernel), List.mem_of_getElem? (i := 1660) (by decide +kernel), List.mem_of_getElem? (i := 1661) (by decide +kernel)⟩
theorem lw_p69 : lw_okq (⟨"AyeJarsModel", "breathedInto", "(I)I"⟩, 66) := ⟨⟨by decide +kernel, by decide +kernel⟩, List.mem_of_getElem? (i := 1275) (by decide +kernel), List.mem_of_getElem? (i := 1664) (by decide +kernel), List.mem_of_getElem? (i := 1665) (by decide +kernel)⟩
theorem lw_p70 : lw_okq (⟨"AyeJarsModel", "needOf", "(I)I"⟩, 66) := ⟨⟨by decide +kernel, by decide +kernel⟩, List.mem_of_getElem? (i := 1275) (by decide +kernel), List.mem_of_getElem? (i := 1672) (by decide +kernel), List.mem_of_getElem? (i := 1673) (by decide +kernel)⟩
theorem lw_p71 : lw_okq (⟨"AyeJarsModel", "dayOf", "(I)I"⟩, 66) := ⟨⟨by decide +kernel, by decide +kernel⟩, List.mem_of_getElem? (i := 1275) (by decide +kernel), List.mem_of_getElem? (i := 1676) (by decide +kernel), List.mem_of_getElem? (i := 1677) (by decide +kernel)⟩
theorem lw_p72 : lw_okq (⟨"AyeJarsModel", "lossOf", "(I)I"⟩, 66) := ⟨⟨by decide +kernel, by decide +kernel⟩, List.mem_of_getElem? (i := 1275) (by decide +kernel), List.mem_of_getElem? (i := 1680) (by decide +kernel), List.mem_of_getElem? (i := 1681) (by decide +kernel)⟩
theorem lw_p73 : lw_okq (⟨"AyeJarsModel", "sumOf", "([II)I"⟩, 66) := ⟨⟨by decide +kernel, by decide +kernel⟩, List.mem_of_getElem? (i := 1275) (by decide +kernel), List.mem_of_getElem? (i := 1684) (by decide +kernel), List.mem_of_getElem? (i := 1685) (by decide +kernel)⟩
theorem lw_p74 : lw_okq (⟨"AyeJarsModel", "fadesNow", "(I)I"⟩, 66) := ⟨⟨by decide +kernel, by decide +kernel⟩, List.mem_of_getElem? (i := 1275) (by decide +kernel), List.mem_of_getElem? (i := 1688) (by decide +kernel), List.mem_of_getElem? (i := 1689) (by decide +kernel)⟩
theorem lw_p75 : lw_okq (⟨"AyeJarsModel", "layAside", "(I)V"⟩, 66) := ⟨⟨by decide +kernel, by decide +kernel⟩, List.mem_of_getElem? (i := 1275) (by decide +kernel), List.mem_of_getElem? (i := 1692) (by decide +kernel), List.mem_of_getElem? (i := 1693) (by decide +kernel)⟩
theorem lw_p76 : lw_okq (⟨"AyeJarsModel", "fades", "()I"⟩, 66) := ⟨⟨by decide +kernel, by decide +kernel⟩, List.mem_of_getElem? (i := 1275) (by decide +kernel), List.mem_of_getElem? (i := 1696) (by decide +kernel), List.mem_of_getElem? (i := 1697) (by decide +kernel)⟩
theorem lw_p77 : lw_okq (⟨"AyeJarsModel", "comes", "()I"⟩, 66) := ⟨⟨by decide +kernel, by decide +kernel⟩, List.mem_of_getElem? (i := 1275) (by decide +kernel), List.mem_of_getElem? (i := 1700) (by decide +kernel), List.mem_of_getElem? (i := 1701) (by decide +kernel)⟩
theorem lw_p78 : lw_okq (⟨"AyeJarsModel", "asked", "(II)I"⟩, 66) := ⟨⟨by decide +kernel, by decide +kernel⟩, List.mem_of_getElem? (i := 1275) (by decide +kernel), List.mem_of_getElem? (i := 1704) (by decide +kernel), List.mem_of_getElem? (i := 1705) (by decide +kernel)⟩
theorem lw_p79 : lw_okq (⟨"AyeJarsModel", "wouldPass", "(I)Z"⟩, 66) := ⟨⟨by decide +kernel, by decide +kernel⟩, List.mem_of_getElem? (i := 1275) (by decide +kernel), List.mem_of_getElem? (i := 1714) (by decide +kernel), List.mem_of_getElem? (i := 1715) (by decide +kernel)⟩
def lw_privs_5 : List (MethodName × Nat) := [(⟨"AyeJarsModel", "many", "()I"⟩, 66), (⟨"AyeJarsModel", "mayVoteFor", "(I)I"⟩, 66), (⟨"AyeJarsModel", "mayVote", "(II)Z"⟩, 66), (⟨"AyeJarsModel", "isLeft", "(I)Z"⟩, 66), (⟨"AyeJarsModel", "isBill", "(I)Z"⟩, 66), (⟨"AyeJarsModel", "breathedInto", "(I)I"⟩, 66), (⟨"AyeJarsModel", "needOf", "(I)I"⟩, 66), (⟨"AyeJarsModel", "dayOf", "(I)I"⟩, 66), (⟨"AyeJarsModel", "lossOf", "(I)I"⟩, 66), (⟨"AyeJarsModel", "sumOf", "([II)I"⟩, 66), (⟨"AyeJarsModel", "fadesNow", "(I)I"⟩, 66), (⟨"AyeJarsModel", "layAside", "(I)V"⟩, 66), (⟨"AyeJarsModel", "fades", "()I"⟩, 66), (⟨"AyeJarsModel", "comes", "()I"⟩, 66), (⟨"AyeJarsModel", "asked", "(II)I"⟩, 66), (⟨"AyeJarsModel", "wouldPass", "(I)Z"⟩, 66)]
theorem lw_r5 : ∀ q ∈ lw_privs_5, lw_okq q := List.forall_mem_cons.mpr ⟨lw_p64, List.forall_mem_cons.mpr ⟨lw_p65, List.forall_mem_cons.mpr ⟨lw_p66, List.forall_mem_cons.mpr ⟨lw_p67, List.forall_mem_cons.mpr ⟨lw_p68, List.forall_mem_cons.mpr ⟨lw_p69, List.forall_mem_cons.mpr ⟨lw_p70, List.forall_mem_cons.mpr ⟨lw_p71, List.forall_mem_cons.mpr ⟨lw_p72, List.forall_mem_cons.mpr ⟨lw_p73, List.forall_mem_cons.mpr ⟨lw_p74, List.forall_mem_cons.mpr ⟨lw_p75, List.forall_mem_cons.mpr ⟨lw_p76, List.forall_mem_cons.mpr ⟨lw_p77, List.forall_mem_cons.mpr ⟨lw_p78, List.forall_mem_cons.mpr ⟨lw_p79, fun _ h => absurd h List.not_mem_nil⟩⟩⟩⟩⟩⟩⟩⟩⟩⟩⟩⟩⟩⟩⟩⟩
theorem lw_p80 : lw_okq (⟨"AyeJarsModel", "openedAt", "(I)I"⟩, 66) := ⟨⟨by decide +kernel, by decide +kernel⟩, List.mem_of_getElem? (i := 1275) (by decide +kernel), List.mem_of_getElem? (i := 1718) (by decide +kernel), List.mem_of_getElem? (i := 1719) (by decide +kernel)⟩
theorem lw_p81 : lw_okq (⟨"AyeJarsModel", "onDay", "(I)I"⟩, 66) := ⟨⟨by decide +kernel, by decide +kernel⟩, List.mem_of_getElem? (i := 1275) (by decide +kernel), List.mem_of_getElem? (i := 1722) (by decide +kernel), List.mem_of_getElem? (i := 1723) (by decide +kernel)⟩
theorem lw_p82 : lw_okq (⟨"AyeJarsModel", "leave", "(I)V"⟩, 66) := ⟨⟨by decide +kernel, by decide +kernel⟩, List.mem_of_getElem? (i := 1275) (by decide +kernel), List.mem_of_getElem? (i := 1726) (by decide +kernel), List.mem_of_getElem? (i := 1727) (by decide +kernel)⟩
theorem lw_p83 : lw_okq (⟨"AyeJarsModel", "keepAct", "()V"⟩, 66) := ⟨⟨by decide +kernel, by decide +kernel⟩, List.mem_of_getElem? (i := 1275) (by decide +kernel), List.mem_of_getElem? (i := 1746) (by decide +kernel), List.mem_of_getElem? (i := 1747) (by decide +kernel)⟩
theorem lw_p84 : lw_okq (⟨"AyeJarsModel", "canShake", "(I)Z"⟩, 66) := ⟨⟨by decide +kernel, by decide +kernel⟩, List.mem_of_getElem? (i := 1275) (by decide +kernel), List.mem_of_getElem? (i := 1754) (by decide +kernel), List.mem_of_getElem? (i := 1755) (by decide +kernel)⟩
theorem lw_p85 : lw_okq (⟨"AyeJarsModel", "isEmpty", "(I)Z"⟩, 66) := ⟨⟨by decide +kernel, by decide +kernel⟩, List.mem_of_getElem? (i := 1275) (by decide +kernel), List.mem_of_getElem? (i := 1758) (by decide +kernel), List.mem_of_getElem? (i := 1759) (by decide +kernel)⟩
theorem lw_p86 : lw_okq (⟨"AyeJarsModel", "canJoin", "(II)Z"⟩, 66) := ⟨⟨by decide +kernel, by decide +kernel⟩, List.mem_of_getElem? (i := 1275) (by decide +kernel), List.mem_of_getElem? (i := 1770) (by decide +kernel), List.mem_of_getElem? (i := 1771) (by decide +kernel)⟩
theorem lw_p87 : lw_okq (⟨"AyeJarsModel", "joinBoth", "(II)V"⟩, 66) := ⟨⟨by decide +kernel, by decide +kernel⟩, List.mem_of_getElem? (i := 1275) (by decide +kernel), List.mem_of_getElem? (i := 1774) (by decide +kernel), List.mem_of_getElem? (i := 1775) (by decide +kernel)⟩
theorem lw_p88 : lw_okq (⟨"AyeJarsModel", "goDay", "()I"⟩, 66) := ⟨⟨by decide +kernel, by decide +kernel⟩, List.mem_of_getElem? (i := 1275) (by decide +kernel), List.mem_of_getElem? (i := 1782) (by decide +kernel), List.mem_of_getElem? (i := 1783) (by decide +kernel)⟩
theorem lw_p89 : lw_okq (⟨"AyeJarsModel", "exchange", "()V"⟩, 66) := ⟨⟨by decide +kernel, by decide +kernel⟩, List.mem_of_getElem? (i := 1275) (by decide +kernel), List.mem_of_getElem? (i := 1790) (by decide +kernel), List.mem_of_getElem? (i := 1791) (by decide +kernel)⟩
theorem lw_p90 : lw_okq (⟨"AyeJarsModel", "openedWith", "(II)I"⟩, 66) := ⟨⟨by decide +kernel, by decide +kernel⟩, List.mem_of_getElem? (i := 1275) (by decide +kernel), List.mem_of_getElem? (i := 1813) (by decide +kernel), List.mem_of_getElem? (i := 1814) (by decide +kernel)⟩
theorem lw_p91 : lw_okq (⟨"AyeJarsModel", "breathe", "(I)V"⟩, 66) := ⟨⟨by decide +kernel, by decide +kernel⟩, List.mem_of_getElem? (i := 1275) (by decide +kernel), List.mem_of_getElem? (i := 1817) (by decide +kernel), List.mem_of_getElem? (i := 1818) (by decide +kernel)⟩
theorem lw_p92 : lw_okq (⟨"AyeJarsModel", "openedLater", "(III)I"⟩, 66) := ⟨⟨by decide +kernel, by decide +kernel⟩, List.mem_of_getElem? (i := 1275) (by decide +kernel), List.mem_of_getElem? (i := 1825) (by decide +kernel), List.mem_of_getElem? (i := 1826) (by decide +kernel)⟩
theorem lw_p93 : lw_okq (⟨"AyeJarsModel", "isSet", "(I)Z"⟩, 66) := ⟨⟨by decide +kernel, by decide +kernel⟩, List.mem_of_getElem? (i := 1275) (by decide +kernel), List.mem_of_getElem? (i := 1833) (by decide +kernel), List.mem_of_getElem? (i := 1834) (by decide +kernel)⟩
theorem lw_p94 : lw_okq (⟨"AyeJarsModel", "openedShaken", "(II)I"⟩, 66) := ⟨⟨by decide +kernel, by decide +kernel⟩, List.mem_of_getElem? (i := 1275) (by decide +kernel), List.mem_of_getElem? (i := 1845) (by decide +kernel), List.mem_of_getElem? (i := 1846) (by decide +kernel)⟩
theorem lw_p95 : lw_okq (⟨"AyeJarsModel", "joined", "(II)I"⟩, 66) := ⟨⟨by decide +kernel, by decide +kernel⟩, List.mem_of_getElem? (i := 1275) (by decide +kernel), List.mem_of_getElem? (i := 1857) (by decide +kernel), List.mem_of_getElem? (i := 1858) (by decide +kernel)⟩
def lw_privs_6 : List (MethodName × Nat) := [(⟨"AyeJarsModel", "openedAt", "(I)I"⟩, 66), (⟨"AyeJarsModel", "onDay", "(I)I"⟩, 66), (⟨"AyeJarsModel", "leave", "(I)V"⟩, 66), (⟨"AyeJarsModel", "keepAct", "()V"⟩, 66), (⟨"AyeJarsModel", "canShake", "(I)Z"⟩, 66), (⟨"AyeJarsModel", "isEmpty", "(I)Z"⟩, 66), (⟨"AyeJarsModel", "canJoin", "(II)Z"⟩, 66), (⟨"AyeJarsModel", "joinBoth", "(II)V"⟩, 66), (⟨"AyeJarsModel", "goDay", "()I"⟩, 66), (⟨"AyeJarsModel", "exchange", "()V"⟩, 66), (⟨"AyeJarsModel", "openedWith", "(II)I"⟩, 66), (⟨"AyeJarsModel", "breathe", "(I)V"⟩, 66), (⟨"AyeJarsModel", "openedLater", "(III)I"⟩, 66), (⟨"AyeJarsModel", "isSet", "(I)Z"⟩, 66), (⟨"AyeJarsModel", "openedShaken", "(II)I"⟩, 66), (⟨"AyeJarsModel", "joined", "(II)I"⟩, 66)]
theorem lw_r6 : ∀ q ∈ lw_privs_6, lw_okq q := List.forall_mem_cons.mpr ⟨lw_p80, List.forall_mem_cons.mpr ⟨lw_p81, List.forall_mem_cons.mpr ⟨lw_p82, List.forall_mem_cons.mpr ⟨lw_p83, List.forall_mem_cons.mpr ⟨lw_p84, List.forall_mem_cons.mpr ⟨lw_p85, List.forall_mem_cons.mpr ⟨lw_p86, List.forall_mem_cons.mpr ⟨lw_p87, List.forall_mem_cons.mpr ⟨lw_p88, List.forall_mem_cons.mpr ⟨lw_p89, List.forall_mem_cons.mpr ⟨lw_p90, List.forall_mem_cons.mpr ⟨lw_p91, List.forall_mem_cons.mpr ⟨lw_p92, List.forall_mem_cons.mpr ⟨lw_p93, List.forall_mem_cons.mpr ⟨lw_p94, List.forall_mem_cons.mpr ⟨lw_p95, fun _ h => absurd h List.not_mem_nil⟩⟩⟩⟩⟩⟩⟩⟩⟩⟩⟩⟩⟩⟩⟩⟩
theorem lw_p96 : lw_okq (⟨"AyeJarsModel", "keepNow", "()V"⟩, 66) := ⟨⟨by decide +kernel, by decide +kernel⟩, List.mem_of_getElem? (i := 1275) (by decide +kernel), List.mem_of_getElem? (i := 1861) (by decide +kernel), List.mem_of_getElem? (i := 1862) (by decide +kernel)⟩
theorem lw_p97 : lw_okq (⟨"AyeJarsModel", "bringBack", "()V"⟩, 66) := ⟨⟨by decide +kernel, by decide +kernel⟩, List.mem_of_getElem? (i := 1275) (by decide +kernel), List.mem_of_getElem? (i := 1865) (by decide +kernel), List.mem_of_getElem? (i := 1866) (by decide +kernel)⟩
theorem lw_p98 : lw_okq (⟨"AyeJarsModel", "layFresh", "(I)V"⟩, 66) := ⟨⟨by decide +kernel, by decide +kernel⟩, List.mem_of_getElem? (i := 1275) (by decide +kernel), List.mem_of_getElem? (i := 1881) (by decide +kernel), List.mem_of_getElem? (i := 1882) (by decide +kernel)⟩
theorem lw_p99 : lw_okq (⟨"AyeJarsModel", "layChoice", "(I)I"⟩, 66) := ⟨⟨by decide +kernel, by decide +kernel⟩, List.mem_of_getElem? (i := 1275) (by decide +kernel), List.mem_of_getElem? (i := 1896) (by decide +kernel), List.mem_of_getElem? (i := 1897) (by decide +kernel)⟩
theorem lw_p100 : lw_okq (⟨"AyeJarsModel", "passedByChoice", "()I"⟩, 66) := ⟨⟨by decide +kernel, by decide +kernel⟩, List.mem_of_getElem? (i := 1275) (by decide +kernel), List.mem_of_getElem? (i := 1900) (by decide +kernel), List.mem_of_getElem? (i := 1901) (by decide +kernel)⟩
theorem lw_p101 : lw_okq (⟨"AyeJarsModel", "passesAlone", "(II)Z"⟩, 66) := ⟨⟨by decide +kernel, by decide +kernel⟩, List.mem_of_getElem? (i := 1275) (by decide +kernel), List.mem_of_getElem? (i := 1908) (by decide +kernel), List.mem_of_getElem? (i := 1909) (by decide +kernel)⟩
theorem lw_p102 : lw_okq (⟨"AyeJarsModel", "mayAll", "(III)Z"⟩, 66) := ⟨⟨by decide +kernel, by decide +kernel⟩, List.mem_of_getElem? (i := 1275) (by decide +kernel), List.mem_of_getElem? (i := 1922) (by decide +kernel), List.mem_of_getElem? (i := 1923) (by decide +kernel)⟩
theorem lw_p103 : lw_okq (⟨"AyeJarsModel", "overParts", "(IIZ)I"⟩, 66) := ⟨⟨by decide +kernel, by decide +kernel⟩, List.mem_of_getElem? (i := 1275) (by decide +kernel), List.mem_of_getElem? (i := 1926) (by decide +kernel), List.mem_of_getElem? (i := 1927) (by decide +kernel)⟩
theorem lw_p104 : lw_okq (⟨"AyeJarsModel", "weightOf", "(II)I"⟩, 66) := ⟨⟨by decide +kernel, by decide +kernel⟩, List.mem_of_getElem? (i := 1275) (by decide +kernel), List.mem_of_getElem? (i := 1930) (by decide +kernel), List.mem_of_getElem? (i := 1931) (by decide +kernel)⟩
theorem lw_p105 : lw_okq (⟨"AyeJarsModel", "partOf", "(III)I"⟩, 66) := ⟨⟨by decide +kernel, by decide +kernel⟩, List.mem_of_getElem? (i := 1275) (by decide +kernel), List.mem_of_getElem? (i := 1934) (by decide +kernel), List.mem_of_getElem? (i := 1935) (by decide +kernel)⟩
theorem lw_p106 : lw_okq (⟨"AyeJarsModel", "layQueue", "(II)Z"⟩, 66) := ⟨⟨by decide +kernel, by decide +kernel⟩, List.mem_of_getElem? (i := 1275) (by decide +kernel), List.mem_of_getElem? (i := 1946) (by decide +kernel), List.mem_of_getElem? (i := 1947) (by decide +kernel)⟩
theorem lw_p107 : lw_okq (⟨"AyeJarsModel", "openedByQueue", "(I)I"⟩, 66) := ⟨⟨by decide +kernel, by decide +kernel⟩, List.mem_of_getElem? (i := 1275) (by decide +kernel), List.mem_of_getElem? (i := 1950) (by decide +kernel), List.mem_of_getElem? (i := 1951) (by decide +kernel)⟩
theorem lw_p108 : lw_okq (⟨"AyeJarsModel", "shakeAll", "(II)I"⟩, 66) := ⟨⟨by decide +kernel, by decide +kernel⟩, List.mem_of_getElem? (i := 1275) (by decide +kernel), List.mem_of_getElem? (i := 1958) (by decide +kernel), List.mem_of_getElem? (i := 1959) (by decide +kernel)⟩
theorem lw_p109 : lw_okq (⟨"AyeJarsModel", "forced", "()I"⟩, 66) := ⟨⟨by decide +kernel, by decide +kernel⟩, List.mem_of_getElem? (i := 1275) (by decide +kernel), List.mem_of_getElem? (i := 1962) (by decide +kernel), List.mem_of_getElem? (i := 1963) (by decide +kernel)⟩
theorem lw_p110 : lw_okq (⟨"AyeJarsModel", "layFits", "(I)V"⟩, 66) := ⟨⟨by decide +kernel, by decide +kernel⟩, List.mem_of_getElem? (i := 1275) (by decide +kernel), List.mem_of_getElem? (i := 1983) (by decide +kernel), List.mem_of_getElem? (i := 1984) (by decide +kernel)⟩
theorem lw_p111 : lw_okq (⟨"AyeJarsModel", "doesFit", "(II)Z"⟩, 66) := ⟨⟨by decide +kernel, by decide +kernel⟩, List.mem_of_getElem? (i := 1275) (by decide +kernel), List.mem_of_getElem? (i := 1987) (by decide +kernel), List.mem_of_getElem? (i := 1988) (by decide +kernel)⟩
def lw_privs_7 : List (MethodName × Nat) := [(⟨"AyeJarsModel", "keepNow", "()V"⟩, 66), (⟨"AyeJarsModel", "bringBack", "()V"⟩, 66), (⟨"AyeJarsModel", "layFresh", "(I)V"⟩, 66), (⟨"AyeJarsModel", "layChoice", "(I)I"⟩, 66), (⟨"AyeJarsModel", "passedByChoice", "()I"⟩, 66), (⟨"AyeJarsModel", "passesAlone", "(II)Z"⟩, 66), (⟨"AyeJarsModel", "mayAll", "(III)Z"⟩, 66), (⟨"AyeJarsModel", "overParts", "(IIZ)I"⟩, 66), (⟨"AyeJarsModel", "weightOf", "(II)I"⟩, 66), (⟨"AyeJarsModel", "partOf", "(III)I"⟩, 66), (⟨"AyeJarsModel", "layQueue", "(II)Z"⟩, 66), (⟨"AyeJarsModel", "openedByQueue", "(I)I"⟩, 66), (⟨"AyeJarsModel", "shakeAll", "(II)I"⟩, 66), (⟨"AyeJarsModel", "forced", "()I"⟩, 66), (⟨"AyeJarsModel", "layFits", "(I)V"⟩, 66), (⟨"AyeJarsModel", "doesFit", "(II)Z"⟩, 66)]
theorem lw_r7 : ∀ q ∈ lw_privs_7, lw_okq q := List.forall_mem_cons.mpr ⟨lw_p96, List.forall_mem_cons.mpr ⟨lw_p97, List.forall_mem_cons.mpr ⟨lw_p98, List.forall_mem_cons.mpr ⟨lw_p99, List.forall_mem_cons.mpr ⟨lw_p100, List.forall_mem_cons.mpr ⟨lw_p101, List.forall_mem_cons.mpr ⟨lw_p102, List.forall_mem_cons.mpr ⟨lw_p103, List.forall_mem_cons.mpr ⟨lw_p104, List.forall_mem_cons.mpr ⟨lw_p105, List.forall_mem_cons.mpr ⟨lw_p106, List.forall_mem_cons.mpr ⟨lw_p107, List.forall_mem_cons.mpr ⟨lw_p108, List.forall_mem_cons.mpr ⟨lw_p109, List.forall_mem_cons.mpr ⟨lw_p110, List.forall_mem_cons.mpr ⟨lw_p111, fun _ h => absurd h List.not_mem_nil⟩⟩⟩⟩⟩⟩⟩⟩⟩⟩⟩⟩⟩⟩⟩⟩
theorem lw_p112 : lw_okq (⟨"AyeJarsModel", "thoseThat", "(I)I"⟩, 66) := ⟨⟨by decide +kernel, by decide +kernel⟩, List.mem_of_getElem? (i := 1275) (by decide +kernel), List.mem_of_getElem? (i := 2011) (by decide +kernel), List.mem_of_getElem? (i := 2012) (by decide +kernel)⟩
def lw_privs_8 : List (MethodName × Nat) := [(⟨"AyeJarsModel", "thoseThat", "(I)I"⟩, 66)]
theorem lw_r8 : ∀ q ∈ lw_privs_8, lw_okq q := List.forall_mem_cons.mpr ⟨lw_p112, fun _ h => absurd h List.not_mem_nil⟩
def lw_privs : List (MethodName × Nat) := lw_privs_1 ++ (lw_privs_2 ++ (lw_privs_3 ++ (lw_privs_4 ++ (lw_privs_5 ++ (lw_privs_6 ++ (lw_privs_7 ++ (lw_privs_8)))))))
def lw_tbl : List Cond := k2_sels lw_privs ++ tables_1
theorem lw_privs_ok : ∀ q ∈ lw_privs, lw_okq q := by
  show ∀ q ∈ lw_privs_1 ++ (lw_privs_2 ++ (lw_privs_3 ++ (lw_privs_4 ++ (lw_privs_5 ++ (lw_privs_6 ++ (lw_privs_7 ++ (lw_privs_8))))))), lw_okq q
  exact List.forall_mem_append.mpr ⟨lw_r1, List.forall_mem_append.mpr ⟨lw_r2, List.forall_mem_append.mpr ⟨lw_r3, List.forall_mem_append.mpr ⟨lw_r4, List.forall_mem_append.mpr ⟨lw_r5, List.forall_mem_append.mpr ⟨lw_r6, List.forall_mem_append.mpr ⟨lw_r7, lw_r8⟩⟩⟩⟩⟩⟩⟩
end
section
def RX0 : String := "AyeJars$Acts"
def TX0 : u_T := fun k => match k with
  | 0 => ("AyeJars$Acts", "ring", "[LAyeJars$Jars;", true)
  | 1 => ("AyeJars$Acts", "first", "I", false)
  | 2 => ("AyeJars$Acts", "done", "I", false)
  | _ => ("AyeJars$Acts", "known", "I", false)
def tyX0 : Nat → FieldType := fun k => match k with
  | 0 => .array (.object "AyeJars$Jars")
  | 1 => .int
  | 2 => .int
  | _ => .int
theorem nmX0 : ∀ a, a < 4 → ∀ b, b < 4 → a ≠ b → (TX0 a).2.1 ≠ (TX0 b).2.1 := by decide +kernel
theorem tyX0_ok : ∀ k, k < 4 → parseFieldDescriptor (TX0 k).2.2.1 = some (tyX0 k) := by decide +kernel
def RX1 : String := "AyeJars$Ahead"
def TX1 : u_T := fun k => match k with
  | 0 => ("AyeJars$Ahead", "house", "LAyeJars$House;", true)
  | 1 => ("AyeJars$Ahead", "jars", "LAyeJars$Jars;", true)
  | _ => ("AyeJars$Ahead", "trial", "LAyeJars$Trial;", true)
def tyX1 : Nat → FieldType := fun k => match k with
  | 0 => .object "AyeJars$House"
  | 1 => .object "AyeJars$Jars"
  | _ => .object "AyeJars$Trial"
theorem nmX1 : ∀ a, a < 3 → ∀ b, b < 3 → a ≠ b → (TX1 a).2.1 ≠ (TX1 b).2.1 := by decide +kernel
theorem tyX1_ok : ∀ k, k < 3 → parseFieldDescriptor (TX1 k).2.2.1 = some (tyX1 k) := by decide +kernel
def RX2 : String := "AyeJars$Chances"
def TX2 : u_T := fun k => match k with
  | 0 => ("AyeJars$Chances", "house", "LAyeJars$House;", true)
  | 1 => ("AyeJars$Chances", "jars", "LAyeJars$Jars;", true)
  | 2 => ("AyeJars$Chances", "trial", "LAyeJars$Trial;", true)
  | 3 => ("AyeJars$Chances", "ahead", "LAyeJars$Ahead;", true)
  | 4 => ("AyeJars$Chances", "upper", "J", false)
  | _ => ("AyeJars$Chances", "lower", "J", false)
def tyX2 : Nat → FieldType := fun k => match k with
  | 0 => .object "AyeJars$House"
  | 1 => .object "AyeJars$Jars"
  | 2 => .object "AyeJars$Trial"
  | 3 => .object "AyeJars$Ahead"
  | 4 => .long
  | _ => .long
theorem nmX2 : ∀ a, a < 6 → ∀ b, b < 6 → a ≠ b → (TX2 a).2.1 ≠ (TX2 b).2.1 := by decide +kernel
theorem tyX2_ok : ∀ k, k < 6 → parseFieldDescriptor (TX2 k).2.2.1 = some (tyX2 k) := by decide +kernel
def RX3 : String := "AyeJars$Choices"
def TX3 : u_T := fun k => match k with
  | 0 => ("AyeJars$Choices", "house", "LAyeJars$House;", true)
  | 1 => ("AyeJars$Choices", "jars", "LAyeJars$Jars;", true)
  | 2 => ("AyeJars$Choices", "trial", "LAyeJars$Trial;", true)
  | 3 => ("AyeJars$Choices", "ahead", "LAyeJars$Ahead;", true)
  | 4 => ("AyeJars$Choices", "lying", "[I", true)
  | 5 => ("AyeJars$Choices", "lyingCount", "I", false)
  | 6 => ("AyeJars$Choices", "tried", "[I", true)
  | 7 => ("AyeJars$Choices", "sets", "[I", true)
  | 8 => ("AyeJars$Choices", "forces", "[J", true)
  | 9 => ("AyeJars$Choices", "allowed", "[J", true)
  | 10 => ("AyeJars$Choices", "best", "I", false)
  | 11 => ("AyeJars$Choices", "fewest", "I", false)
  | 12 => ("AyeJars$Choices", "most", "I", false)
  | 13 => ("AyeJars$Choices", "stages", "[LAyeJars$Trial;", true)
  | _ => ("AyeJars$Choices", "outcomes", "[I", true)
def tyX3 : Nat → FieldType := fun k => match k with
  | 0 => .object "AyeJars$House"
  | 1 => .object "AyeJars$Jars"
  | 2 => .object "AyeJars$Trial"
  | 3 => .object "AyeJars$Ahead"
  | 4 => .array .int
  | 5 => .int
  | 6 => .array .int
  | 7 => .array .int
  | 8 => .array .long
  | 9 => .array .long
  | 10 => .int
  | 11 => .int
  | 12 => .int
  | 13 => .array (.object "AyeJars$Trial")
  | _ => .array .int
theorem nmX3 : ∀ a, a < 15 → ∀ b, b < 15 → a ≠ b → (TX3 a).2.1 ≠ (TX3 b).2.1 := by decide +kernel
theorem tyX3_ok : ∀ k, k < 15 → parseFieldDescriptor (TX3 k).2.2.1 = some (tyX3 k) := by decide +kernel
def RX4 : String := "AyeJars$Formula"
def TX4 : u_T := fun k => match k with
  | 0 => ("AyeJars$Formula", "codes", "[I", true)
  | 1 => ("AyeJars$Formula", "numbers", "[I", true)
  | 2 => ("AyeJars$Formula", "stack", "[I", true)
  | 3 => ("AyeJars$Formula", "known", "[I", true)
  | 4 => ("AyeJars$Formula", "size", "I", false)
  | 5 => ("AyeJars$Formula", "units", "I", false)
  | _ => ("AyeJars$Formula", "told", "Z", false)
def tyX4 : Nat → FieldType := fun k => match k with
  | 0 => .array .int
  | 1 => .array .int
  | 2 => .array .int
  | 3 => .array .int
  | 4 => .int
  | 5 => .int
  | _ => .boolean
theorem nmX4 : ∀ a, a < 7 → ∀ b, b < 7 → a ≠ b → (TX4 a).2.1 ≠ (TX4 b).2.1 := by decide +kernel
theorem tyX4_ok : ∀ k, k < 7 → parseFieldDescriptor (TX4 k).2.2.1 = some (tyX4 k) := by decide +kernel
def RX5 : String := "AyeJars$House"
def TX5 : u_T := fun k => match k with
  | 0 => ("AyeJars$House", "breath", "[I", true)
  | 1 => ("AyeJars$House", "keeps", "[I", true)
  | 2 => ("AyeJars$House", "needs", "[I", true)
  | 3 => ("AyeJars$House", "opens", "[I", true)
  | 4 => ("AyeJars$House", "shelf", "[I", true)
  | 5 => ("AyeJars$House", "fade", "LAyeJars$Formula;", true)
  | 6 => ("AyeJars$House", "members", "I", false)
  | 7 => ("AyeJars$House", "bills", "I", false)
  | 8 => ("AyeJars$House", "yawn", "I", false)
  | _ => ("AyeJars$House", "draw", "I", false)
def tyX5 : Nat → FieldType := fun k => match k with
  | 0 => .array .int
  | 1 => .array .int
  | 2 => .array .int
  | 3 => .array .int
  | 4 => .array .int
  | 5 => .object "AyeJars$Formula"
  | 6 => .int
  | 7 => .int
  | 8 => .int
  | _ => .int
theorem nmX5 : ∀ a, a < 10 → ∀ b, b < 10 → a ≠ b → (TX5 a).2.1 ≠ (TX5 b).2.1 := by decide +kernel
theorem tyX5_ok : ∀ k, k < 10 → parseFieldDescriptor (TX5 k).2.2.1 = some (tyX5 k) := by decide +kernel
def RX6 : String := "AyeJars$Jars"
def TX6 : u_T := fun k => match k with
  | 0 => ("AyeJars$Jars", "cells", "[I", true)
  | 1 => ("AyeJars$Jars", "voted", "I", false)
  | 2 => ("AyeJars$Jars", "day", "I", false)
  | _ => ("AyeJars$Jars", "seed", "I", false)
def tyX6 : Nat → FieldType := fun k => match k with
  | 0 => .array .int
  | 1 => .int
  | 2 => .int
  | _ => .int
theorem nmX6 : ∀ a, a < 4 → ∀ b, b < 4 → a ≠ b → (TX6 a).2.1 ≠ (TX6 b).2.1 := by decide +kernel
theorem tyX6_ok : ∀ k, k < 4 → parseFieldDescriptor (TX6 k).2.2.1 = some (tyX6 k) := by decide +kernel
def RX7 : String := "AyeJars$Nose"
def TX7 : u_T := fun k => match k with
  | 0 => ("AyeJars$Nose", "house", "LAyeJars$House;", true)
  | 1 => ("AyeJars$Nose", "trial", "LAyeJars$Trial;", true)
  | 2 => ("AyeJars$Nose", "ages", "[I", true)
  | 3 => ("AyeJars$Nose", "volumes", "[I", true)
  | 4 => ("AyeJars$Nose", "holds", "[Z", true)
  | 5 => ("AyeJars$Nose", "toldAt", "[I", true)
  | 6 => ("AyeJars$Nose", "untoldAt", "[I", true)
  | 7 => ("AyeJars$Nose", "strange", "[[I", true)
  | 8 => ("AyeJars$Nose", "strangeKnown", "Z", false)
  | _ => ("AyeJars$Nose", "told", "I", false)
def tyX7 : Nat → FieldType := fun k => match k with
  | 0 => .object "AyeJars$House"
  | 1 => .object "AyeJars$Trial"
  | 2 => .array .int
  | 3 => .array .int
  | 4 => .array .boolean
  | 5 => .array .int
  | 6 => .array .int
  | 7 => .array (.array .int)
  | 8 => .boolean
  | _ => .int
theorem nmX7 : ∀ a, a < 10 → ∀ b, b < 10 → a ≠ b → (TX7 a).2.1 ≠ (TX7 b).2.1 := by decide +kernel
theorem tyX7_ok : ∀ k, k < 10 → parseFieldDescriptor (TX7 k).2.2.1 = some (tyX7 k) := by decide +kernel
def RX8 : String := "AyeJars$Reader"
def TX8 : u_T := fun k => match k with
  | 0 => ("AyeJars$Reader", "tokens", "LAyeJars$Tokens;", true)
  | 1 => ("AyeJars$Reader", "house", "LAyeJars$House;", true)
  | 2 => ("AyeJars$Reader", "memberNames", "[J", true)
  | 3 => ("AyeJars$Reader", "billNames", "[J", true)
  | 4 => ("AyeJars$Reader", "yawnTold", "Z", false)
  | 5 => ("AyeJars$Reader", "drawTold", "Z", false)
  | 6 => ("AyeJars$Reader", "lastNumber", "I", false)
  | 7 => ("AyeJars$Reader", "fault", "I", false)
  | _ => ("AyeJars$Reader", "faultPlace", "I", false)
def tyX8 : Nat → FieldType := fun k => match k with
  | 0 => .object "AyeJars$Tokens"
  | 1 => .object "AyeJars$House"
  | 2 => .array .long
  | 3 => .array .long
  | 4 => .boolean
  | 5 => .boolean
  | 6 => .int
  | 7 => .int
  | _ => .int
theorem nmX8 : ∀ a, a < 9 → ∀ b, b < 9 → a ≠ b → (TX8 a).2.1 ≠ (TX8 b).2.1 := by decide +kernel
theorem tyX8_ok : ∀ k, k < 9 → parseFieldDescriptor (TX8 k).2.2.1 = some (tyX8 k) := by decide +kernel
def RX9 : String := "AyeJars$Tokens"
def TX9 : u_T := fun k => match k with
  | 0 => ("AyeJars$Tokens", "bytes", "[B", true)
  | 1 => ("AyeJars$Tokens", "length", "I", false)
  | 2 => ("AyeJars$Tokens", "at", "I", false)
  | 3 => ("AyeJars$Tokens", "token", "I", false)
  | 4 => ("AyeJars$Tokens", "place", "I", false)
  | 5 => ("AyeJars$Tokens", "number", "I", false)
  | _ => ("AyeJars$Tokens", "name", "J", false)
def tyX9 : Nat → FieldType := fun k => match k with
  | 0 => .array .byte
  | 1 => .int
  | 2 => .int
  | 3 => .int
  | 4 => .int
  | 5 => .int
  | _ => .long
theorem nmX9 : ∀ a, a < 7 → ∀ b, b < 7 → a ≠ b → (TX9 a).2.1 ≠ (TX9 b).2.1 := by decide +kernel
theorem tyX9_ok : ∀ k, k < 7 → parseFieldDescriptor (TX9 k).2.2.1 = some (tyX9 k) := by decide +kernel
def RX10 : String := "AyeJars$Trial"
def TX10 : u_T := fun k => match k with
  | 0 => ("AyeJars$Trial", "house", "LAyeJars$House;", true)
  | 1 => ("AyeJars$Trial", "volume", "I", false)
  | 2 => ("AyeJars$Trial", "breaths", "I", false)
  | 3 => ("AyeJars$Trial", "age", "I", false)
  | 4 => ("AyeJars$Trial", "shelf", "I", false)
  | 5 => ("AyeJars$Trial", "shaken", "I", false)
  | _ => ("AyeJars$Trial", "day", "I", false)
def tyX10 : Nat → FieldType := fun k => match k with
  | 0 => .object "AyeJars$House"
  | 1 => .int
  | 2 => .int
  | 3 => .int
  | 4 => .int
  | 5 => .int
  | _ => .int
theorem nmX10 : ∀ a, a < 7 → ∀ b, b < 7 → a ≠ b → (TX10 a).2.1 ≠ (TX10 b).2.1 := by decide +kernel
theorem tyX10_ok : ∀ k, k < 7 → parseFieldDescriptor (TX10 k).2.2.1 = some (tyX10 k) := by decide +kernel
def RX11 : String := "AyeJars"
def TX11 : u_T := fun k => match k with
  | 0 => ("AyeJars", "tape", "LAyeJars$Tokens;", true)
  | 1 => ("AyeJars", "house", "LAyeJars$House;", true)
  | 2 => ("AyeJars", "draft", "LAyeJars$House;", true)
  | 3 => ("AyeJars", "reader", "LAyeJars$Reader;", true)
  | 4 => ("AyeJars", "jars", "LAyeJars$Jars;", true)
  | 5 => ("AyeJars", "boxes", "[LAyeJars$Jars;", true)
  | 6 => ("AyeJars", "boxFull", "[Z", true)
  | 7 => ("AyeJars", "acts", "LAyeJars$Acts;", true)
  | 8 => ("AyeJars", "trial", "LAyeJars$Trial;", true)
  | 9 => ("AyeJars", "ahead", "LAyeJars$Ahead;", true)
  | 10 => ("AyeJars", "chances", "LAyeJars$Chances;", true)
  | 11 => ("AyeJars", "choices", "LAyeJars$Choices;", true)
  | 12 => ("AyeJars", "nose", "LAyeJars$Nose;", true)
  | _ => ("AyeJars", "time", "I", false)
def tyX11 : Nat → FieldType := fun k => match k with
  | 0 => .object "AyeJars$Tokens"
  | 1 => .object "AyeJars$House"
  | 2 => .object "AyeJars$House"
  | 3 => .object "AyeJars$Reader"
  | 4 => .object "AyeJars$Jars"
  | 5 => .array (.object "AyeJars$Jars")
  | 6 => .array .boolean
  | 7 => .object "AyeJars$Acts"
  | 8 => .object "AyeJars$Trial"
  | 9 => .object "AyeJars$Ahead"
  | 10 => .object "AyeJars$Chances"
  | 11 => .object "AyeJars$Choices"
  | 12 => .object "AyeJars$Nose"
  | _ => .int
theorem nmX11 : ∀ a, a < 14 → ∀ b, b < 14 → a ≠ b → (TX11 a).2.1 ≠ (TX11 b).2.1 := by decide +kernel
theorem tyX11_ok : ∀ k, k < 14 → parseFieldDescriptor (TX11 k).2.2.1 = some (tyX11 k) := by decide +kernel
def RX12 : String := "AyeJarsModel"
def TX12 : u_T := fun k => match k with
  | 0 => ("AyeJarsModel", "tape", "[B", true)
  | 1 => ("AyeJarsModel", "text", "[B", true)
  | 2 => ("AyeJarsModel", "taped", "I", false)
  | 3 => ("AyeJarsModel", "size", "I", false)
  | 4 => ("AyeJarsModel", "faultKind", "I", false)
  | 5 => ("AyeJarsModel", "faultPlace", "I", false)
  | 6 => ("AyeJarsModel", "at", "I", false)
  | 7 => ("AyeJarsModel", "end", "I", false)
  | 8 => ("AyeJarsModel", "token", "I", false)
  | 9 => ("AyeJarsModel", "number", "I", false)
  | 10 => ("AyeJarsModel", "name", "J", false)
  | 11 => ("AyeJarsModel", "members", "[I", true)
  | 12 => ("AyeJarsModel", "bills", "[I", true)
  | 13 => ("AyeJarsModel", "units", "[I", true)
  | 14 => ("AyeJarsModel", "yawn", "[I", true)
  | 15 => ("AyeJarsModel", "draw", "[I", true)
  | 16 => ("AyeJarsModel", "breath", "[I", true)
  | 17 => ("AyeJarsModel", "keeps", "[I", true)
  | 18 => ("AyeJarsModel", "needs", "[I", true)
  | 19 => ("AyeJarsModel", "opens", "[I", true)
  | 20 => ("AyeJarsModel", "shelfTold", "[I", true)
  | 21 => ("AyeJarsModel", "ruleFrom", "[I", true)
  | 22 => ("AyeJarsModel", "ruleTo", "[I", true)
  | 23 => ("AyeJarsModel", "hasFade", "[Z", true)
  | 24 => ("AyeJarsModel", "hasYawn", "[Z", true)
  | 25 => ("AyeJarsModel", "isDraw", "[Z", true)
  | 26 => ("AyeJarsModel", "mName", "[J", true)
  | 27 => ("AyeJarsModel", "bName", "[J", true)
  | 28 => ("AyeJarsModel", "code", "[I", true)
  | 29 => ("AyeJarsModel", "codeNumber", "[I", true)
  | 30 => ("AyeJarsModel", "eWhat", "[I", true)
  | 31 => ("AyeJarsModel", "eSign", "[I", true)
  | 32 => ("AyeJarsModel", "pile", "[I", true)
  | 33 => ("AyeJarsModel", "bank", "I", false)
  | 34 => ("AyeJarsModel", "rb", "I", false)
  | 35 => ("AyeJarsModel", "codes", "I", false)
  | 36 => ("AyeJarsModel", "within", "I", false)
  | 37 => ("AyeJarsModel", "piled", "I", false)
  | 38 => ("AyeJarsModel", "unitsInRule", "I", false)
  | 39 => ("AyeJarsModel", "jarVolume", "I", false)
  | 40 => ("AyeJarsModel", "jarIn", "I", false)
  | 41 => ("AyeJarsModel", "jarAge", "I", false)
  | 42 => ("AyeJarsModel", "jarShelf", "I", false)
  | 43 => ("AyeJarsModel", "jarShaken", "I", false)
  | 44 => ("AyeJarsModel", "jarDay", "I", false)
  | 45 => ("AyeJarsModel", "all", "[I", true)
  | 46 => ("AyeJarsModel", "was", "[I", true)
  | 47 => ("AyeJarsModel", "acts", "I", false)
  | 48 => ("AyeJarsModel", "undone", "I", false)
  | 49 => ("AyeJarsModel", "kept", "[I", true)
  | 50 => ("AyeJarsModel", "passesWith", "[Z", true)
  | 51 => ("AyeJarsModel", "laidRow", "[I", true)
  | 52 => ("AyeJarsModel", "choice", "[I", true)
  | 53 => ("AyeJarsModel", "laid", "I", false)
  | 54 => ("AyeJarsModel", "queued", "I", false)
  | 55 => ("AyeJarsModel", "sAge", "[I", true)
  | 56 => ("AyeJarsModel", "sVolume", "[I", true)
  | 57 => ("AyeJarsModel", "sIs", "[I", true)
  | 58 => ("AyeJarsModel", "sTold", "[I", true)
  | 59 => ("AyeJarsModel", "sUntold", "[I", true)
  | 60 => ("AyeJarsModel", "inFits", "[I", true)
  | 61 => ("AyeJarsModel", "sniffs", "I", false)
  | 62 => ("AyeJarsModel", "time", "I", false)
  | 63 => ("AyeJarsModel", "fitting", "I", false)
  | 64 => ("AyeJarsModel", "boxAll", "[I", true)
  | _ => ("AyeJarsModel", "isBoxed", "[Z", true)
def tyX12 : Nat → FieldType := fun k => match k with
  | 0 => .array .byte
  | 1 => .array .byte
  | 2 => .int
  | 3 => .int
  | 4 => .int
  | 5 => .int
  | 6 => .int
  | 7 => .int
  | 8 => .int
  | 9 => .int
  | 10 => .long
  | 11 => .array .int
  | 12 => .array .int
  | 13 => .array .int
  | 14 => .array .int
  | 15 => .array .int
  | 16 => .array .int
  | 17 => .array .int
  | 18 => .array .int
  | 19 => .array .int
  | 20 => .array .int
  | 21 => .array .int
  | 22 => .array .int
  | 23 => .array .boolean
  | 24 => .array .boolean
  | 25 => .array .boolean
  | 26 => .array .long
  | 27 => .array .long
  | 28 => .array .int
  | 29 => .array .int
  | 30 => .array .int
  | 31 => .array .int
  | 32 => .array .int
  | 33 => .int
  | 34 => .int
  | 35 => .int
  | 36 => .int
  | 37 => .int
  | 38 => .int
  | 39 => .int
  | 40 => .int
  | 41 => .int
  | 42 => .int
  | 43 => .int
  | 44 => .int
  | 45 => .array .int
  | 46 => .array .int
  | 47 => .int
  | 48 => .int
  | 49 => .array .int
  | 50 => .array .boolean
  | 51 => .array .int
  | 52 => .array .int
  | 53 => .int
  | 54 => .int
  | 55 => .array .int
  | 56 => .array .int
  | 57 => .array .int
  | 58 => .array .int
  | 59 => .array .int
  | 60 => .array .int
  | 61 => .int
  | 62 => .int
  | 63 => .int
  | 64 => .array .int
  | _ => .array .boolean
theorem nmX12 : ∀ a, a < 66 → ∀ b, b < 66 → a ≠ b → (TX12 a).2.1 ≠ (TX12 b).2.1 := by decide +kernel
theorem tyX12_ok : ∀ k, k < 66 → parseFieldDescriptor (TX12 k).2.2.1 = some (tyX12 k) := by decide +kernel
abbrev vwCl : List vw_C := [(RX0, TX0, 4), (RX1, TX1, 3), (RX2, TX2, 6), (RX3, TX3, 15), (RX4, TX4, 7), (RX5, TX5, 10), (RX6, TX6, 4), (RX7, TX7, 10), (RX8, TX8, 9), (RX9, TX9, 7), (RX10, TX10, 7), (RX11, TX11, 14), (RX12, TX12, 66)]
end
section
/-! A machine of plain lists that runs the law on a fresh object: ints are codes below 2^32, or unknowns above; a place k + 1 is the k-th cell that was made, place 0 the script -/
abbrev rV : Type := Nat ⊕ (Nat ⊕ Option Nat)
abbrev rC : Type := Nat × List rV
abbrev rE : Type := List (Nat × Nat)
abbrev rK : Type := List (Nat × rV)
/-- the cells: how many, and they in rows of sixteen -/
abbrev rD : Type := Nat × List (List rC)
abbrev rX : Type := Nat × rK × List rV × rD × Nat × Nat
abbrev rO : Type := rX ⊕ ((Nat × Nat) ⊕ ((rX × rX) ⊕ ((Option rV) ⊕ (Nat × List rV × List rV))))
abbrev rF : Type := rE × Option rV × rD
def ri (sg : Nat → Int32) (n : Nat) : Int32 := if n < 4294967296 then nI n else sg (n - 4294967296)
def ra (b B : Nat) (k : Nat) : Nat := match k with
  | 0 => b
  | k + 1 => B + k
def rv (sg : Nat → Int32) (b B : Nat) (v : rV) : Value := match v with
  | .inl n => .int (ri sg n)
  | .inr (.inl z) => .long (lN z)
  | .inr (.inr (some k)) => .ref (ra b B k)
  | .inr (.inr none) => .null
def rI (sg : Nat → Int32) (v : rV) : Int32 := match v with
  | .inl n => ri sg n
  | _ => 0
def rL (v : rV) : Int64 := match v with
  | .inr (.inl z) => lN z
  | _ => 0
def rR (b B : Nat) (v : rV) : Option Nat := match v with
  | .inr (.inr (some k)) => some (ra b B k)
  | _ => none
def rd : rV := .inr (.inr none)
def rA (sg : Nat → Int32) (b B : Nat) (t : Nat) (l : List rV) : vp_A := (l.length, if t = 15 then .inr (.inl (fun j => rL (l.getD j rd))) else if t < 17 then .inl (fun j => rI sg (l.getD j rd)) else .inr (.inr (.inr (.inr (fun j => rR b B (l.getD j rd))))))
def rce (sg : Nat → Int32) (b B : Nat) (cy : Nat → ClassId) (q : rC) : va_E := if q.1 < 13 then .inr (q.1, q.2.map (rv sg b B)) else .inl (cy q.1, rA sg b B q.1 q.2)
def rW (sg : Nat → Int32) (b B : Nat) (cy : Nat → ClassId) (aw : List rC) : va_W := aw.zipIdx.map (fun q => (B + q.2, rce sg b B cy q.1))
def rG (B : Nat) : Nat → Prop := fun q => B ≤ q
theorem rW_at {sg : Nat → Int32} {b B : Nat} {cy : Nat → ClassId} (aw : List rC) (k : Nat) : (rW sg b B cy aw)[k]? = aw[k]?.map (fun q => (B + k, rce sg b B cy q)) := by
  unfold rW
  rw [List.getElem?_map, List.getElem?_zipIdx]
  cases aw[k]? with
  | none => rfl
  | some q => simp
theorem rW_get {sg : Nat → Int32} {b B : Nat} {cy : Nat → ClassId} {aw : List rC} {k : Nat} {q : rC} (h : aw[k]? = some q) : (rW sg b B cy aw)[k]? = some (B + k, rce sg b B cy q) := by
  rw [rW_at, h]; rfl
theorem rW_set {sg : Nat → Int32} {b B : Nat} {cy : Nat → ClassId} (aw : List rC) (k : Nat) (q : rC) : (rW sg b B cy aw).set k (B + k, rce sg b B cy q) = rW sg b B cy (aw.set k q) := by
  apply List.ext_getElem?
  intro i
  rw [rW_at, List.getElem?_set, List.getElem?_set]
  have hl : (rW sg b B cy aw).length = aw.length := by unfold rW; simp
  by_cases e : k = i
  · subst e
    by_cases h : k < aw.length
    · simp [hl, h]
    · simp [hl, h]
  · simp [e, rW_at]
theorem rW_app {sg : Nat → Int32} {b B : Nat} {cy : Nat → ClassId} (aw : List rC) (q : rC) : rW sg b B cy (aw ++ [q]) = rW sg b B cy aw ++ [(B + aw.length, rce sg b B cy q)] := by
  unfold rW
  rw [List.zipIdx_append]
  simp
theorem rW_D {sg : Nat → Int32} {b B : Nat} {cy : Nat → ClassId} (aw : List rC) : va_D (rG B) (rW sg b B cy aw) := by
  have key : ∀ (k : Nat) (q : Nat × va_E), (rW sg b B cy aw)[k]? = some q → q.1 = B + k := by
    intro k q h
    rw [rW_at] at h
    cases hk : aw[k]? with
    | none => rw [hk] at h; cases h
    | some z => rw [hk] at h; cases h; rfl
  refine ⟨fun i j x y hi hj hxy => ?_, fun k q hk => ?_⟩
  · have h1 := key i x hi
    have h2 := key j y hj
    omega
  · have h1 := key k q hk
    show B ≤ q.1
    omega
/-! codes -/
def cN (x : Int32) : Nat := x.toUInt32.toNat
def cL (x : Int64) : Nat := x.toUInt64.toNat
theorem cN_lt (x : Int32) : cN x < 4294967296 := x.toUInt32.toNat_lt
theorem nI_cN (x : Int32) : nI (cN x) = x := by
  unfold nI cN
  apply Int32.toBitVec_inj.mp
  simp
theorem lN_cL (x : Int64) : lN (cL x) = x := by
  unfold lN cL
  apply Int64.toBitVec_inj.mp
  simp
theorem ri_c {sg : Nat → Int32} {n : Nat} (h : n < 4294967296) : ri sg n = nI n := if_pos h
theorem ri_cN {sg : Nat → Int32} (x : Int32) : ri sg (cN x) = x := by rw [ri_c (cN_lt x), nI_cN]
theorem ri_u {sg : Nat → Int32} (j : Nat) : ri sg (4294967296 + j) = sg j := by
  unfold ri
  rw [if_neg (by omega), Nat.add_sub_cancel_left]
/-! the order of ints as an order of numbers -/
def bz (x : Int32) : Nat := (x.toInt + 2147483648).toNat
def un (n : Nat) : Nat := Nat.mod (Nat.add n 2147483648) 4294967296
theorem bz_in (x : Int32) : (bz x : Int) = x.toInt + 2147483648 := by
  unfold bz
  have h1 := x.minValue_le_toInt
  have h2 : Int32.minValue.toInt = -2147483648 := by decide
  omega
theorem bz_lt (x y : Int32) : x < y ↔ bz x < bz y := by
  rw [Int32.lt_iff_toInt_lt]
  have h1 := bz_in x
  have h2 := bz_in y
  omega
theorem bz_le (x y : Int32) : x ≤ y ↔ bz x ≤ bz y := by
  rw [Int32.le_iff_toInt_le]
  have h1 := bz_in x
  have h2 := bz_in y
  omega
theorem bz_eq (x y : Int32) : x = y ↔ bz x = bz y := by
  rw [← Int32.toInt_inj]
  have h1 := bz_in x
  have h2 := bz_in y
  omega
theorem bz_top (x : Int32) : bz x < 4294967296 := by
  have h1 := bz_in x
  have h2 := x.toInt_lt
  omega
theorem nI_int (n : Nat) : (nI n).toInt = (n : Int).bmod 4294967296 := by
  unfold nI
  simp [Int32.toInt_ofNat']
theorem bz_nI {n : Nat} (h : n < 4294967296) : bz (nI n) = un n := by
  have h1 := bz_in (nI n)
  rw [nI_int, Int.bmod_def] at h1
  unfold un
  show bz (nI n) = (n + 2147483648) % 4294967296
  omega
theorem un_un {n : Nat} (h : n < 4294967296) : un (un n) = n := by
  unfold un
  show ((n + 2147483648) % 4294967296 + 2147483648) % 4294967296 = n
  omega
theorem un_lt (n : Nat) : un n < 4294967296 := Nat.mod_lt _ (by decide)
theorem un_bz (x : Int32) : nI (un (bz x)) = x := by
  rw [bz_eq, bz_nI (un_lt _), un_un (bz_top x)]
/-! what is known of the unknowns -/
def eOK (sg : Nat → Int32) (E : rE) : Prop := ∀ (j lo hi : Nat), E[j]? = some (lo, hi) → lo ≤ bz (sg j) ∧ bz (sg j) ≤ hi
def iu (E : rE) (j : Nat) : Nat × Nat := E.getD j (0, 4294967295)
def iv (E : rE) (n : Nat) : Nat × Nat := bif Nat.ble n 4294967295 then (un n, un n) else iu E (Nat.sub n 4294967296)
theorem iu_ok {sg : Nat → Int32} {E : rE} (h : eOK sg E) (j : Nat) : (iu E j).1 ≤ bz (sg j) ∧ bz (sg j) ≤ (iu E j).2 := by
  unfold iu
  rw [List.getD_eq_getElem?_getD]
  cases hj : E[j]? with
  | none =>
    have := bz_top (sg j)
    exact ⟨Nat.zero_le _, by show _ ≤ 4294967295; omega⟩
  | some q => exact h j q.1 q.2 hj
theorem iv_ok {sg : Nat → Int32} {E : rE} (h : eOK sg E) (n : Nat) : (iv E n).1 ≤ bz (ri sg n) ∧ bz (ri sg n) ≤ (iv E n).2 := by
  unfold iv
  cases hb : Nat.ble n 4294967295 with
  | true =>
    have hn : n < 4294967296 := Nat.lt_succ_of_le (Nat.le_of_ble_eq_true hb)
    rw [ri_c hn, bz_nI hn, cond_true]
    generalize un n = z
    exact ⟨Nat.le_refl z, Nat.le_refl z⟩
  | false =>
    have hn : ¬ n < 4294967296 := fun q => by
      have := Nat.ble_eq_true_of_le (Nat.le_of_lt_succ q)
      rw [hb] at this
      cases this
    unfold ri
    rw [if_neg hn]
    exact iu_ok h _
/-- the value, where it is known -/
def nd (E : rE) (n : Nat) : Option Nat := bif Nat.ble n 4294967295 then some n else (bif Nat.beq (iu E (Nat.sub n 4294967296)).1 (iu E (Nat.sub n 4294967296)).2 then some (un (iu E (Nat.sub n 4294967296)).1) else none)
theorem nd_ok {sg : Nat → Int32} {E : rE} (h : eOK sg E) {n k : Nat} (hk : nd E n = some k) : k < 4294967296 ∧ ri sg n = nI k := by
  unfold nd at hk
  cases hb : Nat.ble n 4294967295 with
  | true =>
    rw [hb] at hk
    cases hk
    have hn : n < 4294967296 := Nat.lt_succ_of_le (Nat.le_of_ble_eq_true hb)
    exact ⟨hn, ri_c hn⟩
  | false =>
    rw [hb] at hk
    have hn : ¬ n < 4294967296 := fun q => by
      have := Nat.ble_eq_true_of_le (Nat.le_of_lt_succ q)
      rw [hb] at this
      cases this
    cases hq : Nat.beq (iu E (Nat.sub n 4294967296)).1 (iu E (Nat.sub n 4294967296)).2 with
    | false => rw [hq] at hk; cases hk
    | true =>
      rw [hq, cond_false, cond_true] at hk
      have hk := Option.some.inj hk
      subst hk
      have h1 := Nat.eq_of_beq_eq_true hq
      have h2 := iu_ok h (Nat.sub n 4294967296)
      have h3 : bz (sg (Nat.sub n 4294967296)) = (iu E (Nat.sub n 4294967296)).1 := by omega
      refine ⟨un_lt _, ?_⟩
      unfold ri
      rw [if_neg hn, ← h3, un_bz]
      rfl
/-! lists, read and written at a place, so that the kernel goes straight -/
noncomputable def rget {α : Type} (l : List α) : Nat → Option α := List.rec (motive := fun _ => Nat → Option α) (fun _ => none) (fun x _ ih n => Nat.rec (motive := fun _ => Option α) (some x) (fun m _ => ih m) n) l
theorem rget_eq {α : Type} (l : List α) : ∀ n, rget l n = l[n]? := by
  induction l with
  | nil => intro n; simp [rget]
  | cons x t ih =>
    intro n
    cases n with
    | zero => rfl
    | succ m => rw [List.getElem?_cons_succ, ← ih m]; rfl
noncomputable def rset {α β : Type} (v : α) (l : List α) : Nat → (List α → β) → β := List.rec (motive := fun _ => Nat → (List α → β) → β) (fun _ k => k []) (fun x t ih n k => Nat.rec (motive := fun _ => β) (k (v :: t)) (fun m _ => ih m (fun t' => k (x :: t'))) n) l
theorem rset_eq {α β : Type} (v : α) (l : List α) : ∀ (n : Nat) (k : List α → β), rset v l n k = k (l.set n v) := by
  induction l with
  | nil => intro n k; rfl
  | cons x t ih =>
    intro n k
    cases n with
    | zero => rfl
    | succ m =>
      show rset v t m (fun t' => k (x :: t')) = _
      rw [ih]
      rfl
noncomputable def fN {β : Type} (n : Nat) (k : Nat → β) : β := Nat.rec (motive := fun _ => β) (k 0) (fun m _ => k (Nat.succ m)) n
theorem fN_eq {β : Type} (n : Nat) (k : Nat → β) : fN n k = k n := by cases n <;> rfl
noncomputable def lget (lv : rK) (i : Nat) : Option rV := List.rec (motive := fun _ => Option rV) none (fun q _ ih => bif Nat.beq q.1 i then some q.2 else ih) lv
theorem lget_mem {lv : rK} {i : Nat} {v : rV} (h : lget lv i = some v) : (i, v) ∈ lv := by
  induction lv with
  | nil => cases h
  | cons q t ih =>
    have h' : (bif Nat.beq q.1 i then some q.2 else lget t i) = some v := h
    cases hb : Nat.beq q.1 i with
    | true =>
      rw [hb] at h'
      cases h'
      have := Nat.eq_of_beq_eq_true hb
      subst this
      exact List.mem_cons_self
    | false =>
      rw [hb] at h'
      exact List.mem_cons_of_mem _ (ih h')
def ct (v : rV) : Nat := match v with
  | .inr (.inl _) => 2
  | _ => 1
theorem ct_eq {sg : Nat → Int32} {b B : Nat} (v : rV) : (rv sg b B v).category = ct v := by
  match v with
  | .inl _ => rfl
  | .inr (.inl _) => rfl
  | .inr (.inr (some _)) => rfl
  | .inr (.inr none) => rfl
/-! the cells in rows of sixteen -/
noncomputable def rsnoc {α β : Type} (v : α) (l : List α) (k : List α → β) : β := List.rec (motive := fun _ => (List α → β) → β) (fun k => k [v]) (fun x _ ih k => ih (fun t => k (x :: t))) l k
theorem rsnoc_eq {α β : Type} (v : α) (l : List α) : ∀ (k : List α → β), rsnoc v l k = k (l ++ [v]) := by
  induction l with
  | nil => intro k; rfl
  | cons x t ih =>
    intro k
    show rsnoc v t (fun t => k (x :: t)) = _
    rw [ih]
    rfl
noncomputable def wget (D : rD) (k : Nat) : Option rC := match rget D.2 (Nat.div k 16) with
  | some ch => rget ch (Nat.mod k 16)
  | none => none
noncomputable def wset {β : Type} (v : rC) (D : rD) (k : Nat) (K : rD → β) : β := match rget D.2 (Nat.div k 16) with
  | some ch => rset v ch (Nat.mod k 16) (fun ch => rset ch D.2 (Nat.div k 16) (fun l => K (D.1, l)))
  | none => K D
noncomputable def wsnoc {β : Type} (v : rC) (D : rD) (K : rD → β) : β := fN D.1 (fun n => match rget D.2 (Nat.div n 16) with
  | some ch => rsnoc v ch (fun ch => rset ch D.2 (Nat.div n 16) (fun l => K (Nat.succ n, l)))
  | none => rsnoc [v] D.2 (fun l => K (Nat.succ n, l)))
/-- the rows hold the list -/
def rep (D : rD) (aw : List rC) : Prop := D.1 = aw.length ∧ ∀ k, wget D k = aw[k]?
theorem rep_set {β : Type} {D : rD} {aw : List rC} (h : rep D aw) {k : Nat} (hk : k < aw.length) (v : rC) : ∃ D' : rD, rep D' (aw.set k v) ∧ ∀ K : rD → β, wset v D k K = K D' := by
  have hg := h.2 k
  unfold wget at hg
  cases hc : rget D.2 (Nat.div k 16) with
  | none =>
    rw [hc] at hg
    rw [List.getElem?_eq_getElem hk] at hg
    cases hg
  | some ch =>
    rw [hc] at hg
    refine ⟨(D.1, D.2.set (Nat.div k 16) (ch.set (Nat.mod k 16) v)), ⟨by rw [List.length_set]; exact h.1, fun i => ?_⟩, fun K => ?_⟩
    · have hi := h.2 i
      unfold wget at hi ⊢
      rw [rget_eq] at hc hi ⊢
      have hl : Nat.div k 16 < D.2.length := (List.getElem?_eq_some_iff.mp hc).1
      have hl2 : Nat.mod k 16 < ch.length := by
        dsimp only at hg
        rw [rget_eq] at hg
        have hg : ch[Nat.mod k 16]? = some aw[k] := by
          have e : aw[k]? = some aw[k] := List.getElem?_eq_getElem hk
          rw [← e]; exact hg
        exact (List.getElem?_eq_some_iff.mp hg).1
      rw [List.getElem?_set, List.getElem?_set]
      by_cases e : k = i
      · subst e
        rw [if_pos rfl, if_pos hl, if_pos rfl, if_pos hk]
        dsimp only
        rw [rget_eq, List.getElem?_set, if_pos rfl, if_pos hl2]
      · rw [if_neg e, ← hi]
        by_cases e2 : Nat.div k 16 = Nat.div i 16
        · rw [if_pos e2, if_pos hl, ← e2, hc]
          dsimp only
          rw [rget_eq, rget_eq, List.getElem?_set, if_neg]
          intro e3
          have h1 : k / 16 = i / 16 := e2
          have h2 : k % 16 = i % 16 := e3
          omega
        · rw [if_neg e2]
    · unfold wset
      rw [hc]
      dsimp only
      rw [rset_eq, rset_eq]
theorem rep_snoc {β : Type} {D : rD} {aw : List rC} (h : rep D aw) (v : rC) : ∃ D' : rD, rep D' (aw ++ [v]) ∧ ∀ K : rD → β, wsnoc v D K = K D' := by
  have hlast := h.2 aw.length
  have hnone : aw[aw.length]? = none := List.getElem?_eq_none (Nat.le_refl _)
  rw [hnone] at hlast
  have hprev : ∀ i, i < aw.length → ∃ ch, D.2[i / 16]? = some ch ∧ i % 16 < ch.length := by
    intro i hi
    have h1 := h.2 i
    unfold wget at h1
    rw [rget_eq, List.getElem?_eq_getElem hi] at h1
    cases hc : D.2[Nat.div i 16]? with
    | none => rw [hc] at h1; cases h1
    | some ch =>
      rw [hc] at h1
      dsimp only at h1
      rw [rget_eq] at h1
      exact ⟨ch, by first | rfl | exact hc, (List.getElem?_eq_some_iff.mp h1).1⟩
  unfold wget at hlast
  rw [rget_eq] at hlast
  cases hc : D.2[Nat.div aw.length 16]? with
  | some ch =>
    rw [hc] at hlast
    dsimp only at hlast
    rw [rget_eq] at hlast
    have hlen : ch.length = aw.length % 16 := by
      have h1 : ch.length ≤ aw.length % 16 := by
        rcases Nat.lt_or_ge (aw.length % 16) ch.length with q | q
        · have : ch[Nat.mod aw.length 16]? = some _ := List.getElem?_eq_getElem q
          rw [this] at hlast
          cases hlast
        · exact q
      have h2 : aw.length % 16 ≤ ch.length := by
        by_cases e : aw.length % 16 = 0
        · omega
        · obtain ⟨ch', g1, g2⟩ := hprev (aw.length - 1) (by omega)
          have e2 : (aw.length - 1) / 16 = aw.length / 16 := by omega
          rw [e2] at g1
          have hc' : D.2[aw.length / 16]? = some ch := hc
          rw [hc'] at g1
          cases g1
          omega
      omega
    refine ⟨(aw.length + 1, D.2.set (aw.length / 16) (ch ++ [v])), ⟨by rw [List.length_append]; rfl, fun i => ?_⟩, fun K => ?_⟩
    · have hi := h.2 i
      unfold wget at hi ⊢
      rw [rget_eq] at hi ⊢
      have hl : aw.length / 16 < D.2.length := (List.getElem?_eq_some_iff.mp hc).1
      have hc' : D.2[aw.length / 16]? = some ch := hc
      show (match (D.2.set (aw.length / 16) (ch ++ [v]))[i / 16]? with | some ch => rget ch (i % 16) | none => none) = _
      have hi : (match D.2[i / 16]? with | some ch => rget ch (i % 16) | none => none) = aw[i]? := hi
      rw [List.getElem?_set]
      by_cases e2 : aw.length / 16 = i / 16
      · rw [if_pos e2, if_pos hl]
        dsimp only
        rw [← e2, hc'] at hi
        dsimp only at hi
        rw [rget_eq] at hi ⊢
        rcases Nat.lt_trichotomy i aw.length with q | q | q
        · rw [List.getElem?_append_left (by omega), List.getElem?_append_left q, hi]
        · subst q
          rw [List.getElem?_append_right (by omega), List.getElem?_append_right (Nat.le_refl _)]
          simp [hlen]
        · rw [List.getElem?_append_right (by omega), List.getElem?_append_right (by omega)]
          have h1 : i % 16 - ch.length ≠ 0 := by omega
          have h2 : i - aw.length ≠ 0 := by omega
          rw [List.getElem?_eq_none (by simp; omega), List.getElem?_eq_none (by simp; omega)]
      · rw [if_neg e2, hi]
        rcases Nat.lt_or_ge i aw.length with q | q
        · rw [List.getElem?_append_left q]
        · rw [List.getElem?_append_right q, List.getElem?_eq_none q, List.getElem?_eq_none (by simp; omega)]
    · unfold wsnoc
      rw [fN_eq, h.1, rget_eq, hc]
      dsimp only
      rw [rsnoc_eq, rset_eq]
      try rfl
  | none =>
    have hout : D.2.length = aw.length / 16 := by
      have h1 : D.2.length ≤ aw.length / 16 := List.getElem?_eq_none_iff.mp hc
      have h2 : aw.length / 16 ≤ D.2.length := by
        by_cases e : aw.length < 16
        · omega
        · obtain ⟨ch', g1, g2⟩ := hprev (aw.length / 16 * 16 - 1) (by omega)
          have := (List.getElem?_eq_some_iff.mp g1).1
          omega
      omega
    have hm : aw.length % 16 = 0 := by
      by_cases e : aw.length % 16 = 0
      · exact e
      · obtain ⟨ch', g1, g2⟩ := hprev (aw.length - 1) (by omega)
        have e2 : (aw.length - 1) / 16 = aw.length / 16 := by omega
        rw [e2] at g1
        have hc' : D.2[aw.length / 16]? = none := hc
        rw [hc'] at g1
        cases g1
    refine ⟨(aw.length + 1, D.2 ++ [[v]]), ⟨by rw [List.length_append]; rfl, fun i => ?_⟩, fun K => ?_⟩
    · have hi := h.2 i
      unfold wget at hi ⊢
      rw [rget_eq] at hi ⊢
      show (match (D.2 ++ [[v]])[i / 16]? with | some ch => rget ch (i % 16) | none => none) = _
      have hi : (match D.2[i / 16]? with | some ch => rget ch (i % 16) | none => none) = aw[i]? := hi
      rcases Nat.lt_trichotomy i aw.length with q | q | q
      · rw [List.getElem?_append_left (by omega), List.getElem?_append_left q, hi]
      · subst q
        rw [List.getElem?_append_right (by omega), List.getElem?_append_right (Nat.le_refl _), hout, Nat.sub_self, Nat.sub_self]
        dsimp only [List.getElem?_cons_zero]
        rw [rget_eq, hm]
        rfl
      · by_cases e2 : i / 16 = aw.length / 16
        · rw [List.getElem?_append_right (by omega), List.getElem?_append_right (by omega), hout, e2, Nat.sub_self]
          dsimp only [List.getElem?_cons_zero]
          rw [rget_eq, List.getElem?_eq_none (by simp; omega), List.getElem?_eq_none (by simp; omega)]
        · rw [List.getElem?_append_right (by omega), List.getElem?_append_right (by omega), List.getElem?_eq_none (by simp; omega), List.getElem?_eq_none (by simp; omega)]
    · unfold wsnoc
      rw [fN_eq, h.1, rget_eq, hc]
      dsimp only
      rw [rsnoc_eq]
      try rfl
theorem rep_get {D : rD} {aw : List rC} (h : rep D aw) {k : Nat} {q : rC} (hq : wget D k = some q) : aw[k]? = some q := by rw [← h.2 k]; exact hq
theorem rep_0 : rep (0, []) [] := ⟨rfl, fun k => by simp [wget, rget_eq]⟩
end
section
/-! one instruction of the plain machine -/
noncomputable def lput {β : Type} (lv : rK) (i : Nat) (v : rV) (k : rK → β) : β := List.rec (motive := fun _ => (rK → β) → β) (fun k => k []) (fun q _ ih k => bif (!(Nat.beq q.1 i) && !(Nat.beq (Nat.succ q.1) i && Nat.beq (ct q.2) 2)) then ih (fun t => k (q :: t)) else ih k) lv (fun t => k ((i, v) :: t))
noncomputable def lput2 {β : Type} (lv : rK) (i : Nat) (v : rV) (k : rK → β) : β := List.rec (motive := fun _ => (rK → β) → β) (fun k => k []) (fun q _ ih k => bif (!(Nat.beq q.1 i) && (!(Nat.beq q.1 (Nat.succ i)) && !(Nat.beq (Nat.succ q.1) i && Nat.beq (ct q.2) 2))) then ih (fun t => k (q :: t)) else ih k) lv (fun t => k ((i, v) :: t))
noncomputable def kf {α : Type} (l : List ((Nat × Nat) × α)) (a i : Nat) : Option α := List.rec (motive := fun _ => Option α) none (fun q _ ih => bif (Nat.beq q.1.1 a && Nat.beq q.1.2 i) then some q.2 else ih) l
theorem kf_mem {α : Type} {l : List ((Nat × Nat) × α)} {a i : Nat} {v : α} (h : kf l a i = some v) : ((a, i), v) ∈ l := by
  induction l with
  | nil => cases h
  | cons q t ih =>
    have h' : (bif (Nat.beq q.1.1 a && Nat.beq q.1.2 i) then some q.2 else kf t a i) = some v := h
    cases hb : (Nat.beq q.1.1 a && Nat.beq q.1.2 i) with
    | true =>
      rw [hb] at h'
      cases h'
      rw [Bool.and_eq_true] at hb
      have h1 := Nat.eq_of_beq_eq_true hb.1
      have h2 := Nat.eq_of_beq_eq_true hb.2
      subst h1
      subst h2
      exact List.mem_cons_self
    | false =>
      rw [hb] at h'
      exact List.mem_cons_of_mem _ (ih h')
/-- the ints' own operations -/
def op (k : Nat) (x y : Int32) : Int32 := match k with
  | 0 => x + y
  | 1 => x - y
  | 2 => x * y
  | 3 => x &&& y
  | 4 => x ||| y
  | 5 => x ^^^ y
  | 6 => x <<< (y &&& 31)
  | 7 => x >>> (y &&& 31)
  | 8 => x / y
  | _ => x - x / y * y
/-- what is known of an operation on an unknown -/
noncomputable def sp (k x y : Nat) : Option Nat := match k with
  | 0 => bif Nat.beq x 0 then some y else bif Nat.beq y 0 then some x else none
  | 3 => bif (Nat.beq y 63 && (Nat.ble 4294967296 x && Nat.ble x 4294967303)) then some (Nat.add x 8) else none
  | 7 => bif Nat.beq x 0 then some 0 else bif (Nat.ble 4294967296 x && (Nat.ble x 4294967303 && Nat.ble y 31)) then some (Nat.add 4294967312 (Nat.add (Nat.mul 32 (Nat.sub x 4294967296)) y)) else none
  | _ => none
/-- an unknown of a narrow kind is split; another ends the walk -/
noncomputable def spl (E : rE) (n : Nat) : Option rO := bif (Nat.ble 4294967296 n && Nat.ble (Nat.sub (iv E n).2 (iv E n).1) 64) then some (.inr (.inl (Nat.sub n 4294967296, Nat.succ (iv E n).1))) else none
noncomputable def aop (k : Nat) (E : rE) (pc : Nat) (lv : rK) (st : List rV) (aw : rD) (c z : Nat) : Option rO := match st with
  | .inl y :: .inl x :: r => match nd E x with
    | some a => match nd E y with
      | some d => bif (Nat.ble 8 k && Nat.beq d 0) then none else fN (cN (op k (nI a) (nI d))) (fun n => some (.inl (Nat.add pc 1, lv, .inl n :: r, aw, c, z)))
      | none => match sp k x y with
        | some n => some (.inl (Nat.add pc 1, lv, .inl n :: r, aw, c, z))
        | none => spl E y
    | none => match sp k x y with
      | some n => some (.inl (Nat.add pc 1, lv, .inl n :: r, aw, c, z))
      | none => spl E x
  | _ => none
/-- the longs' own operations -/
def opL (k : Nat) (x y : Int64) : Int64 := match k with
  | 0 => x + y
  | 1 => x - y
  | 2 => x &&& y
  | _ => x ||| y
def opS (k : Nat) (x : Int64) (y : Int32) : Int64 := match k with
  | 0 => x <<< (y.toInt64 &&& 63)
  | 1 => x >>> (y.toInt64 &&& 63)
  | _ => (x.toUInt64 >>> (y.toInt64.toUInt64 &&& Int64.toUInt64 63)).toInt64
noncomputable def aopL (k : Nat) (pc : Nat) (lv : rK) (st : List rV) (aw : rD) (c z : Nat) : Option rO := match st with
  | .inr (.inl y) :: .inr (.inl x) :: r => fN (cL (opL k (lN x) (lN y))) (fun n => some (.inl (Nat.add pc 1, lv, .inr (.inl n) :: r, aw, c, z)))
  | _ => none
noncomputable def aopS (k : Nat) (E : rE) (pc : Nat) (lv : rK) (st : List rV) (aw : rD) (c z : Nat) : Option rO := match st with
  | .inl y :: .inr (.inl x) :: r => match nd E y with
    | some d => fN (cL (opS k (lN x) (nI d))) (fun n => some (.inl (Nat.add pc 1, lv, .inr (.inl n) :: r, aw, c, z)))
    | none => none
  | _ => none
/-- is x less than y: known, or which unknown to split where, or neither -/
noncomputable def ltD (E : rE) (x y : Nat) : Option (Bool ⊕ (Nat × Nat)) :=
  bif Nat.blt (iv E x).2 (iv E y).1 then some (.inl true) else bif Nat.ble (iv E y).2 (iv E x).1 then some (.inl false) else
  bif (Nat.beq (iv E y).1 (iv E y).2 && Nat.ble 4294967296 x) then some (.inr (Nat.sub x 4294967296, (iv E y).1)) else
  bif (Nat.beq (iv E x).1 (iv E x).2 && Nat.ble 4294967296 y) then some (.inr (Nat.sub y 4294967296, Nat.succ (iv E x).1)) else none
noncomputable def eqD (E : rE) (x y : Nat) : Option (Bool ⊕ (Nat × Nat)) :=
  bif Nat.blt (iv E x).2 (iv E y).1 then some (.inl false) else bif Nat.blt (iv E y).2 (iv E x).1 then some (.inl false) else
  bif (Nat.ble (iv E x).2 (iv E y).1 && Nat.ble (iv E y).2 (iv E x).1) then some (.inl true) else
  bif (Nat.beq (iv E y).1 (iv E y).2 && Nat.ble 4294967296 x) then some (.inr (Nat.sub x 4294967296, bif Nat.blt (iv E x).1 (iv E y).1 then (iv E y).1 else Nat.succ (iv E y).1)) else
  bif (Nat.beq (iv E x).1 (iv E x).2 && Nat.ble 4294967296 y) then some (.inr (Nat.sub y 4294967296, bif Nat.blt (iv E y).1 (iv E x).1 then (iv E x).1 else Nat.succ (iv E x).1)) else none
noncomputable def cmpD (E : rE) (q : ClassFile.Cond) (x y : Nat) : Option (Bool ⊕ (Nat × Nat)) := match q with
  | .eq => eqD E x y
  | .ne => eqD E x y
  | .lt => ltD E x y
  | .ge => ltD E x y
  | .gt => ltD E y x
  | .le => ltD E y x
def neg (q : ClassFile.Cond) : Bool := match q with
  | .ne => true
  | .ge => true
  | .le => true
  | _ => false
def tg (pc : Nat) (off : Int) : Option Nat := match Int.add (Int.ofNat pc) off with
  | .ofNat t => some t
  | .negSucc _ => none
noncomputable def abr (E : rE) (q : ClassFile.Cond) (x y : Nat) (off : Int) (pc : Nat) (lv : rK) (r : List rV) (aw : rD) (c z : Nat) : Option rO := match tg pc off with
  | none => none
  | some t => match cmpD E q x y with
    | some (.inl w) => bif Bool.xor w (neg q) then some (.inl (t, lv, r, aw, c, z)) else some (.inl (Nat.add pc 3, lv, r, aw, c, z))
    | some (.inr s) => some (.inr (.inl s))
    | none => some (.inr (.inr (.inl ((t, lv, r, aw, c, z), (Nat.add pc 3, lv, r, aw, c, z)))))
/-- is v of an array's kind -/
def vt (t : Nat) (v : rV) : Bool := match v with
  | .inl _ => Nat.ble t 14 || Nat.beq t 16
  | .inr (.inl _) => Nat.beq t 15
  | .inr (.inr _) => Nat.ble 17 t
noncomputable def ald (t1 t2 : Nat) (L : Nat) (E : rE) (pc : Nat) (lv : rK) (st : List rV) (aw : rD) (c z : Nat) : Option rO := match st with
  | .inl i :: .inr (.inr (some k)) :: r => match nd E i with
    | some n => match k with
      | 0 => bif (Nat.beq t1 14 && (Nat.blt n L && Nat.ble n 7)) then some (.inl (Nat.add pc 1, lv, .inl (Nat.add 4294967296 n) :: r, aw, c, z)) else none
      | k + 1 => match wget aw k with
        | some q => bif (Nat.beq q.1 t1 || Nat.beq q.1 t2) then (match rget q.2 n with
          | some v => bif (Nat.ble n 2147483647 && vt q.1 v) then some (.inl (Nat.add pc 1, lv, v :: r, aw, c, z)) else none
          | none => none) else none
        | none => none
    | none => spl E i
  | _ => none
/-- may v lie in an array of this kind -/
def ok_el (t : Nat) (v : rV) : Bool := match v with
  | .inl n => Nat.beq t 14 || (Nat.beq t 16 && Nat.ble n 1) || (Nat.beq t 13 && (Nat.ble 4294967824 n && Nat.ble n 4294968319))
  | .inr (.inl _) => Nat.beq t 15
  | _ => false
noncomputable def ast (t1 t2 : Nat) (E : rE) (pc : Nat) (lv : rK) (st : List rV) (aw : rD) (c z : Nat) : Option rO := match st with
  | v :: .inl i :: .inr (.inr (some (k + 1))) :: r => match nd E i with
    | some n => match wget aw k with
      | some q => bif ((Nat.beq q.1 t1 || Nat.beq q.1 t2) && (ok_el q.1 v && (Nat.blt n q.2.length && Nat.ble n 2147483647))) then rset v q.2 n (fun l => wset (q.1, l) aw k (fun aw => some (.inl (Nat.add pc 1, lv, r, aw, c, z)))) else none
      | none => none
    | none => spl E i
  | _ => none
/-- a reference into an array of references: the arrays 17 and 18 hold objects of the classes 6 and 10 -/
noncomputable def aasr (E : rE) (pc : Nat) (lv : rK) (st : List rV) (aw : rD) (c z : Nat) : Option rO := match st with
  | .inr (.inr (some (j + 1))) :: .inl i :: .inr (.inr (some (k + 1))) :: r => match nd E i with
    | some n => match wget aw k with
      | some q => match wget aw j with
        | some o => bif (((Nat.beq q.1 17 && Nat.beq o.1 6) || (Nat.beq q.1 18 && Nat.beq o.1 10)) && (Nat.blt n q.2.length && Nat.ble n 2147483647)) then rset (.inr (.inr (some (j + 1)))) q.2 n (fun l => wset (q.1, l) aw k (fun aw => some (.inl (Nat.add pc 1, lv, r, aw, c, z)))) else none
        | none => none
      | none => none
    | none => spl E i
  | _ => none
/-- may v lie in a field of this kind: 0 int, 1 boolean, 2 long, else a reference -/
def ok_fi (t : Nat) (v : rV) : Bool := match v with
  | .inl n => Nat.beq t 0 || (Nat.beq t 1 && Nat.ble n 1)
  | .inr (.inl _) => Nat.beq t 2
  | .inr (.inr (some _)) => Nat.beq t 3
  | _ => false
/-- a field's kind, and its first value -/
def fk (ty : FieldType) : Nat := match ty with
  | .int => 0
  | .boolean => 1
  | .long => 2
  | .object _ => 3
  | .array _ => 3
  | _ => 4
def fd (k : Nat) : rV := match k with
  | 0 => .inl 0
  | 1 => .inl 0
  | 2 => .inr (.inl 0)
  | _ => .inr (.inr none)
def fty (ci : Nat) : Nat → FieldType := match ci with
  | 0 => tyX0
  | 1 => tyX1
  | 2 => tyX2
  | 3 => tyX3
  | 4 => tyX4
  | 5 => tyX5
  | 6 => tyX6
  | 7 => tyX7
  | 8 => tyX8
  | 9 => tyX9
  | 10 => tyX10
  | 11 => tyX11
  | _ => tyX12
def fnn (ci : Nat) : Nat := match ci with
  | 0 => 4
  | 1 => 3
  | 2 => 6
  | 3 => 15
  | 4 => 7
  | 5 => 10
  | 6 => 4
  | 7 => 10
  | 8 => 9
  | 9 => 7
  | 10 => 7
  | 11 => 14
  | _ => 66
noncomputable def blank_ (ci : Nat) : List rV := (List.range (fnn ci)).map (fun k => fd (fk (fty ci k)))
def ztag (t : ArrayType) : Nat := match t with
  | .byte => 13
  | .int => 14
  | .long => 15
  | .boolean => 16
  | _ => 0
def zval (t : Nat) : rV := match t with
  | 15 => .inr (.inl 0)
  | _ => .inl 0
/-- tables: a class's fields by the index in the using class: (class, field, final, kind); classes; constants; calls: (kind, method, parameters, class of the receiver) -/
abbrev rT : Type := List ((Nat × Nat) × (Nat × Nat × Nat × Nat)) × List ((Nat × Nat) × Nat) × List ((Nat × Nat) × Nat) × List ((Nat × Nat) × (Nat × Nat × Nat × Nat))
noncomputable def cut (n : Nat) (st : List rV) (acc : List rV) : Option (List rV × List rV) := Nat.rec (motive := fun _ => List rV → List rV → Option (List rV × List rV)) (fun st acc => some (acc, st)) (fun _ ih st acc => match st with
  | v :: r => ih r (v :: acc)
  | [] => none) n st acc
def csum (st : List rV) : Nat := (st.map ct).sum
/-- what a method may answer -/
def ok_rt (ret : Option FieldType) (v : rV) : Bool := match ret with
  | some .int => (match v with
    | .inl _ => true
    | _ => false)
  | some .boolean => (match v with
    | .inl n => Nat.ble n 1
    | _ => false)
  | some .long => (match v with
    | .inr (.inl _) => true
    | _ => false)
  | some (.object _) => (match v with
    | .inr (.inr (some _)) => true
    | _ => false)
  | _ => false
noncomputable def acopy (E : rE) (pc : Nat) (lv : rK) (st : List rV) (aw : rD) (c z : Nat) : Option rO := match st with
  | .inl n :: .inl dp :: .inr (.inr (some (k + 1))) :: .inl sp :: .inr (.inr (some (j + 1))) :: r => match nd E n with
    | some n => match nd E dp with
      | some dp => match nd E sp with
        | some sp => match wget aw k with
          | some q => match wget aw j with
            | some o => bif (Nat.beq q.1 14 && Nat.beq o.1 14 && Nat.beq sp 0 && Nat.beq dp 0 && Nat.beq n q.2.length && Nat.beq n o.2.length && Nat.ble n 2147483647 && Nat.ble (csum r) 8) then wset (14, o.2) aw k (fun aw => some (.inl (Nat.add pc 3, lv, r, aw, c, z))) else none
            | none => none
          | none => none
        | none => none
      | none => none
    | none => none
  | _ => none
noncomputable def acall (T : rT) (own idx kind : Nat) (E : rE) (pc : Nat) (lv : rK) (st : List rV) (aw : rD) (c z : Nat) : Option rO := match kf T.2.2.2 own idx with
  | some (k, mi, np, rc) => match k with
    | 0 => bif Nat.beq kind 0 then (match cut np st [] with
      | some (As, .inr (.inr (some (j + 1))) :: r) => (match wget aw j with
        | some q => bif Nat.beq q.1 rc then (bif Nat.ble (csum r) 8 then some (.inr (.inr (.inr (.inr (mi, .inr (.inr (some (j + 1))) :: As, r))))) else none) else none
        | none => none)
      | _ => none) else none
    | 1 => bif Nat.beq kind 1 then (match cut np st [] with
      | some (As, r) => bif Nat.ble (csum r) 8 then some (.inr (.inr (.inr (.inr (mi, As, r))))) else none
      | none => none) else none
    | 4 => bif Nat.beq kind 2 then (match st with
      | .inr (.inr (some _)) :: r => bif Nat.ble (csum r) 8 then some (.inl (Nat.add pc 3, lv, r, aw, c, z)) else none
      | _ => none) else none
    | 5 => bif Nat.beq kind 1 then acopy E pc lv st aw c z else none
    | _ => bif Nat.beq kind 2 then (match cut np st [] with
      | some (As, .inr (.inr (some j)) :: r) => bif Nat.ble (csum r) 8 then some (.inr (.inr (.inr (.inr (mi, .inr (.inr (some j)) :: As, r))))) else none
      | _ => none) else none
  | none => none
/-- which of the keys lies within: for a switch over pairs -/
noncomputable def lkS (E : rE) (x : Nat) (ps : List (Int × Int)) : Option (Nat × Nat) := List.rec (motive := fun _ => Option (Nat × Nat)) none (fun q _ ih => bif (Nat.ble (iv E x).1 (bz (Int32.ofInt q.1)) && Nat.ble (bz (Int32.ofInt q.1)) (iv E x).2) then some (Nat.sub x 4294967296, bif Nat.blt (iv E x).1 (bz (Int32.ofInt q.1)) then bz (Int32.ofInt q.1) else Nat.succ (iv E x).1) else ih) ps
/-- a handler: tables, class, answer, constructor?, cells, slots, the script's length; then the state -/
abbrev rH : Type := rT → Nat → Option FieldType → Bool → Nat → Nat → Nat → rE → Nat → rK → List rV → rD → Nat → Nat → Option rO
noncomputable def h_ildI (i w : Nat) : rH := fun _ _ _ _ _ _ _ _ pc lv st aw c z => match lget lv i with
  | some (.inl v) => some (.inl (Nat.add pc w, lv, .inl v :: st, aw, c, z))
  | _ => none
noncomputable def h_ildA (i w : Nat) : rH := fun _ _ _ _ _ _ _ _ pc lv st aw c z => match lget lv i with
  | some (.inr (.inr (some v))) => some (.inl (Nat.add pc w, lv, .inr (.inr (some v)) :: st, aw, c, z))
  | _ => none
noncomputable def h_ildL (i w : Nat) : rH := fun _ _ _ _ _ _ _ _ pc lv st aw c z => match lget lv i with
  | some (.inr (.inl v)) => some (.inl (Nat.add pc w, lv, .inr (.inl v) :: st, aw, c, z))
  | _ => none
noncomputable def h_istI (i w : Nat) : rH := fun _ _ _ _ _ _ _ _ pc lv st aw c z => match st with
  | .inl v :: r => lput lv i (.inl v) (fun lv => some (.inl (Nat.add pc w, lv, r, aw, c, z)))
  | _ => none
noncomputable def h_istA (i w : Nat) : rH := fun _ _ _ _ _ _ _ _ pc lv st aw c z => match st with
  | .inr (.inr (some v)) :: r => lput lv i (.inr (.inr (some v))) (fun lv => some (.inl (Nat.add pc w, lv, r, aw, c, z)))
  | _ => none
noncomputable def h_istL (i w : Nat) : rH := fun _ _ _ _ _ _ _ _ pc lv st aw c z => match st with
  | .inr (.inl v) :: r => lput2 lv i (.inr (.inl v)) (fun lv => some (.inl (Nat.add pc w, lv, r, aw, c, z)))
  | _ => none
noncomputable def h_con (n w : Nat) : rH := fun _ _ _ _ _ _ _ _ pc lv st aw c z => some (.inl (Nat.add pc w, lv, .inl n :: st, aw, c, z))
noncomputable def h_conL (n w : Nat) : rH := fun _ _ _ _ _ _ _ _ pc lv st aw c z => some (.inl (Nat.add pc w, lv, .inr (.inl n) :: st, aw, c, z))
noncomputable def h_ldcw (i : Nat) : rH := fun T own _ _ _ _ _ _ pc lv st aw c z => match kf T.2.2.1 own i with
  | some n => bif Nat.ble n 4294967295 then some (.inl (Nat.add pc 3, lv, .inl n :: st, aw, c, z)) else none
  | none => none
noncomputable def h_ldc2 (i : Nat) : rH := fun T own _ _ _ _ _ _ pc lv st aw c z => match kf T.2.2.1 (Nat.add 100 own) i with
  | some n => some (.inl (Nat.add pc 3, lv, .inr (.inl n) :: st, aw, c, z))
  | none => none
noncomputable def h_iinc (i : Nat) (k : Int) : rH := fun _ _ _ _ _ _ _ E pc lv st aw c z => match lget lv i with
  | some (.inl v) => (match nd E v with
    | some n => fN (cN (nI n + Int32.ofInt k)) (fun n => lput lv i (.inl n) (fun lv => some (.inl (Nat.add pc 3, lv, st, aw, c, z))))
    | none => none)
  | _ => none
noncomputable def h_goto (off : Int) : rH := fun _ _ _ _ _ _ _ _ pc lv st aw c z => match tg pc off with
  | some t => some (.inl (t, lv, st, aw, c, z))
  | none => none
noncomputable def h_dup : rH := fun _ _ _ _ _ _ _ _ pc lv st aw c z => match st with
  | v :: r => bif Nat.beq (ct v) 1 then some (.inl (Nat.add pc 1, lv, v :: v :: r, aw, c, z)) else none
  | _ => none
noncomputable def h_dup2 : rH := fun _ _ _ _ _ _ _ _ pc lv st aw c z => match st with
  | v :: w :: r => bif (Nat.beq (ct v) 1 && Nat.beq (ct w) 1) then some (.inl (Nat.add pc 1, lv, v :: w :: v :: w :: r, aw, c, z)) else none
  | _ => none
noncomputable def h_aop (k : Nat) : rH := fun _ _ _ _ _ _ _ E pc lv st aw c z => aop k E pc lv st aw c z
noncomputable def h_aopL (k : Nat) : rH := fun _ _ _ _ _ _ _ _ pc lv st aw c z => aopL k pc lv st aw c z
noncomputable def h_aopS (k : Nat) : rH := fun _ _ _ _ _ _ _ E pc lv st aw c z => aopS k E pc lv st aw c z
noncomputable def h_lcmp : rH := fun _ _ _ _ _ _ _ _ pc lv st aw c z => match st with
  | .inr (.inl y) :: .inr (.inl x) :: r => fN (cN (lg_cmp (lN x) (lN y))) (fun n => some (.inl (Nat.add pc 1, lv, .inl n :: r, aw, c, z)))
  | _ => none
noncomputable def h_l2i : rH := fun _ _ _ _ _ _ _ _ pc lv st aw c z => match st with
  | .inr (.inl x) :: r => fN (cN (lN x).toInt32) (fun n => some (.inl (Nat.add pc 1, lv, .inl n :: r, aw, c, z)))
  | _ => none
noncomputable def h_i2b : rH := fun _ _ _ _ _ _ _ _ pc lv st aw c z => match st with
  | .inl x :: r => bif (Nat.ble 4294967312 x && Nat.ble x 4294967807) then some (.inl (Nat.add pc 1, lv, .inl (Nat.add x 512) :: r, aw, c, z)) else none
  | _ => none
noncomputable def h_if1 (q : ClassFile.Cond) (off : Int) : rH := fun _ _ _ _ _ _ _ E pc lv st aw c z => match st with
  | .inl x :: r => abr E q x 0 off pc lv r aw c z
  | _ => none
noncomputable def h_if2 (q : ClassFile.Cond) (off : Int) : rH := fun _ _ _ _ _ _ _ E pc lv st aw c z => match st with
  | .inl y :: .inl x :: r => abr E q x y off pc lv r aw c z
  | _ => none
noncomputable def h_tsw (d lo hi : Int) (offs : Array Int) : rH := fun _ _ _ _ _ _ _ E pc lv st aw c z => match st with
  | .inl x :: r => bif (Nat.blt (iv E x).2 (bz (Int32.ofInt lo)) || Nat.blt (bz (Int32.ofInt hi)) (iv E x).1) then (match tg pc d with
      | some t => bif (decide ((Int32.ofInt lo).toInt = lo) && decide ((Int32.ofInt hi).toInt = hi)) then some (.inl (t, lv, r, aw, c, z)) else none
      | none => none) else (match nd E x with
    | some n => (match offs[((nI n).toInt - lo).toNat]? with
      | some o => (match tg pc o with
        | some t => bif (decide (lo ≤ (nI n).toInt) && decide ((nI n).toInt ≤ hi)) then some (.inl (t, lv, r, aw, c, z)) else none
        | none => none)
      | none => none)
    | none => bif Nat.blt (iv E x).1 (bz (Int32.ofInt lo)) then some (.inr (.inl (Nat.sub x 4294967296, bz (Int32.ofInt lo)))) else bif Nat.blt (bz (Int32.ofInt hi)) (iv E x).2 then some (.inr (.inl (Nat.sub x 4294967296, Nat.succ (bz (Int32.ofInt hi))))) else spl E x)
  | _ => none
noncomputable def h_lsw (d : Int) (ps : Array (Int × Int)) : rH := fun _ _ _ _ _ _ _ E pc lv st aw c z => match st with
  | .inl x :: r => bif (ps.toList.zip (ps.toList.drop 1)).all (fun (a, next) => a.1 < next.1) then (match nd E x with
    | some n => (match tg pc (Op.lookupswitch.offset ps.toList d (nI n).toInt) with
      | some t => some (.inl (t, lv, r, aw, c, z))
      | none => none)
    | none => (match lkS E x ps.toList with
      | some s => some (.inr (.inl s))
      | none => bif ps.toList.all (fun q => decide ((Int32.ofInt q.1).toInt = q.1)) then (match tg pc d with
        | some t => some (.inl (t, lv, r, aw, c, z))
        | none => none) else none)) else none
  | _ => none
noncomputable def h_ald (t1 t2 : Nat) : rH := fun _ _ _ _ _ _ L E pc lv st aw c z => ald t1 t2 L E pc lv st aw c z
noncomputable def h_aald : rH := fun _ _ _ _ _ _ L E pc lv st aw c z => match ald 17 19 L E pc lv st aw c z with
  | some (.inl (pc, lv, .inr (.inr (some k)) :: r, aw, c, z)) => some (.inl (pc, lv, .inr (.inr (some k)) :: r, aw, c, z))
  | some (.inr w) => some (.inr w)
  | _ => none
noncomputable def h_ast (t1 t2 : Nat) : rH := fun _ _ _ _ _ _ _ E pc lv st aw c z => ast t1 t2 E pc lv st aw c z
noncomputable def h_aasr : rH := fun _ _ _ _ _ _ _ E pc lv st aw c z => aasr E pc lv st aw c z
noncomputable def h_alen : rH := fun _ _ _ _ _ _ L _ pc lv st aw c z => match st with
  | .inr (.inr (some k)) :: r => (match k with
    | 0 => some (.inl (Nat.add pc 1, lv, .inl L :: r, aw, c, z))
    | k + 1 => (match wget aw k with
      | some q => bif (Nat.ble 13 q.1 && (Nat.ble q.1 19 && Nat.ble q.2.length 4294967295)) then fN q.2.length (fun n => some (.inl (Nat.add pc 1, lv, .inl n :: r, aw, c, z))) else none
      | none => none))
  | _ => none
noncomputable def h_getf (i : Nat) : rH := fun T own _ _ _ _ _ _ pc lv st aw c z => match st with
  | .inr (.inr (some (j + 1))) :: r => (match kf T.1 own i with
    | some (ci, k, _) => (match wget aw j with
      | some q => bif Nat.beq q.1 ci then (match rget q.2 k with
        | some v => some (.inl (Nat.add pc 3, lv, v :: r, aw, c, z))
        | none => none) else none
      | none => none)
    | none => none)
  | _ => none
noncomputable def h_putf (i : Nat) : rH := fun T own _ ini _ _ _ _ pc lv st aw c z => match st with
  | v :: .inr (.inr (some (j + 1))) :: r => (match kf T.1 own i with
    | some (ci, k, fi, kd) => (match wget aw j with
      | some q => bif (Nat.beq q.1 ci && (ok_fi kd v && (Nat.blt k q.2.length && (Nat.beq fi 0 || (Nat.beq fi 1 && ini))))) then rset v q.2 k (fun l => wset (q.1, l) aw j (fun aw => some (.inl (Nat.add pc 3, lv, r, aw, c, z)))) else none
      | none => none)
    | none => none)
  | _ => none
noncomputable def h_new (i : Nat) : rH := fun T own _ _ mc ms _ _ pc lv st aw c z => match kf T.2.1 own i with
  | some ci => bif (Nat.blt ci 13 && (Nat.ble (Nat.add c 1) mc && Nat.ble (Nat.add z (fnn ci)) ms)) then wsnoc (ci, blank_ ci) aw (fun aw' => some (.inl (Nat.add pc 3, lv, .inr (.inr (some (Nat.succ aw.1))) :: st, aw', Nat.add c 1, Nat.add z (fnn ci)))) else none
  | none => none
noncomputable def h_newa (t : ArrayType) : rH := fun _ _ _ _ mc ms _ E pc lv st aw c z => match st with
  | .inl x :: r => (match nd E x with
    | some n => bif (Nat.ble 13 (ztag t) && (Nat.ble n 100000 && (Nat.ble (Nat.add c 1) mc && Nat.ble (Nat.add z n) ms))) then wsnoc (ztag t, List.replicate n (zval (ztag t))) aw (fun aw' => some (.inl (Nat.add pc 2, lv, .inr (.inr (some (Nat.succ aw.1))) :: r, aw', Nat.add c 1, Nat.add z n))) else none
    | none => none)
  | _ => none
noncomputable def h_anew (i : Nat) : rH := fun T own _ _ mc ms _ E pc lv st aw c z => match st with
  | .inl x :: r => (match kf T.2.1 own i with
    | some ci => (match nd E x with
      | some n => bif ((Nat.beq ci 6 || Nat.beq ci 10) && (Nat.ble n 100000 && (Nat.ble (Nat.add c 1) mc && Nat.ble (Nat.add z n) ms))) then wsnoc (bif Nat.beq ci 6 then 17 else 18, List.replicate n (.inr (.inr none))) aw (fun aw' => some (.inl (Nat.add pc 3, lv, .inr (.inr (some (Nat.succ aw.1))) :: r, aw', Nat.add c 1, Nat.add z n))) else none
      | none => none)
    | none => none)
  | _ => none
noncomputable def wsn {β : Type} (n : Nat) (v : rC) : rD → (rD → β) → β := Nat.rec (motive := fun _ => rD → (rD → β) → β) (fun D K => K D) (fun _ ih D K => wsnoc v D (fun D => ih D K)) n
noncomputable def h_mnew (i d : Nat) : rH := fun T own _ _ mc ms _ E pc lv st aw c z => match st with
  | .inl y :: .inl x :: r => (match kf T.2.1 own i with
    | some ci => (match nd E x with
      | some n => (match nd E y with
        | some k => bif (Nat.beq d 2 && (Nat.beq ci 19 && (Nat.ble n 1000 && (Nat.ble k 1000 && (Nat.ble (Nat.add c (Nat.add 1 n)) mc && Nat.ble (Nat.add z (Nat.add n (Nat.mul n k))) ms))))) then wsnoc (19, (List.range n).map (fun j => .inr (.inr (some (Nat.add aw.1 (Nat.add 2 j)))))) aw (fun a1 => wsn n (14, List.replicate k (.inl 0)) a1 (fun a2 => some (.inl (Nat.add pc 4, lv, .inr (.inr (some (Nat.succ aw.1))) :: r, a2, Nat.add (Nat.add c 1) n, Nat.add (Nat.add z n) (Nat.mul n k))))) else none
        | none => none)
      | none => none)
    | none => none)
  | _ => none
noncomputable def h_call (i kind : Nat) : rH := fun T own _ _ _ _ _ E pc lv st aw c z => acall T own i kind E pc lv st aw c z
noncomputable def h_retI : rH := fun _ _ ret _ mc ms _ _ _ _ st _ c z => match st with
  | .inl v :: [] => bif (ok_rt ret (.inl v) && (Nat.ble c mc && Nat.ble z ms)) then some (.inr (.inr (.inr (.inl (some (.inl v)))))) else none
  | _ => none
noncomputable def h_retL : rH := fun _ _ ret _ mc ms _ _ _ _ st _ c z => match st with
  | .inr (.inl v) :: [] => bif (ok_rt ret (.inr (.inl v)) && (Nat.ble c mc && Nat.ble z ms)) then some (.inr (.inr (.inr (.inl (some (.inr (.inl v))))))) else none
  | _ => none
noncomputable def h_retA : rH := fun _ _ ret _ mc ms _ _ _ _ st _ c z => match st with
  | .inr (.inr (some v)) :: [] => bif (ok_rt ret (.inr (.inr (some v))) && (Nat.ble c mc && Nat.ble z ms)) then some (.inr (.inr (.inr (.inl (some (.inr (.inr (some v)))))))) else none
  | _ => none
def no_rt (ret : Option FieldType) : Bool := match ret with
  | none => true
  | _ => false
noncomputable def h_retV : rH := fun _ _ ret _ mc ms _ _ _ _ st _ c z => match st with
  | [] => bif (no_rt ret && (Nat.ble c mc && Nat.ble z ms)) then some (.inr (.inr (.inr (.inl none)))) else none
  | _ => none
/-- an instruction's length (0: any), and its handler -/
noncomputable def disp (ins : Instr) : Option (Nat × rH) := match ins with
  | .iload_n i => some (1, h_ildI i.val 1)
  | .iload i => some (2, h_ildI i 2)
  | .aload_n i => some (1, h_ildA i.val 1)
  | .aload i => some (2, h_ildA i 2)
  | .lload_n i => some (1, h_ildL i.val 1)
  | .istore_n i => some (1, h_istI i.val 1)
  | .istore i => some (2, h_istI i 2)
  | .astore_n i => some (1, h_istA i.val 1)
  | .lstore_n i => some (1, h_istL i.val 1)
  | .iconst i => some (1, h_con (cN (Int32.ofInt i)) 1)
  | .bipush i => some (2, h_con (cN (Int8.ofInt i).toInt32) 2)
  | .sipush i => some (3, h_con (cN (Int16.ofInt i).toInt32) 3)
  | .lconst i => some (1, h_conL i.val 1)
  | .ldc_w i => some (3, h_ldcw i)
  | .ldc2_w i => some (3, h_ldc2 i)
  | .iinc i k => some (3, h_iinc i k)
  | .goto off => some (3, h_goto off)
  | .dup => some (1, h_dup)
  | .dup2 => some (1, h_dup2)
  | .iadd => some (1, h_aop 0)
  | .isub => some (1, h_aop 1)
  | .imul => some (1, h_aop 2)
  | .iand => some (1, h_aop 3)
  | .ior => some (1, h_aop 4)
  | .ixor => some (1, h_aop 5)
  | .ishl => some (1, h_aop 6)
  | .ishr => some (1, h_aop 7)
  | .idiv => some (1, h_aop 8)
  | .irem => some (1, h_aop 9)
  | .ladd => some (1, h_aopL 0)
  | .lsub => some (1, h_aopL 1)
  | .land => some (1, h_aopL 2)
  | .lor => some (1, h_aopL 3)
  | .lshl => some (1, h_aopS 0)
  | .lshr => some (1, h_aopS 1)
  | .lushr => some (1, h_aopS 2)
  | .lcmp => some (1, h_lcmp)
  | .l2i => some (1, h_l2i)
  | .i2b => some (1, h_i2b)
  | .ifCond q off => some (3, h_if1 q off)
  | .if_icmp q off => some (3, h_if2 q off)
  | .tableswitch d lo hi offs => some (0, h_tsw d lo hi offs)
  | .lookupswitch d ps => some (0, h_lsw d ps)
  | .iaload => some (1, h_ald 14 14)
  | .baload => some (1, h_ald 13 16)
  | .laload => some (1, h_ald 15 15)
  | .aaload => some (1, h_aald)
  | .iastore => some (1, h_ast 14 14)
  | .bastore => some (1, h_ast 13 16)
  | .lastore => some (1, h_ast 15 15)
  | .aastore => some (1, h_aasr)
  | .arraylength => some (1, h_alen)
  | .getfield i => some (3, h_getf i)
  | .putfield i => some (3, h_putf i)
  | .new i => some (3, h_new i)
  | .newarray t => some (2, h_newa t)
  | .anewarray i => some (3, h_anew i)
  | .multianewarray i d => some (4, h_mnew i d)
  | .invokevirtual i => some (3, h_call i 0)
  | .invokestatic i => some (3, h_call i 1)
  | .invokespecial i => some (3, h_call i 2)
  | .ireturn => some (1, h_retI)
  | .lreturn => some (1, h_retL)
  | .areturn => some (1, h_retA)
  | .return_ => some (1, h_retV)
  | _ => none
/-! a whole method -/
/-- a method: its class, its bytes, its instructions, its locals, its answer, is it a constructor, the cells and slots that it makes -/
abbrev rM : Type := Nat × ByteArray × (Nat → Option (Instr × Nat)) × Nat × Option FieldType × Bool × Nat × Nat
def mOwn (M : rM) : Nat := M.1
def mBy (M : rM) : ByteArray := M.2.1
def mTab (M : rM) : Nat → Option (Instr × Nat) := M.2.2.1
def mLoc (M : rM) : Nat := M.2.2.2.1
def mRet (M : rM) : Option FieldType := M.2.2.2.2.1
def mIni (M : rM) : Bool := M.2.2.2.2.2.1
def mC (M : rM) : Nat := M.2.2.2.2.2.2.1
def mS (M : rM) : Nat := M.2.2.2.2.2.2.2
/-- a table of instructions, as a tree -/
def nT (p : Nat) (v : Instr × Nat) (l r : Nat → Option (Instr × Nat)) : Nat → Option (Instr × Nat) := fun pc => bif Nat.beq pc p then some v else bif Nat.blt pc p then l pc else r pc
def nE : Nat → Option (Instr × Nat) := fun _ => none
/-- the locals that an instruction writes lie among the method's -/
def stOK (n : Nat) (ins : Instr) : Bool := match ins with
  | .istore_n i => Nat.blt i.val n
  | .istore i => Nat.blt i n
  | .astore_n i => Nat.blt i.val n
  | .lstore_n i => Nat.blt (Nat.succ i.val) n
  | .iinc i _ => Nat.blt i n
  | _ => true
def okT (cc : ByteArray) (n : Nat) (t : Nat → Option (Instr × Nat)) : Prop := ∀ (pc : Nat) (q : Instr × Nat), t pc = some q → decode cc pc = .ok q ∧ stOK n q.1 = true
theorem okE {cc : ByteArray} {n : Nat} : okT cc n nE := fun _ _ h => by cases h
theorem okN {cc : ByteArray} {n p : Nat} {v : Instr × Nat} {l r : Nat → Option (Instr × Nat)} (hl : okT cc n l) (hv : decode cc p = .ok v) (hs : stOK n v.1 = true) (hr : okT cc n r) : okT cc n (nT p v l r) := by
  intro pc q h
  unfold nT at h
  cases h1 : Nat.beq pc p with
  | true =>
    rw [h1, cond_true] at h
    cases h
    rw [Nat.eq_of_beq_eq_true h1]
    exact ⟨hv, hs⟩
  | false =>
    rw [h1, cond_false] at h
    cases h2 : Nat.blt pc p with
    | true =>
      rw [h2, cond_true] at h
      exact hl pc q h
    | false =>
      rw [h2, cond_false] at h
      exact hr pc q h
noncomputable def step (T : rT) (L : Nat) (M : rM) (E : rE) (pc : Nat) (lv : rK) (st : List rV) (aw : rD) (c z : Nat) : Option rO := match mTab M pc with
  | some q => (match disp q.1 with
    | some h => bif (Nat.beq h.1 0 || Nat.beq h.1 q.2) then h.2 T (mOwn M) (mRet M) (mIni M) (mC M) (mS M) L E pc lv st aw c z else none
    | none => none)
  | none => none
def cat2 (a b : Option (List rF)) : Option (List rF) := match a with
  | none => none
  | some x => match b with
    | none => none
    | some y => some (x ++ y)
noncomputable def argsL (As : List rV) : Nat → rK := List.rec (motive := fun _ => Nat → rK) (fun _ => []) (fun v _ ih i => (i, v) :: ih (Nat.add i (ct v))) As
def asum (As : List rV) : Nat := (As.map ct).sum
abbrev rN : Type := Nat → rM → rE → rX → Option (List rF)
noncomputable def runL (ih : rN) (d : Nat) (M : rM) (pc : Nat) (lv : rK) (r : List rV) (c z : Nat) (ls : List rF) : Option (List rF) := List.rec (motive := fun _ => Option (List rF)) (some []) (fun f _ acc => cat2 (ih d M f.1 (pc, lv, f.2.1.toList ++ r, f.2.2, c, z)) acc) ls
noncomputable def runC (ih : rN) (d : Nat) (M M' : rM) (E : rE) (pc : Nat) (lv : rK) (As r : List rV) (aw : rD) (c z : Nat) : Option (List rF) := Nat.rec (motive := fun _ => Option (List rF)) none (fun d' _ =>
  bif (Nat.ble (asum As) (mLoc M') && (Nat.ble (mLoc M') 80 && (Nat.ble (Nat.add c (mC M')) (mC M) && Nat.ble (Nat.add z (mS M')) (mS M)))) then (match ih d' M' E (0, argsL As 0, [], aw, 0, 0) with
    | none => none
    | some ls => runL ih d M (Nat.add pc 3) lv r (Nat.add c (mC M')) (Nat.add z (mS M')) ls) else none) d
noncomputable def runS (ih : rN) (d : Nat) (M : rM) (E : rE) (x : rX) (j w : Nat) : Option (List rF) := match rget E j with
  | some q => cat2 (ih d M (E.set j (q.1, Nat.pred w)) x) (ih d M (E.set j (w, q.2)) x)
  | none => none
noncomputable def runB (T : rT) (mt : Nat → Option rM) (L : Nat) (ih : rN) (d : Nat) (M : rM) (E : rE) (pc : Nat) (lv : rK) (st : List rV) (aw : rD) (c z : Nat) : Option (List rF) := match step T L M E pc lv st aw c z with
  | none => none
  | some (.inl x') => ih d M E x'
  | some (.inr (.inl (j, w))) => runS ih d M E (pc, lv, st, aw, c, z) j w
  | some (.inr (.inr (.inl (x1, x2)))) => cat2 (ih d M E x1) (ih d M E x2)
  | some (.inr (.inr (.inr (.inl v)))) => some [(E, v, aw)]
  | some (.inr (.inr (.inr (.inr (mi, As, r))))) => (match mt mi with
    | none => none
    | some M' => runC ih d M M' E pc lv As r aw c z)
noncomputable def run (T : rT) (mt : Nat → Option rM) (L n : Nat) : rN :=
  Nat.rec (motive := fun _ => rN) (fun _ _ _ _ => none) (fun _ ih d M E x => fN x.1 (fun pc => runB T mt L ih d M E pc x.2.1 x.2.2.1 x.2.2.2.1 x.2.2.2.2.1 x.2.2.2.2.2)) n
end
section
def tF : List ((Nat × Nat) × (Nat × Nat × Nat × Nat)) := [((0, 11), (0, 0, 1, 3)), ((0, 16), (0, 1, 0, 0)), ((0, 20), (0, 2, 0, 0)), ((0, 23), (0, 3, 0, 0)), ((1, 9), (1, 0, 1, 3)), ((1, 15), (1, 1, 1, 3)), ((1, 19), (1, 2, 1, 3)), ((1, 42), (5, 6, 0, 0)), ((1, 55), (5, 7, 0, 0)), ((1, 65), (6, 2, 0, 0)), ((2, 9), (2, 0, 1, 3)), ((2, 15), (2, 1, 1, 3)), ((2, 19), (2, 2, 1, 3)), ((2, 23), (2, 3, 1, 3)), ((3, 9), (3, 4, 1, 3)), ((3, 15), (3, 6, 1, 3)), ((3, 18), (3, 7, 1, 3)), ((3, 21), (3, 8, 1, 3)), ((3, 25), (3, 9, 1, 3)), ((3, 30), (3, 13, 1, 3)), ((3, 34), (3, 14, 1, 3)), ((3, 37), (3, 0, 1, 3)), ((3, 41), (3, 1, 1, 3)), ((3, 45), (3, 2, 1, 3)), ((3, 49), (3, 3, 1, 3)), ((3, 56), (3, 5, 0, 0)), ((3, 72), (3, 12, 0, 0)), ((3, 85), (3, 10, 0, 0)), ((3, 105), (3, 11, 0, 0)), ((3, 108), (5, 6, 0, 0)), ((4, 9), (4, 0, 1, 3)), ((4, 13), (4, 1, 1, 3)), ((4, 16), (4, 2, 1, 3)), ((4, 19), (4, 3, 1, 3)), ((4, 22), (4, 4, 0, 0)), ((4, 26), (4, 5, 0, 0)), ((4, 29), (4, 6, 0, 1)), ((5, 9), (5, 0, 1, 3)), ((5, 15), (5, 1, 1, 3)), ((5, 18), (5, 2, 1, 3)), ((5, 21), (5, 3, 1, 3)), ((5, 24), (5, 4, 1, 3)), ((5, 30), (5, 5, 1, 3)), ((5, 37), (5, 6, 0, 0)), ((5, 41), (5, 7, 0, 0)), ((5, 44), (5, 8, 0, 0)), ((5, 47), (5, 9, 0, 0)), ((6, 11), (6, 0, 1, 3)), ((6, 39), (6, 1, 0, 0)), ((6, 43), (6, 2, 0, 0)), ((6, 46), (5, 9, 0, 0)), ((6, 49), (6, 3, 0, 0)), ((7, 11), (7, 2, 1, 3)), ((7, 15), (7, 3, 1, 3)), ((7, 18), (7, 4, 1, 3)), ((7, 22), (7, 5, 1, 3)), ((7, 25), (7, 6, 1, 3)), ((7, 30), (7, 7, 1, 3)), ((7, 33), (7, 0, 1, 3)), ((7, 37), (7, 1, 1, 3)), ((7, 41), (7, 9, 0, 0)), ((7, 45), (7, 8, 0, 1)), ((7, 52), (5, 6, 0, 0)), ((7, 71), (10, 1, 0, 0)), ((8, 9), (8, 2, 1, 3)), ((8, 15), (8, 3, 1, 3)), ((8, 18), (8, 8, 0, 0)), ((8, 22), (8, 0, 1, 3)), ((8, 26), (8, 1, 1, 3)), ((8, 35), (8, 4, 0, 1)), ((8, 39), (8, 5, 0, 1)), ((8, 42), (8, 7, 0, 0)), ((8, 50), (9, 3, 0, 0)), ((9, 11), (9, 0, 1, 3)), ((9, 15), (9, 1, 0, 0)), ((9, 19), (9, 2, 0, 0)), ((9, 29), (9, 4, 0, 0)), ((9, 32), (9, 3, 0, 0)), ((10, 9), (10, 0, 1, 3)), ((10, 21), (10, 1, 0, 0)), ((10, 25), (10, 2, 0, 0)), ((10, 28), (10, 3, 0, 0)), ((10, 31), (10, 4, 0, 0)), ((10, 34), (10, 5, 0, 0)), ((10, 40), (10, 6, 0, 0)), ((11, 10), (11, 0, 1, 3)), ((11, 19), (11, 1, 1, 3)), ((11, 23), (11, 2, 1, 3)), ((11, 31), (11, 3, 1, 3)), ((11, 38), (11, 4, 1, 3)), ((11, 42), (11, 5, 1, 3)), ((11, 46), (11, 6, 1, 3)), ((11, 53), (11, 7, 1, 3)), ((11, 62), (11, 8, 1, 3)), ((11, 71), (11, 9, 1, 3)), ((11, 80), (11, 10, 1, 3)), ((11, 87), (11, 11, 1, 3)), ((11, 96), (11, 12, 1, 3)), ((11, 108), (9, 1, 0, 0)), ((11, 132), (5, 6, 0, 0)), ((11, 135), (8, 7, 0, 0)), ((11, 138), (8, 8, 0, 0)), ((11, 151), (6, 1, 0, 0)), ((11, 183), (6, 3, 0, 0)), ((11, 186), (5, 8, 0, 0)), ((11, 221), (6, 2, 0, 0)), ((11, 224), (5, 7, 0, 0)), ((11, 319), (11, 13, 0, 0)), ((11, 359), (7, 9, 0, 0)), ((11, 362), (5, 5, 2, 3)), ((11, 366), (4, 5, 0, 0)), ((11, 371), (3, 5, 0, 0)), ((12, 7), (12, 0, 1, 3)), ((12, 13), (12, 1, 1, 3)), ((12, 16), (12, 5, 0, 0)), ((12, 20), (12, 11, 1, 3)), ((12, 24), (12, 12, 1, 3)), ((12, 27), (12, 13, 1, 3)), ((12, 30), (12, 14, 1, 3)), ((12, 33), (12, 15, 1, 3)), ((12, 36), (12, 16, 1, 3)), ((12, 39), (12, 17, 1, 3)), ((12, 42), (12, 18, 1, 3)), ((12, 45), (12, 19, 1, 3)), ((12, 48), (12, 20, 1, 3)), ((12, 51), (12, 21, 1, 3)), ((12, 54), (12, 22, 1, 3)), ((12, 57), (12, 23, 1, 3)), ((12, 61), (12, 24, 1, 3)), ((12, 64), (12, 25, 1, 3)), ((12, 67), (12, 26, 1, 3)), ((12, 71), (12, 27, 1, 3)), ((12, 74), (12, 28, 1, 3)), ((12, 77), (12, 29, 1, 3)), ((12, 80), (12, 30, 1, 3)), ((12, 83), (12, 31, 1, 3)), ((12, 86), (12, 32, 1, 3)), ((12, 89), (12, 45, 1, 3)), ((12, 92), (12, 46, 1, 3)), ((12, 95), (12, 49, 1, 3)), ((12, 98), (12, 50, 1, 3)), ((12, 101), (12, 51, 1, 3)), ((12, 104), (12, 52, 1, 3)), ((12, 107), (12, 55, 1, 3)), ((12, 110), (12, 56, 1, 3)), ((12, 113), (12, 57, 1, 3)), ((12, 116), (12, 58, 1, 3)), ((12, 119), (12, 59, 1, 3)), ((12, 122), (12, 60, 1, 3)), ((12, 125), (12, 64, 1, 3)), ((12, 128), (12, 65, 1, 3)), ((12, 137), (12, 3, 0, 0)), ((12, 140), (12, 4, 0, 0)), ((12, 179), (12, 7, 0, 0)), ((12, 182), (12, 6, 0, 0)), ((12, 189), (12, 8, 0, 0)), ((12, 242), (12, 34, 0, 0)), ((12, 245), (12, 35, 0, 0)), ((12, 248), (12, 2, 0, 0)), ((12, 251), (12, 33, 0, 0)), ((12, 365), (12, 47, 0, 0)), ((12, 368), (12, 48, 0, 0)), ((12, 371), (12, 61, 0, 0)), ((12, 374), (12, 53, 0, 0)), ((12, 522), (12, 62, 0, 0)), ((12, 526), (12, 63, 0, 0))]
def tC : List ((Nat × Nat) × Nat) := [((0, 9), 6), ((3, 28), 10), ((5, 27), 4), ((7, 28), 19), ((11, 7), 9), ((11, 16), 5), ((11, 26), 8), ((11, 35), 6), ((11, 50), 0), ((11, 57), 10), ((11, 66), 1), ((11, 75), 2), ((11, 84), 3), ((11, 91), 7), ((13, 7), 11), ((13, 10), 12)]
def tK : List ((Nat × Nat) × Nat) := [((11, 329), 100000), ((12, 525), 100000), ((116, 314), 6148914691236517205), ((116, 316), 3689348814741910323), ((116, 318), 1085102592571150095)]
def tA : List ((Nat × Nat) × (Nat × Nat × Nat × Nat)) := [((0, 3), (4, 0, 0, 0)), ((0, 15), (3, 92, 0, 6)), ((0, 26), (0, 90, 1, 0)), ((0, 30), (0, 91, 1, 6)), ((0, 34), (1, 93, 2, 14)), ((1, 3), (4, 0, 0, 0)), ((1, 23), (0, 103, 1, 5)), ((1, 31), (0, 144, 2, 6)), ((1, 35), (0, 133, 1, 5)), ((1, 38), (0, 181, 1, 1)), ((1, 46), (0, 145, 1, 1)), ((1, 62), (0, 180, 1, 5)), ((1, 85), (0, 182, 1, 1)), ((2, 3), (4, 0, 0, 0)), ((2, 38), (0, 133, 1, 5)), ((2, 98), (0, 183, 3, 2)), ((2, 116), (0, 103, 1, 5)), ((3, 3), (4, 0, 0, 0)), ((3, 53), (2, 121, 1, 10)), ((3, 60), (5, 0, 0, 0)), ((3, 66), (1, 184, 2, 17)), ((3, 75), (0, 185, 1, 3)), ((3, 79), (0, 181, 1, 1)), ((3, 88), (0, 186, 2, 3)), ((3, 92), (0, 145, 1, 1)), ((3, 111), (0, 189, 1, 3)), ((3, 115), (0, 190, 0, 3)), ((3, 119), (0, 191, 1, 3)), ((3, 122), (0, 116, 0, 3)), ((3, 161), (0, 187, 2, 3)), ((3, 164), (0, 188, 2, 3)), ((4, 1), (4, 0, 0, 0)), ((4, 33), (5, 0, 0, 0)), ((5, 3), (4, 0, 0, 0)), ((5, 29), (3, 195, 0, 4)), ((5, 34), (0, 193, 0, 4)), ((5, 50), (5, 0, 0, 0)), ((5, 56), (0, 194, 1, 4)), ((5, 60), (1, 192, 2, 5)), ((5, 64), (0, 103, 1, 5)), ((6, 5), (4, 0, 0, 0)), ((6, 15), (1, 196, 2, 6)), ((6, 23), (0, 198, 3, 6)), ((6, 27), (1, 184, 2, 17)), ((6, 33), (0, 197, 1, 5)), ((6, 52), (5, 0, 0, 0)), ((7, 3), (4, 0, 0, 0)), ((7, 49), (0, 202, 0, 7)), ((7, 57), (0, 203, 2, 7)), ((7, 61), (0, 199, 3, 10)), ((7, 67), (0, 200, 1, 10)), ((7, 74), (0, 201, 1, 10)), ((7, 77), (0, 109, 1, 7)), ((7, 81), (0, 133, 1, 5)), ((8, 3), (4, 0, 0, 0)), ((8, 30), (0, 204, 0, 5)), ((8, 45), (0, 205, 0, 9)), ((9, 5), (4, 0, 0, 0)), ((9, 22), (0, 207, 0, 9)), ((9, 25), (0, 206, 1, 9)), ((10, 3), (4, 0, 0, 0)), ((10, 45), (0, 94, 1, 5)), ((10, 51), (1, 95, 2, 14)), ((10, 76), (0, 96, 0, 10)), ((11, 1), (4, 0, 0, 0)), ((11, 9), (3, 117, 0, 9)), ((11, 18), (3, 118, 0, 5)), ((11, 28), (2, 119, 2, 8)), ((11, 37), (3, 92, 0, 6)), ((11, 52), (2, 120, 0, 0)), ((11, 59), (2, 121, 1, 10)), ((11, 68), (2, 122, 3, 1)), ((11, 77), (2, 123, 4, 2)), ((11, 86), (2, 124, 4, 3)), ((11, 93), (2, 125, 2, 7)), ((11, 100), (0, 107, 1, 9)), ((11, 104), (0, 108, 1, 9)), ((11, 112), (0, 111, 0, 8)), ((11, 116), (0, 112, 1, 5)), ((11, 119), (0, 113, 1, 6)), ((11, 122), (0, 114, 1, 0)), ((11, 126), (0, 115, 0, 7)), ((11, 129), (0, 116, 0, 3)), ((11, 141), (0, 133, 1, 5)), ((11, 160), (0, 103, 1, 5)), ((11, 163), (0, 144, 2, 6)), ((11, 179), (0, 151, 2, 1)), ((11, 199), (0, 105, 1, 0)), ((11, 202), (0, 145, 1, 1)), ((11, 212), (0, 126, 2, 1)), ((11, 233), (0, 149, 1, 0)), ((11, 237), (0, 140, 1, 0)), ((11, 240), (0, 153, 2, 1)), ((11, 243), (0, 106, 1, 1)), ((11, 246), (0, 136, 0, 1)), ((11, 250), (0, 134, 1, 1)), ((11, 258), (0, 127, 2, 1)), ((11, 261), (0, 137, 0, 3)), ((11, 264), (0, 138, 2, 2)), ((11, 270), (0, 102, 1, 1)), ((11, 276), (0, 128, 1, 1)), ((11, 279), (0, 135, 2, 2)), ((11, 282), (0, 132, 2, 2)), ((11, 285), (0, 142, 2, 1)), ((11, 292), (0, 139, 1, 3)), ((11, 295), (0, 147, 1, 1)), ((11, 298), (0, 143, 1, 3)), ((11, 301), (0, 152, 0, 1)), ((11, 304), (0, 141, 0, 1)), ((11, 307), (0, 131, 0, 1)), ((11, 310), (0, 104, 0, 1)), ((11, 313), (0, 130, 1, 1)), ((11, 316), (0, 129, 1, 3)), ((11, 322), (0, 146, 4, 7)), ((11, 326), (0, 150, 2, 7)), ((11, 330), (0, 109, 1, 7)), ((11, 334), (1, 110, 1, 16)), ((11, 339), (0, 148, 2, 7)), ((11, 342), (0, 100, 2, 7)), ((11, 345), (0, 101, 1, 11)), ((11, 348), (0, 91, 1, 6)), ((11, 350), (0, 97, 1, 1)), ((11, 353), (0, 98, 0, 0)), ((11, 356), (0, 99, 0, 0)), ((12, 1), (4, 0, 0, 0)), ((12, 131), (0, 163, 0, 12)), ((12, 134), (0, 166, 0, 12)), ((12, 185), (0, 162, 1, 12)), ((12, 217), (0, 165, 0, 12)), ((12, 221), (0, 164, 0, 12)), ((12, 347), (0, 154, 0, 12)), ((12, 350), (1, 156, 3, 12)), ((12, 354), (0, 159, 1, 12)), ((12, 398), (0, 158, 1, 12)), ((12, 410), (0, 168, 1, 12)), ((12, 413), (0, 179, 2, 12)), ((12, 428), (0, 160, 0, 12)), ((12, 434), (0, 178, 1, 12)), ((12, 437), (0, 167, 2, 12)), ((12, 443), (0, 161, 0, 12)), ((12, 464), (0, 174, 0, 12)), ((12, 467), (0, 177, 0, 12)), ((12, 476), (1, 171, 2, 12)), ((12, 479), (0, 172, 1, 12)), ((12, 482), (0, 173, 0, 12)), ((12, 497), (0, 170, 3, 12)), ((12, 516), (0, 175, 2, 12)), ((12, 519), (0, 176, 0, 12)), ((12, 529), (0, 169, 2, 12)), ((12, 532), (0, 157, 1, 12)), ((12, 535), (0, 155, 1, 12)), ((13, 9), (2, 0, 0, 11)), ((13, 12), (2, 1, 0, 12)), ((13, 13), (0, 2, 5, 11)), ((13, 17), (0, 3, 5, 12)), ((13, 18), (0, 4, 1, 11)), ((13, 22), (0, 5, 1, 12)), ((13, 23), (0, 6, 0, 11)), ((13, 27), (0, 7, 0, 12)), ((13, 28), (0, 8, 1, 11)), ((13, 31), (0, 9, 1, 12)), ((13, 32), (0, 10, 2, 11)), ((13, 36), (0, 11, 2, 12)), ((13, 37), (0, 12, 2, 11)), ((13, 40), (0, 13, 2, 12)), ((13, 41), (0, 14, 2, 11)), ((13, 44), (0, 15, 2, 12)), ((13, 45), (0, 16, 1, 11)), ((13, 48), (0, 17, 1, 12)), ((13, 49), (0, 18, 2, 11)), ((13, 52), (0, 19, 2, 12)), ((13, 53), (0, 20, 2, 11)), ((13, 56), (0, 21, 2, 12)), ((13, 57), (0, 22, 0, 11)), ((13, 60), (0, 23, 0, 12)), ((13, 61), (0, 24, 0, 11)), ((13, 65), (0, 25, 0, 12)), ((13, 66), (0, 26, 0, 11)), ((13, 69), (0, 27, 0, 12)), ((13, 70), (0, 28, 2, 11)), ((13, 73), (0, 29, 2, 12)), ((13, 74), (0, 30, 1, 11)), ((13, 77), (0, 31, 1, 12)), ((13, 78), (0, 32, 0, 11)), ((13, 81), (0, 33, 0, 12)), ((13, 82), (0, 34, 2, 11)), ((13, 85), (0, 35, 2, 12)), ((13, 86), (0, 36, 2, 11)), ((13, 89), (0, 37, 2, 12)), ((13, 90), (0, 38, 0, 11)), ((13, 93), (0, 39, 0, 12)), ((13, 94), (0, 40, 3, 11)), ((13, 98), (0, 41, 3, 12)), ((13, 99), (0, 42, 1, 11)), ((13, 102), (0, 43, 1, 12)), ((13, 103), (0, 44, 2, 11)), ((13, 106), (0, 45, 2, 12)), ((13, 107), (0, 46, 1, 11)), ((13, 110), (0, 47, 1, 12)), ((13, 111), (0, 48, 3, 11)), ((13, 114), (0, 49, 3, 12)), ((13, 115), (0, 50, 3, 11)), ((13, 118), (0, 51, 3, 12)), ((13, 119), (0, 52, 3, 11)), ((13, 122), (0, 53, 3, 12)), ((13, 123), (0, 54, 1, 11)), ((13, 126), (0, 55, 1, 12)), ((13, 127), (0, 56, 1, 11)), ((13, 130), (0, 57, 1, 12)), ((13, 131), (0, 58, 1, 11)), ((13, 134), (0, 59, 1, 12)), ((13, 135), (0, 60, 0, 11)), ((13, 138), (0, 61, 0, 12)), ((13, 139), (0, 62, 0, 11)), ((13, 142), (0, 63, 0, 12)), ((13, 143), (0, 64, 0, 11)), ((13, 146), (0, 65, 0, 12)), ((13, 147), (0, 66, 0, 11)), ((13, 150), (0, 67, 0, 12)), ((13, 151), (0, 68, 1, 11)), ((13, 154), (0, 69, 1, 12)), ((13, 155), (0, 70, 1, 11)), ((13, 158), (0, 71, 1, 12)), ((13, 159), (0, 72, 3, 11)), ((13, 163), (0, 73, 3, 12)), ((13, 164), (0, 74, 1, 11)), ((13, 168), (0, 75, 1, 12)), ((13, 169), (0, 76, 1, 11)), ((13, 172), (0, 77, 1, 12)), ((13, 173), (0, 78, 1, 11)), ((13, 176), (0, 79, 1, 12)), ((13, 177), (0, 80, 2, 11)), ((13, 180), (0, 81, 2, 12)), ((13, 181), (0, 82, 2, 11)), ((13, 184), (0, 83, 2, 12)), ((13, 185), (0, 84, 1, 11)), ((13, 188), (0, 85, 1, 12)), ((13, 189), (0, 86, 1, 11)), ((13, 192), (0, 87, 1, 12)), ((13, 193), (0, 88, 1, 11)), ((13, 196), (0, 89, 1, 12))]
def tT : rT := (tF, tC, tK, tA)
def i_X11_init : Nat → Option (Instr × Nat) := (nT 113 (.invokespecial 52, 3) (nT 60 (.dup, 1) (nT 30 (.dup, 1) (nT 15 (.aload_n 0, 1) (nT 5 (.new 7, 3) (nT 1 (.invokespecial 1, 3) (nT 0 (.aload_n 0, 1) nE nE) (nT 4 (.aload_n 0, 1) nE nE)) (nT 9 (.invokespecial 9, 3) (nT 8 (.dup, 1) nE nE) (nT 12 (.putfield 10, 3) nE nE))) (nT 23 (.putfield 19, 3) (nT 19 (.dup, 1) (nT 16 (.new 16, 3) nE nE) (nT 20 (.invokespecial 18, 3) nE nE)) (nT 27 (.new 16, 3) (nT 26 (.aload_n 0, 1) nE nE) nE))) (nT 43 (.getfield 10, 3) (nT 38 (.new 26, 3) (nT 34 (.putfield 23, 3) (nT 31 (.invokespecial 18, 3) nE nE) (nT 37 (.aload_n 0, 1) nE nE)) (nT 42 (.aload_n 0, 1) (nT 41 (.dup, 1) nE nE) nE)) (nT 53 (.putfield 31, 3) (nT 47 (.getfield 23, 3) (nT 46 (.aload_n 0, 1) nE nE) (nT 50 (.invokespecial 28, 3) nE nE)) (nT 57 (.new 35, 3) (nT 56 (.aload_n 0, 1) nE nE) nE)))) (nT 85 (.iconst 3, 1) (nT 75 (.aload_n 0, 1) (nT 68 (.iconst 3, 1) (nT 64 (.putfield 38, 3) (nT 61 (.invokespecial 37, 3) nE nE) (nT 67 (.aload_n 0, 1) nE nE)) (nT 72 (.putfield 42, 3) (nT 69 (.anewarray 35, 3) nE nE) nE)) (nT 82 (.iconst 0, 1) (nT 77 (.newarray .boolean, 2) (nT 76 (.iconst 3, 1) nE nE) (nT 79 (.putfield 46, 3) nE nE)) (nT 84 (.iload_n 1, 1) (nT 83 (.istore_n 1, 1) nE nE) nE))) (nT 98 (.invokespecial 37, 3) (nT 93 (.iload_n 1, 1) (nT 89 (.aload_n 0, 1) (nT 86 (.if_icmp .ge 22, 3) nE nE) (nT 90 (.getfield 42, 3) nE nE)) (nT 97 (.dup, 1) (nT 94 (.new 35, 3) nE nE) nE)) (nT 108 (.aload_n 0, 1) (nT 102 (.iinc 1 1, 3) (nT 101 (.aastore, 1) nE nE) (nT 105 (.goto (-21), 3) nE nE)) (nT 112 (.dup, 1) (nT 109 (.new 50, 3) nE nE) nE))))) (nT 171 (.getfield 62, 3) (nT 143 (.aload_n 0, 1) (nT 128 (.invokespecial 59, 3) (nT 123 (.dup, 1) (nT 119 (.aload_n 0, 1) (nT 116 (.putfield 53, 3) nE nE) (nT 120 (.new 57, 3) nE nE)) (nT 125 (.getfield 19, 3) (nT 124 (.aload_n 0, 1) nE nE) nE)) (nT 138 (.dup, 1) (nT 134 (.aload_n 0, 1) (nT 131 (.putfield 62, 3) nE nE) (nT 135 (.new 66, 3) nE nE)) (nT 140 (.getfield 19, 3) (nT 139 (.aload_n 0, 1) nE nE) nE))) (nT 158 (.new 75, 3) (nT 151 (.invokespecial 68, 3) (nT 147 (.aload_n 0, 1) (nT 144 (.getfield 38, 3) nE nE) (nT 148 (.getfield 62, 3) nE nE)) (nT 157 (.aload_n 0, 1) (nT 154 (.putfield 71, 3) nE nE) nE)) (nT 166 (.aload_n 0, 1) (nT 162 (.aload_n 0, 1) (nT 161 (.dup, 1) nE nE) (nT 163 (.getfield 19, 3) nE nE)) (nT 170 (.aload_n 0, 1) (nT 167 (.getfield 38, 3) nE nE) nE)))) (nT 201 (.aload_n 0, 1) (nT 188 (.dup, 1) (nT 181 (.putfield 80, 3) (nT 175 (.getfield 71, 3) (nT 174 (.aload_n 0, 1) nE nE) (nT 178 (.invokespecial 77, 3) nE nE)) (nT 185 (.new 84, 3) (nT 184 (.aload_n 0, 1) nE nE) nE)) (nT 194 (.getfield 38, 3) (nT 190 (.getfield 19, 3) (nT 189 (.aload_n 0, 1) nE nE) (nT 193 (.aload_n 0, 1) nE nE)) (nT 198 (.getfield 62, 3) (nT 197 (.aload_n 0, 1) nE nE) nE))) (nT 216 (.aload_n 0, 1) (nT 211 (.aload_n 0, 1) (nT 205 (.invokespecial 86, 3) (nT 202 (.getfield 71, 3) nE nE) (nT 208 (.putfield 87, 3) nE nE)) (nT 215 (.dup, 1) (nT 212 (.new 91, 3) nE nE) nE)) (nT 224 (.invokespecial 93, 3) (nT 220 (.aload_n 0, 1) (nT 217 (.getfield 19, 3) nE nE) (nT 221 (.getfield 62, 3) nE nE)) (nT 230 (.return_, 1) (nT 227 (.putfield 96, 3) nE nE) nE))))))
def i_X12_init : Nat → Option (Instr × Nat) := (nT 153 (.aload_n 0, 1) (nT 75 (.putfield 39, 3) (nT 38 (.putfield 24, 3) (nT 22 (.aload_n 0, 1) (nT 10 (.putfield 7, 3) (nT 4 (.aload_n 0, 1) (nT 1 (.invokespecial 1, 3) (nT 0 (.aload_n 0, 1) nE nE) nE) (nT 8 (.newarray .byte, 2) (nT 5 (.sipush 1620, 3) nE nE) nE)) (nT 17 (.newarray .byte, 2) (nT 14 (.sipush 1600, 3) (nT 13 (.aload_n 0, 1) nE nE) nE) (nT 19 (.putfield 13, 3) nE nE))) (nT 29 (.newarray .int, 2) (nT 27 (.aload_n 0, 1) (nT 24 (.putfield 16, 3) (nT 23 (.iconst (-1), 1) nE nE) nE) (nT 28 (.iconst 2, 1) nE nE)) (nT 35 (.iconst 2, 1) (nT 34 (.aload_n 0, 1) (nT 31 (.putfield 20, 3) nE nE) nE) (nT 36 (.newarray .int, 2) nE nE)))) (nT 56 (.iconst 2, 1) (nT 48 (.aload_n 0, 1) (nT 43 (.newarray .int, 2) (nT 42 (.iconst 2, 1) (nT 41 (.aload_n 0, 1) nE nE) nE) (nT 45 (.putfield 27, 3) nE nE)) (nT 52 (.putfield 30, 3) (nT 50 (.newarray .int, 2) (nT 49 (.iconst 2, 1) nE nE) nE) (nT 55 (.aload_n 0, 1) nE nE))) (nT 65 (.newarray .int, 2) (nT 62 (.aload_n 0, 1) (nT 59 (.putfield 33, 3) (nT 57 (.newarray .int, 2) nE nE) nE) (nT 63 (.bipush 12, 2) nE nE)) (nT 71 (.bipush 12, 2) (nT 70 (.aload_n 0, 1) (nT 67 (.putfield 36, 3) nE nE) nE) (nT 73 (.newarray .int, 2) nE nE))))) (nT 116 (.aload_n 0, 1) (nT 97 (.newarray .int, 2) (nT 87 (.bipush 10, 2) (nT 81 (.newarray .int, 2) (nT 79 (.bipush 10, 2) (nT 78 (.aload_n 0, 1) nE nE) nE) (nT 86 (.aload_n 0, 1) (nT 83 (.putfield 42, 3) nE nE) nE)) (nT 94 (.aload_n 0, 1) (nT 91 (.putfield 45, 3) (nT 89 (.newarray .int, 2) nE nE) nE) (nT 95 (.bipush 10, 2) nE nE))) (nT 106 (.putfield 51, 3) (nT 103 (.iconst 2, 1) (nT 102 (.aload_n 0, 1) (nT 99 (.putfield 48, 3) nE nE) nE) (nT 104 (.newarray .int, 2) nE nE)) (nT 111 (.newarray .int, 2) (nT 110 (.iconst 2, 1) (nT 109 (.aload_n 0, 1) nE nE) nE) (nT 113 (.putfield 54, 3) nE nE)))) (nT 132 (.newarray .boolean, 2) (nT 124 (.iconst 2, 1) (nT 120 (.putfield 57, 3) (nT 118 (.newarray .boolean, 2) (nT 117 (.iconst 2, 1) nE nE) nE) (nT 123 (.aload_n 0, 1) nE nE)) (nT 130 (.aload_n 0, 1) (nT 127 (.putfield 61, 3) (nT 125 (.newarray .boolean, 2) nE nE) nE) (nT 131 (.iconst 2, 1) nE nE))) (nT 142 (.putfield 67, 3) (nT 138 (.bipush 12, 2) (nT 137 (.aload_n 0, 1) (nT 134 (.putfield 64, 3) nE nE) nE) (nT 140 (.newarray .long, 2) nE nE)) (nT 148 (.newarray .long, 2) (nT 146 (.bipush 10, 2) (nT 145 (.aload_n 0, 1) nE nE) nE) (nT 150 (.putfield 71, 3) nE nE)))))) (nT 238 (.bipush 6, 2) (nT 196 (.bipush 33, 2) (nT 176 (.putfield 80, 3) (nT 166 (.newarray .int, 2) (nT 159 (.putfield 74, 3) (nT 157 (.newarray .int, 2) (nT 154 (.sipush 1120, 3) nE nE) nE) (nT 163 (.sipush 1120, 3) (nT 162 (.aload_n 0, 1) nE nE) nE)) (nT 172 (.bipush 90, 2) (nT 171 (.aload_n 0, 1) (nT 168 (.putfield 77, 3) nE nE) nE) (nT 174 (.newarray .int, 2) nE nE))) (nT 187 (.aload_n 0, 1) (nT 182 (.newarray .int, 2) (nT 180 (.bipush 90, 2) (nT 179 (.aload_n 0, 1) nE nE) nE) (nT 184 (.putfield 83, 3) nE nE)) (nT 192 (.putfield 86, 3) (nT 190 (.newarray .int, 2) (nT 188 (.bipush 60, 2) nE nE) nE) (nT 195 (.aload_n 0, 1) nE nE)))) (nT 217 (.putfield 95, 3) (nT 207 (.newarray .int, 2) (nT 203 (.aload_n 0, 1) (nT 200 (.putfield 89, 3) (nT 198 (.newarray .int, 2) nE nE) nE) (nT 204 (.sipush 1353, 3) nE nE)) (nT 213 (.bipush 33, 2) (nT 212 (.aload_n 0, 1) (nT 209 (.putfield 92, 3) nE nE) nE) (nT 215 (.newarray .int, 2) nE nE))) (nT 229 (.aload_n 0, 1) (nT 224 (.newarray .boolean, 2) (nT 221 (.sipush 320, 3) (nT 220 (.aload_n 0, 1) nE nE) nE) (nT 226 (.putfield 98, 3) nE nE)) (nT 234 (.putfield 101, 3) (nT 232 (.newarray .int, 2) (nT 230 (.bipush 6, 2) nE nE) nE) (nT 237 (.aload_n 0, 1) nE nE))))) (nT 278 (.bipush 30, 2) (nT 258 (.putfield 110, 3) (nT 248 (.newarray .int, 2) (nT 245 (.aload_n 0, 1) (nT 242 (.putfield 104, 3) (nT 240 (.newarray .int, 2) nE nE) nE) (nT 246 (.bipush 30, 2) nE nE)) (nT 254 (.bipush 30, 2) (nT 253 (.aload_n 0, 1) (nT 250 (.putfield 107, 3) nE nE) nE) (nT 256 (.newarray .int, 2) nE nE))) (nT 269 (.aload_n 0, 1) (nT 264 (.newarray .int, 2) (nT 262 (.bipush 30, 2) (nT 261 (.aload_n 0, 1) nE nE) nE) (nT 266 (.putfield 113, 3) nE nE)) (nT 274 (.putfield 116, 3) (nT 272 (.newarray .int, 2) (nT 270 (.bipush 30, 2) nE nE) nE) (nT 277 (.aload_n 0, 1) nE nE)))) (nT 298 (.putfield 125, 3) (nT 288 (.newarray .int, 2) (nT 285 (.aload_n 0, 1) (nT 282 (.putfield 119, 3) (nT 280 (.newarray .int, 2) nE nE) nE) (nT 286 (.bipush 6, 2) nE nE)) (nT 294 (.bipush 99, 2) (nT 293 (.aload_n 0, 1) (nT 290 (.putfield 122, 3) nE nE) nE) (nT 296 (.newarray .int, 2) nE nE))) (nT 308 (.aload_n 0, 1) (nT 303 (.newarray .boolean, 2) (nT 302 (.iconst 3, 1) (nT 301 (.aload_n 0, 1) nE nE) nE) (nT 305 (.putfield 128, 3) nE nE)) (nT 313 (.invokevirtual 134, 3) (nT 312 (.aload_n 0, 1) (nT 309 (.invokevirtual 131, 3) nE nE) nE) (nT 316 (.return_, 1) nE nE)))))))
def i_X11_feed : Nat → Option (Instr × Nat) := (nT 31 (.getfield 10, 3) (nT 18 (.iload_n 1, 1) (nT 6 (.invokevirtual 100, 3) (nT 1 (.getfield 10, 3) (nT 0 (.aload_n 0, 1) nE nE) (nT 4 (.bipush 20, 2) nE nE)) (nT 14 (.aload_n 0, 1) (nT 9 (.ifCond .ne 5, 3) nE nE) (nT 15 (.getfield 10, 3) nE nE))) (nT 26 (.iload_n 2, 1) (nT 22 (.aload_n 0, 1) (nT 19 (.invokevirtual 104, 3) nE nE) (nT 23 (.getfield 10, 3) nE nE)) (nT 30 (.aload_n 0, 1) (nT 27 (.invokevirtual 104, 3) nE nE) nE))) (nT 48 (.getfield 10, 3) (nT 39 (.getfield 10, 3) (nT 35 (.invokevirtual 104, 3) (nT 34 (.iload_n 3, 1) nE nE) (nT 38 (.aload_n 0, 1) nE nE)) (nT 44 (.invokevirtual 104, 3) (nT 42 (.iload 4, 2) nE nE) (nT 47 (.aload_n 0, 1) nE nE))) (nT 57 (.getfield 10, 3) (nT 53 (.invokevirtual 104, 3) (nT 51 (.iload 5, 2) nE nE) (nT 56 (.aload_n 0, 1) nE nE)) (nT 63 (.ireturn, 1) (nT 60 (.getfield 108, 3) nE nE) nE))))
def i_X12_feed : Nat → Option (Instr × Nat) := (nT 66 (.goto 5, 3) (nT 32 (.goto 39, 3) (nT 16 (.istore 6, 2) (nT 6 (.iadd, 1) (nT 1 (.getfield 248, 3) (nT 0 (.aload_n 0, 1) nE nE) (nT 4 (.bipush 20, 2) nE nE)) (nT 10 (.if_icmp .le 5, 3) (nT 7 (.sipush 1600, 3) nE nE) (nT 15 (.iconst 0, 1) nE nE))) (nT 25 (.iload 6, 2) (nT 20 (.bipush 20, 2) (nT 18 (.iload 6, 2) nE nE) (nT 22 (.if_icmp .ge 83, 3) nE nE)) (nT 28 (.if_icmp .ge 7, 3) (nT 27 (.iconst 4, 1) nE nE) (nT 31 (.iload_n 1, 1) nE nE)))) (nT 50 (.if_icmp .ge 7, 3) (nT 42 (.iload_n 2, 1) (nT 37 (.bipush 8, 2) (nT 35 (.iload 6, 2) nE nE) (nT 39 (.if_icmp .ge 7, 3) nE nE)) (nT 46 (.iload 6, 2) (nT 43 (.goto 28, 3) nE nE) (nT 48 (.bipush 12, 2) nE nE))) (nT 59 (.bipush 16, 2) (nT 54 (.goto 17, 3) (nT 53 (.iload_n 3, 1) nE nE) (nT 57 (.iload 6, 2) nE nE)) (nT 64 (.iload 4, 2) (nT 61 (.if_icmp .ge 8, 3) nE nE) nE)))) (nT 95 (.isub, 1) (nT 83 (.iadd, 1) (nT 74 (.getfield 7, 3) (nT 71 (.istore 7, 2) (nT 69 (.iload 5, 2) nE nE) (nT 73 (.aload_n 0, 1) nE nE)) (nT 78 (.getfield 248, 3) (nT 77 (.aload_n 0, 1) nE nE) (nT 81 (.iload 6, 2) nE nE))) (nT 90 (.iload 6, 2) (nT 86 (.bipush 24, 2) (nT 84 (.iload 7, 2) nE nE) (nT 88 (.bipush 8, 2) nE nE)) (nT 93 (.iand, 1) (nT 92 (.iconst 3, 1) nE nE) (nT 94 (.imul, 1) nE nE)))) (nT 107 (.getfield 248, 3) (nT 99 (.iinc 6 1, 3) (nT 97 (.i2b, 1) (nT 96 (.ishr, 1) nE nE) (nT 98 (.bastore, 1) nE nE)) (nT 105 (.aload_n 0, 1) (nT 102 (.goto (-84), 3) nE nE) (nT 106 (.dup, 1) nE nE))) (nT 116 (.aload_n 0, 1) (nT 112 (.iadd, 1) (nT 110 (.bipush 20, 2) nE nE) (nT 113 (.putfield 248, 3) nE nE)) (nT 120 (.ireturn, 1) (nT 117 (.getfield 248, 3) nE nE) nE)))))
def i_X11_end : Nat → Option (Instr × Nat) := (nT 15 (.iconst (-1), 1) (nT 5 (.aload_n 0, 1) (nT 1 (.ifCond .lt 14, 3) (nT 0 (.iload_n 1, 1) nE nE) (nT 4 (.iload_n 1, 1) nE nE)) (nT 9 (.getfield 108, 3) (nT 6 (.getfield 10, 3) nE nE) (nT 12 (.if_icmp .le 5, 3) nE nE))) (nT 21 (.iload_n 1, 1) (nT 17 (.aload_n 0, 1) (nT 16 (.ireturn, 1) nE nE) (nT 18 (.getfield 10, 3) nE nE)) (nT 25 (.iload_n 1, 1) (nT 22 (.putfield 108, 3) nE nE) (nT 26 (.ireturn, 1) nE nE))))
def i_X12_end : Nat → Option (Instr × Nat) := (nT 12 (.iconst (-1), 1) (nT 5 (.aload_n 0, 1) (nT 1 (.ifCond .lt 11, 3) (nT 0 (.iload_n 1, 1) nE nE) (nT 4 (.iload_n 1, 1) nE nE)) (nT 9 (.if_icmp .le 5, 3) (nT 6 (.getfield 248, 3) nE nE) nE)) (nT 16 (.putfield 248, 3) (nT 14 (.aload_n 0, 1) (nT 13 (.ireturn, 1) nE nE) (nT 15 (.iload_n 1, 1) nE nE)) (nT 20 (.ireturn, 1) (nT 19 (.iload_n 1, 1) nE nE) nE)))
def i_X11_house : Nat → Option (Instr × Nat) := (nT 50 (.invokevirtual 122, 3) (nT 27 (.iconst 0, 1) (nT 13 (.getfield 19, 3) (nT 4 (.invokevirtual 112, 3) (nT 1 (.getfield 31, 3) (nT 0 (.aload_n 0, 1) nE nE) nE) (nT 12 (.aload_n 0, 1) (nT 7 (.ifCond .ne 5, 3) nE nE) nE)) (nT 20 (.invokevirtual 116, 3) (nT 17 (.getfield 23, 3) (nT 16 (.aload_n 0, 1) nE nE) nE) (nT 24 (.getfield 10, 3) (nT 23 (.aload_n 0, 1) nE nE) nE))) (nT 39 (.invokevirtual 119, 3) (nT 32 (.getfield 38, 3) (nT 31 (.aload_n 0, 1) (nT 28 (.putfield 108, 3) nE nE) nE) (nT 36 (.getfield 19, 3) (nT 35 (.aload_n 0, 1) nE nE) nE)) (nT 46 (.aload_n 0, 1) (nT 43 (.getfield 53, 3) (nT 42 (.aload_n 0, 1) nE nE) nE) (nT 47 (.getfield 38, 3) nE nE)))) (nT 74 (.aload_n 0, 1) (nT 64 (.invokevirtual 129, 3) (nT 57 (.invokevirtual 126, 3) (nT 54 (.getfield 96, 3) (nT 53 (.aload_n 0, 1) nE nE) nE) (nT 61 (.getfield 87, 3) (nT 60 (.aload_n 0, 1) nE nE) nE)) (nT 69 (.iload_n 1, 1) (nT 68 (.istore_n 1, 1) (nT 67 (.iconst 0, 1) nE nE) nE) (nT 71 (.if_icmp .ge 16, 3) (nT 70 (.iconst 3, 1) nE nE) nE))) (nT 84 (.goto (-15), 3) (nT 79 (.iconst 0, 1) (nT 78 (.iload_n 1, 1) (nT 75 (.getfield 46, 3) nE nE) nE) (nT 81 (.iinc 1 1, 3) (nT 80 (.bastore, 1) nE nE) nE)) (nT 91 (.getfield 132, 3) (nT 88 (.getfield 19, 3) (nT 87 (.aload_n 0, 1) nE nE) nE) (nT 94 (.ireturn, 1) nE nE)))))
def i_X12_house : Nat → Option (Instr × Nat) := (nT 62 (.isub, 1) (nT 21 (.aload_n 0, 1) (nT 10 (.aload_n 0, 1) (nT 5 (.aload_n 0, 1) (nT 1 (.iconst 0, 1) (nT 0 (.aload_n 0, 1) nE nE) (nT 2 (.putfield 140, 3) nE nE)) (nT 7 (.putfield 16, 3) (nT 6 (.iconst (-1), 1) nE nE) nE)) (nT 18 (.iconst 0, 1) (nT 12 (.getfield 248, 3) (nT 11 (.aload_n 0, 1) nE nE) (nT 15 (.putfield 137, 3) nE nE)) (nT 20 (.iload_n 1, 1) (nT 19 (.istore_n 1, 1) nE nE) nE))) (nT 52 (.iconst 0, 1) (nT 47 (.iconst 0, 1) (nT 25 (.if_icmp .ge 21, 3) (nT 22 (.getfield 137, 3) nE nE) (nT 46 (.aload_n 0, 1) nE nE)) (nT 51 (.aload_n 0, 1) (nT 48 (.putfield 248, 3) nE nE) nE)) (nT 57 (.iconst 1, 1) (nT 56 (.aload_n 0, 1) (nT 53 (.putfield 179, 3) nE nE) nE) (nT 59 (.getfield 251, 3) (nT 58 (.aload_n 0, 1) nE nE) nE)))) (nT 99 (.ifCond .ne 5, 3) (nT 75 (.invokevirtual 217, 3) (nT 70 (.aload_n 0, 1) (nT 66 (.aload_n 0, 1) (nT 63 (.putfield 242, 3) nE nE) (nT 67 (.invokevirtual 131, 3) nE nE)) (nT 74 (.aload_n 0, 1) (nT 71 (.invokevirtual 221, 3) nE nE) nE)) (nT 85 (.ifCond .eq 10, 3) (nT 81 (.aload_n 0, 1) (nT 78 (.ifCond .eq 17, 3) nE nE) (nT 82 (.getfield 189, 3) nE nE)) (nT 96 (.invokevirtual 217, 3) (nT 95 (.aload_n 0, 1) nE nE) nE))) (nT 116 (.aload_n 0, 1) (nT 109 (.putfield 251, 3) (nT 105 (.aload_n 0, 1) (nT 104 (.aload_n 0, 1) nE nE) (nT 106 (.getfield 242, 3) nE nE)) (nT 113 (.invokevirtual 134, 3) (nT 112 (.aload_n 0, 1) nE nE) nE)) (nT 121 (.getfield 251, 3) (nT 120 (.aload_n 0, 1) (nT 117 (.getfield 20, 3) nE nE) nE) (nT 125 (.ireturn, 1) (nT 124 (.iaload, 1) nE nE) nE)))))
def i_X11_fault : Nat → Option (Instr × Nat) := (nT 36 (.aload_n 0, 1) (nT 29 (.getfield 31, 3) (nT 1 (.lookupswitch 43 #[(0, 27), (1, 35)], 27) (nT 0 (.iload_n 1, 1) nE nE) (nT 28 (.aload_n 0, 1) nE nE)) (nT 35 (.ireturn, 1) (nT 32 (.getfield 135, 3) nE nE) nE)) (nT 43 (.ireturn, 1) (nT 40 (.getfield 138, 3) (nT 37 (.getfield 31, 3) nE nE) nE) (nT 45 (.ireturn, 1) (nT 44 (.iconst (-1), 1) nE nE) nE)))
def i_X12_fault : Nat → Option (Instr × Nat) := (nT 12 (.iconst 1, 1) (nT 5 (.getfield 140, 3) (nT 1 (.ifCond .ne 10, 3) (nT 0 (.iload_n 1, 1) nE nE) (nT 4 (.aload_n 0, 1) nE nE)) (nT 11 (.iload_n 1, 1) (nT 8 (.goto 16, 3) nE nE) nE)) (nT 20 (.goto 4, 3) (nT 16 (.aload_n 0, 1) (nT 13 (.if_icmp .ne 10, 3) nE nE) (nT 17 (.getfield 16, 3) nE nE)) (nT 24 (.ireturn, 1) (nT 23 (.iconst (-1), 1) nE nE) nE)))
def i_X11_member : Nat → Option (Instr × Nat) := (nT 5 (.invokevirtual 141, 3) (nT 1 (.getfield 19, 3) (nT 0 (.aload_n 0, 1) nE nE) (nT 4 (.iload_n 1, 1) nE nE)) (nT 11 (.iconst (-1), 1) (nT 8 (.ifCond .ne 5, 3) nE nE) (nT 12 (.ireturn, 1) nE nE)))
def i_X12_member : Nat → Option (Instr × Nat) := (nT 5 (.ifCond .ne 5, 3) (nT 1 (.iload_n 1, 1) (nT 0 (.aload_n 0, 1) nE nE) (nT 2 (.invokevirtual 410, 3) nE nE)) (nT 9 (.ireturn, 1) (nT 8 (.iconst (-1), 1) nE nE) nE))
def i_X11_bill : Nat → Option (Instr × Nat) := (nT 5 (.invokevirtual 160, 3) (nT 1 (.getfield 19, 3) (nT 0 (.aload_n 0, 1) nE nE) (nT 4 (.iload_n 1, 1) nE nE)) (nT 11 (.iconst (-1), 1) (nT 8 (.ifCond .ne 5, 3) nE nE) (nT 12 (.ireturn, 1) nE nE)))
def i_X12_bill : Nat → Option (Instr × Nat) := (nT 5 (.ifCond .ne 5, 3) (nT 1 (.iload_n 1, 1) (nT 0 (.aload_n 0, 1) nE nE) (nT 2 (.invokevirtual 354, 3) nE nE)) (nT 9 (.ireturn, 1) (nT 8 (.iconst (-1), 1) nE nE) nE))
def i_X11_vote : Nat → Option (Instr × Nat) := (nT 6 (.invokevirtual 179, 3) (nT 4 (.iload_n 1, 1) (nT 1 (.getfield 71, 3) (nT 0 (.aload_n 0, 1) nE nE) nE) (nT 5 (.iload_n 2, 1) nE nE)) (nT 12 (.iconst (-1), 1) (nT 9 (.ifCond .ne 5, 3) nE nE) (nT 13 (.ireturn, 1) nE nE)))
def i_X12_vote : Nat → Option (Instr × Nat) := (nT 3 (.invokevirtual 413, 3) (nT 1 (.iload_n 1, 1) (nT 0 (.aload_n 0, 1) nE nE) (nT 2 (.iload_n 2, 1) nE nE)) (nT 9 (.iconst (-1), 1) (nT 6 (.ifCond .ne 5, 3) nE nE) (nT 10 (.ireturn, 1) nE nE)))
def i_X11_shake : Nat → Option (Instr × Nat) := (nT 10 (.aload_n 0, 1) (nT 5 (.iconst 4, 1) (nT 1 (.getfield 38, 3) (nT 0 (.aload_n 0, 1) nE nE) (nT 4 (.iload_n 1, 1) nE nE)) (nT 9 (.istore_n 2, 1) (nT 6 (.invokevirtual 163, 3) nE nE) nE)) (nT 18 (.ifCond .eq 20, 3) (nT 14 (.iload_n 1, 1) (nT 11 (.getfield 71, 3) nE nE) (nT 15 (.invokevirtual 202, 3) nE nE)) (nT 39 (.ireturn, 1) (nT 38 (.iconst (-1), 1) nE nE) nE)))
def i_X12_shake : Nat → Option (Instr × Nat) := (nT 5 (.ifCond .ne 5, 3) (nT 1 (.iload_n 1, 1) (nT 0 (.aload_n 0, 1) nE nE) (nT 2 (.invokevirtual 434, 3) nE nE)) (nT 9 (.ireturn, 1) (nT 8 (.iconst (-1), 1) nE nE) nE))
def i_X11_shelve : Nat → Option (Instr × Nat) := (nT 10 (.aload_n 0, 1) (nT 5 (.iconst 3, 1) (nT 1 (.getfield 38, 3) (nT 0 (.aload_n 0, 1) nE nE) (nT 4 (.iload_n 1, 1) nE nE)) (nT 9 (.istore_n 3, 1) (nT 6 (.invokevirtual 163, 3) nE nE) nE)) (nT 18 (.ifCond .eq 18, 3) (nT 14 (.iload_n 1, 1) (nT 11 (.getfield 71, 3) nE nE) (nT 15 (.invokevirtual 202, 3) nE nE)) (nT 37 (.ireturn, 1) (nT 36 (.iconst (-1), 1) nE nE) nE)))
def i_X12_shelve : Nat → Option (Instr × Nat) := (nT 5 (.ifCond .eq 26, 3) (nT 1 (.iload_n 1, 1) (nT 0 (.aload_n 0, 1) nE nE) (nT 2 (.invokevirtual 398, 3) nE nE)) (nT 32 (.ireturn, 1) (nT 31 (.iconst (-1), 1) nE nE) nE))
def i_X11_join : Nat → Option (Instr × Nat) := (nT 6 (.invokevirtual 212, 3) (nT 4 (.iload_n 1, 1) (nT 1 (.getfield 71, 3) (nT 0 (.aload_n 0, 1) nE nE) nE) (nT 5 (.iload_n 2, 1) nE nE)) (nT 12 (.iconst (-1), 1) (nT 9 (.ifCond .ne 5, 3) nE nE) (nT 13 (.ireturn, 1) nE nE)))
def i_X12_join : Nat → Option (Instr × Nat) := (nT 3 (.invokevirtual 437, 3) (nT 1 (.iload_n 1, 1) (nT 0 (.aload_n 0, 1) nE nE) (nT 2 (.iload_n 2, 1) nE nE)) (nT 9 (.iconst (-1), 1) (nT 6 (.ifCond .ne 5, 3) nE nE) (nT 10 (.ireturn, 1) nE nE)))
def i_X11_day : Nat → Option (Instr × Nat) := (nT 31 (.getfield 19, 3) (nT 22 (.iconst 1, 1) (nT 10 (.if_icmp .lt 5, 3) (nT 4 (.getfield 221, 3) (nT 1 (.getfield 38, 3) (nT 0 (.aload_n 0, 1) nE nE) nE) (nT 7 (.sipush 999, 3) nE nE)) (nT 16 (.getfield 38, 3) (nT 15 (.aload_n 0, 1) nE nE) (nT 19 (.getfield 221, 3) nE nE))) (nT 27 (.iconst 0, 1) (nT 25 (.iconst 0, 1) (nT 24 (.istore_n 1, 1) (nT 23 (.iadd, 1) nE nE) nE) (nT 26 (.istore_n 2, 1) nE nE)) (nT 29 (.iload_n 3, 1) (nT 28 (.istore_n 3, 1) nE nE) (nT 30 (.aload_n 0, 1) nE nE)))) (nT 175 (.iconst 0, 1) (nT 167 (.iload_n 1, 1) (nT 163 (.aload_n 0, 1) (nT 37 (.if_icmp .ge 126, 3) (nT 34 (.getfield 224, 3) nE nE) nE) (nT 164 (.getfield 38, 3) nE nE)) (nT 171 (.aload_n 0, 1) (nT 168 (.putfield 221, 3) nE nE) (nT 172 (.getfield 38, 3) nE nE))) (nT 184 (.getfield 38, 3) (nT 180 (.getfield 53, 3) (nT 179 (.aload_n 0, 1) (nT 176 (.putfield 151, 3) nE nE) nE) (nT 183 (.aload_n 0, 1) nE nE)) (nT 190 (.iload_n 2, 1) (nT 187 (.invokevirtual 199, 3) nE nE) (nT 191 (.ireturn, 1) nE nE)))))
def i_X12_day : Nat → Option (Instr × Nat) := (nT 10 (.if_icmp .ne 5, 3) (nT 4 (.bipush 31, 2) (nT 1 (.getfield 89, 3) (nT 0 (.aload_n 0, 1) nE nE) nE) (nT 7 (.sipush 999, 3) (nT 6 (.iaload, 1) nE nE) nE)) (nT 19 (.aload_n 0, 1) (nT 16 (.invokevirtual 428, 3) (nT 15 (.aload_n 0, 1) nE nE) nE) (nT 23 (.ireturn, 1) (nT 20 (.invokevirtual 443, 3) nE nE) nE)))
def i_X11_undo : Nat → Option (Instr × Nat) := (nT 5 (.getfield 38, 3) (nT 1 (.getfield 53, 3) (nT 0 (.aload_n 0, 1) nE nE) (nT 4 (.aload_n 0, 1) nE nE)) (nT 11 (.ireturn, 1) (nT 8 (.invokevirtual 233, 3) nE nE) nE))
def i_X12_undo : Nat → Option (Instr × Nat) := (nT 4 (.ifCond .ne 5, 3) (nT 1 (.getfield 365, 3) (nT 0 (.aload_n 0, 1) nE nE) nE) (nT 8 (.ireturn, 1) (nT 7 (.iconst 0, 1) nE nE) nE))
def i_X11_redo : Nat → Option (Instr × Nat) := (nT 5 (.getfield 38, 3) (nT 1 (.getfield 53, 3) (nT 0 (.aload_n 0, 1) nE nE) (nT 4 (.aload_n 0, 1) nE nE)) (nT 11 (.ireturn, 1) (nT 8 (.invokevirtual 237, 3) nE nE) nE))
def i_X12_redo : Nat → Option (Instr × Nat) := (nT 4 (.ifCond .ne 5, 3) (nT 1 (.getfield 368, 3) (nT 0 (.aload_n 0, 1) nE nE) nE) (nT 8 (.ireturn, 1) (nT 7 (.iconst 0, 1) nE nE) nE))
def i_X11_will : Nat → Option (Instr × Nat) := (nT 5 (.iload_n 2, 1) (nT 1 (.getfield 71, 3) (nT 0 (.aload_n 0, 1) nE nE) (nT 4 (.iload_n 1, 1) nE nE)) (nT 9 (.ireturn, 1) (nT 6 (.invokevirtual 240, 3) nE nE) nE))
def i_X12_will : Nat → Option (Instr × Nat) := (nT 5 (.ifCond .eq 13, 3) (nT 1 (.iload_n 1, 1) (nT 0 (.aload_n 0, 1) nE nE) (nT 2 (.invokevirtual 398, 3) nE nE)) (nT 19 (.ireturn, 1) (nT 18 (.iconst (-1), 1) nE nE) nE))
def i_X11_dull : Nat → Option (Instr × Nat) := (nT 4 (.iload_n 1, 1) (nT 1 (.getfield 71, 3) (nT 0 (.aload_n 0, 1) nE nE) nE) (nT 8 (.ireturn, 1) (nT 5 (.invokevirtual 243, 3) nE nE) nE))
def i_X12_dull : Nat → Option (Instr × Nat) := (nT 5 (.ifCond .ne 5, 3) (nT 1 (.iload_n 1, 1) (nT 0 (.aload_n 0, 1) nE nE) (nT 2 (.invokevirtual 398, 3) nE nE)) (nT 9 (.ireturn, 1) (nT 8 (.iconst (-1), 1) nE nE) nE))
def i_X11_pass : Nat → Option (Instr × Nat) := (nT 4 (.invokevirtual 246, 3) (nT 1 (.getfield 71, 3) (nT 0 (.aload_n 0, 1) nE nE) nE) (nT 7 (.ireturn, 1) nE nE))
def i_X12_pass : Nat → Option (Instr × Nat) := (nT 6 (.getfield 24, 3) (nT 3 (.istore_n 2, 1) (nT 1 (.istore_n 1, 1) (nT 0 (.iconst 0, 1) nE nE) (nT 2 (.iconst 0, 1) nE nE)) (nT 5 (.aload_n 0, 1) (nT 4 (.iload_n 2, 1) nE nE) nE)) (nT 14 (.if_icmp .ge 23, 3) (nT 10 (.getfield 251, 3) (nT 9 (.aload_n 0, 1) nE nE) (nT 13 (.iaload, 1) nE nE)) (nT 38 (.ireturn, 1) (nT 37 (.iload_n 1, 1) nE nE) nE)))
def i_X11_muster : Nat → Option (Instr × Nat) := (nT 17 (.goto 4, 3) (nT 6 (.if_icmp .ne 14, 3) (nT 4 (.iload_n 2, 1) (nT 1 (.ifCond .eq 8, 3) (nT 0 (.iload_n 2, 1) nE nE) nE) (nT 5 (.iconst 1, 1) nE nE)) (nT 13 (.iload_n 1, 1) (nT 10 (.getfield 71, 3) (nT 9 (.aload_n 0, 1) nE nE) nE) (nT 14 (.invokevirtual 250, 3) nE nE))) (nT 24 (.if_icmp .eq 8, 3) (nT 22 (.iload_n 3, 1) (nT 21 (.istore_n 3, 1) (nT 20 (.iconst (-1), 1) nE nE) nE) (nT 23 (.iconst (-1), 1) nE nE)) (nT 33 (.goto 7, 3) (nT 32 (.iload_n 3, 1) nE nE) (nT 40 (.ireturn, 1) nE nE))))
def i_X12_muster : Nat → Option (Instr × Nat) := (nT 5 (.ifCond .eq 12, 3) (nT 1 (.iload_n 1, 1) (nT 0 (.aload_n 0, 1) nE nE) (nT 2 (.invokevirtual 398, 3) nE nE)) (nT 18 (.ireturn, 1) (nT 17 (.iconst (-1), 1) nE nE) nE))
def i_X11_latest : Nat → Option (Instr × Nat) := (nT 5 (.iload_n 2, 1) (nT 1 (.getfield 71, 3) (nT 0 (.aload_n 0, 1) nE nE) (nT 4 (.iload_n 1, 1) nE nE)) (nT 9 (.ireturn, 1) (nT 6 (.invokevirtual 258, 3) nE nE) nE))
def i_X12_latest : Nat → Option (Instr × Nat) := (nT 5 (.ifCond .eq 26, 3) (nT 1 (.iload_n 1, 1) (nT 0 (.aload_n 0, 1) nE nE) (nT 2 (.invokevirtual 410, 3) nE nE)) (nT 32 (.ireturn, 1) (nT 31 (.iconst (-1), 1) nE nE) nE))
def i_X11_plan : Nat → Option (Instr × Nat) := (nT 4 (.invokevirtual 261, 3) (nT 1 (.getfield 87, 3) (nT 0 (.aload_n 0, 1) nE nE) nE) (nT 7 (.ireturn, 1) nE nE))
def i_X12_plan : Nat → Option (Instr × Nat) := (nT 124 (.aload_n 0, 1) (nT 94 (.iconst 0, 1) (nT 8 (.getfield 251, 3) (nT 3 (.aload_n 0, 1) (nT 1 (.istore_n 1, 1) (nT 0 (.iconst 0, 1) nE nE) (nT 2 (.iload_n 1, 1) nE nE)) (nT 7 (.aload_n 0, 1) (nT 4 (.getfield 24, 3) nE nE) nE)) (nT 91 (.istore_n 1, 1) (nT 12 (.if_icmp .ge 78, 3) (nT 11 (.iaload, 1) nE nE) (nT 90 (.iconst (-1), 1) nE nE)) (nT 93 (.istore_n 2, 1) (nT 92 (.iconst 0, 1) nE nE) nE))) (nT 106 (.if_icmp .ge 89, 3) (nT 99 (.aload_n 0, 1) (nT 96 (.iload_n 3, 1) (nT 95 (.istore_n 3, 1) nE nE) (nT 97 (.bipush 6, 2) nE nE)) (nT 103 (.invokestatic 476, 3) (nT 100 (.invokevirtual 347, 3) nE nE) nE)) (nT 114 (.istore 4, 2) (nT 110 (.iload_n 3, 1) (nT 109 (.aload_n 0, 1) nE nE) (nT 111 (.invokevirtual 479, 3) nE nE)) (nT 118 (.ifCond .ge 6, 3) (nT 116 (.iload 4, 2) nE nE) nE)))) (nT 158 (.istore 6, 2) (nT 138 (.iload_n 1, 1) (nT 132 (.iload_n 1, 1) (nT 128 (.istore 5, 2) (nT 125 (.invokevirtual 482, 3) nE nE) (nT 130 (.iload 5, 2) nE nE)) (nT 136 (.iload 5, 2) (nT 133 (.if_icmp .lt 56, 3) nE nE) nE)) (nT 154 (.iload 4, 2) (nT 151 (.iload 5, 2) (nT 139 (.if_icmp .ne 12, 3) nE nE) (nT 153 (.istore_n 1, 1) nE nE)) (nT 157 (.iconst 0, 1) (nT 156 (.istore_n 2, 1) nE nE) nE))) (nT 195 (.aload_n 0, 1) (nT 166 (.if_icmp .ge 23, 3) (nT 162 (.aload_n 0, 1) (nT 160 (.iload 6, 2) nE nE) (nT 163 (.invokevirtual 347, 3) nE nE)) (nT 192 (.goto (-96), 3) (nT 189 (.iinc 3 1, 3) nE nE) nE)) (nT 200 (.putfield 374, 3) (nT 197 (.invokevirtual 347, 3) (nT 196 (.aload_n 0, 1) nE nE) nE) (nT 204 (.ireturn, 1) (nT 203 (.iload_n 1, 1) nE nE) nE)))))
def i_X11_power : Nat → Option (Instr × Nat) := (nT 6 (.invokevirtual 264, 3) (nT 4 (.iload_n 1, 1) (nT 1 (.getfield 80, 3) (nT 0 (.aload_n 0, 1) nE nE) nE) (nT 5 (.iload_n 2, 1) nE nE)) (nT 23 (.iconst (-1), 1) (nT 9 (.ifCond .eq 14, 3) nE nE) (nT 24 (.ireturn, 1) nE nE)))
def i_X12_power : Nat → Option (Instr × Nat) := (nT 5 (.ifCond .eq 20, 3) (nT 1 (.iload_n 1, 1) (nT 0 (.aload_n 0, 1) nE nE) (nT 2 (.invokevirtual 410, 3) nE nE)) (nT 26 (.ireturn, 1) (nT 25 (.iconst (-1), 1) nE nE) nE))
def i_X11_best : Nat → Option (Instr × Nat) := (nT 4 (.iload_n 1, 1) (nT 1 (.getfield 71, 3) (nT 0 (.aload_n 0, 1) nE nE) nE) (nT 8 (.ireturn, 1) (nT 5 (.invokevirtual 270, 3) nE nE) nE))
def i_X12_best : Nat → Option (Instr × Nat) := (nT 5 (.ifCond .ne 5, 3) (nT 1 (.iload_n 1, 1) (nT 0 (.aload_n 0, 1) nE nE) (nT 2 (.invokevirtual 398, 3) nE nE)) (nT 9 (.ireturn, 1) (nT 8 (.iconst (-1), 1) nE nE) nE))
def i_X11_joint : Nat → Option (Instr × Nat) := (nT 6 (.invokevirtual 212, 3) (nT 4 (.iload_n 1, 1) (nT 1 (.getfield 71, 3) (nT 0 (.aload_n 0, 1) nE nE) nE) (nT 5 (.iload_n 2, 1) nE nE)) (nT 24 (.iconst (-1), 1) (nT 9 (.ifCond .eq 15, 3) nE nE) (nT 25 (.ireturn, 1) nE nE)))
def i_X12_joint : Nat → Option (Instr × Nat) := (nT 3 (.invokevirtual 437, 3) (nT 1 (.iload_n 1, 1) (nT 0 (.aload_n 0, 1) nE nE) (nT 2 (.iload_n 2, 1) nE nE)) (nT 18 (.iconst (-1), 1) (nT 6 (.ifCond .eq 12, 3) nE nE) (nT 19 (.ireturn, 1) nE nE)))
def i_X11_law : Nat → Option (Instr × Nat) := (nT 12 (.iconst (-1), 1) (nT 6 (.iload_n 1, 1) (nT 1 (.bipush (-99), 2) (nT 0 (.iload_n 1, 1) nE nE) (nT 3 (.if_icmp .lt 9, 3) nE nE)) (nT 9 (.if_icmp .le 7, 3) (nT 7 (.bipush 99, 2) nE nE) nE)) (nT 20 (.iload_n 1, 1) (nT 16 (.aload_n 0, 1) (nT 13 (.goto 11, 3) nE nE) (nT 17 (.getfield 71, 3) nE nE)) (nT 24 (.ireturn, 1) (nT 21 (.invokevirtual 276, 3) nE nE) nE)))
def i_X12_law : Nat → Option (Instr × Nat) := (nT 16 (.istore_n 3, 1) (nT 11 (.iconst (-1), 1) (nT 3 (.bipush 99, 2) (nT 1 (.bipush (-99), 2) (nT 0 (.iload_n 1, 1) nE nE) nE) (nT 8 (.ifCond .ne 5, 3) (nT 5 (.invokestatic 350, 3) nE nE) nE)) (nT 14 (.istore_n 2, 1) (nT 13 (.iconst 0, 1) (nT 12 (.ireturn, 1) nE nE) nE) (nT 15 (.iconst 0, 1) nE nE))) (nT 23 (.getfield 251, 3) (nT 19 (.getfield 24, 3) (nT 18 (.aload_n 0, 1) (nT 17 (.iload_n 3, 1) nE nE) nE) (nT 22 (.aload_n 0, 1) nE nE)) (nT 67 (.iload_n 2, 1) (nT 27 (.if_icmp .ge 40, 3) (nT 26 (.iaload, 1) nE nE) nE) (nT 68 (.ireturn, 1) nE nE))))
def i_X11_odds : Nat → Option (Instr × Nat) := (nT 6 (.invokevirtual 279, 3) (nT 4 (.iload_n 1, 1) (nT 1 (.getfield 80, 3) (nT 0 (.aload_n 0, 1) nE nE) nE) (nT 5 (.iload_n 2, 1) nE nE)) (nT 23 (.iconst (-1), 1) (nT 9 (.ifCond .eq 14, 3) nE nE) (nT 24 (.ireturn, 1) nE nE)))
def i_X12_odds : Nat → Option (Instr × Nat) := (nT 4 (.invokevirtual 497, 3) (nT 2 (.iload_n 2, 1) (nT 1 (.iload_n 1, 1) (nT 0 (.aload_n 0, 1) nE nE) nE) (nT 3 (.iconst 4, 1) nE nE)) (nT 35 (.iconst (-1), 1) (nT 7 (.ifCond .eq 28, 3) nE nE) (nT 36 (.ireturn, 1) nE nE)))
def i_X11_mean : Nat → Option (Instr × Nat) := (nT 6 (.invokevirtual 282, 3) (nT 4 (.iload_n 1, 1) (nT 1 (.getfield 80, 3) (nT 0 (.aload_n 0, 1) nE nE) nE) (nT 5 (.iload_n 2, 1) nE nE)) (nT 23 (.iconst (-1), 1) (nT 9 (.ifCond .eq 14, 3) nE nE) (nT 24 (.ireturn, 1) nE nE)))
def i_X12_mean : Nat → Option (Instr × Nat) := (nT 4 (.invokevirtual 497, 3) (nT 2 (.iload_n 2, 1) (nT 1 (.iload_n 1, 1) (nT 0 (.aload_n 0, 1) nE nE) nE) (nT 3 (.iconst 3, 1) nE nE)) (nT 35 (.iconst (-1), 1) (nT 7 (.ifCond .eq 28, 3) nE nE) (nT 36 (.ireturn, 1) nE nE)))
def i_X11_ripe : Nat → Option (Instr × Nat) := (nT 15 (.iload_n 1, 1) (nT 6 (.if_icmp .eq 5, 3) (nT 4 (.iload_n 3, 1) (nT 1 (.ifCond .eq 10, 3) (nT 0 (.iload_n 3, 1) nE nE) nE) (nT 5 (.iconst 1, 1) nE nE)) (nT 11 (.aload_n 0, 1) (nT 10 (.ireturn, 1) (nT 9 (.iconst (-1), 1) nE nE) nE) (nT 12 (.getfield 71, 3) nE nE))) (nT 24 (.iconst (-1), 1) (nT 20 (.istore 4, 2) (nT 17 (.invokevirtual 285, 3) (nT 16 (.iload_n 2, 1) nE nE) nE) (nT 22 (.iload 4, 2) nE nE)) (nT 34 (.goto 14, 3) (nT 32 (.iload 4, 2) (nT 25 (.if_icmp .eq 7, 3) nE nE) nE) (nT 48 (.ireturn, 1) nE nE))))
def i_X12_ripe : Nat → Option (Instr × Nat) := (nT 5 (.ifCond .eq 33, 3) (nT 1 (.iload_n 1, 1) (nT 0 (.aload_n 0, 1) nE nE) (nT 2 (.invokevirtual 398, 3) nE nE)) (nT 39 (.ireturn, 1) (nT 38 (.iconst (-1), 1) nE nE) nE))
def i_X11_queue : Nat → Option (Instr × Nat) := (nT 4 (.iload_n 1, 1) (nT 1 (.getfield 87, 3) (nT 0 (.aload_n 0, 1) nE nE) nE) (nT 8 (.ireturn, 1) (nT 5 (.invokevirtual 292, 3) nE nE) nE))
def i_X12_queue : Nat → Option (Instr × Nat) := (nT 6 (.iload_n 1, 1) (nT 2 (.putfield 374, 3) (nT 1 (.iconst 0, 1) (nT 0 (.aload_n 0, 1) nE nE) nE) (nT 5 (.aload_n 0, 1) nE nE)) (nT 13 (.iconst (-1), 1) (nT 10 (.ifCond .ne 5, 3) (nT 7 (.invokevirtual 398, 3) nE nE) nE) (nT 14 (.ireturn, 1) nE nE)))
def i_X11_spoil : Nat → Option (Instr × Nat) := (nT 4 (.iload_n 1, 1) (nT 1 (.getfield 71, 3) (nT 0 (.aload_n 0, 1) nE nE) nE) (nT 8 (.ireturn, 1) (nT 5 (.invokevirtual 295, 3) nE nE) nE))
def i_X12_spoil : Nat → Option (Instr × Nat) := (nT 5 (.ifCond .ne 5, 3) (nT 1 (.iload_n 1, 1) (nT 0 (.aload_n 0, 1) nE nE) (nT 2 (.invokevirtual 398, 3) nE nE)) (nT 9 (.ireturn, 1) (nT 8 (.iconst (-1), 1) nE nE) nE))
def i_X11_sabotage : Nat → Option (Instr × Nat) := (nT 4 (.iload_n 1, 1) (nT 1 (.getfield 87, 3) (nT 0 (.aload_n 0, 1) nE nE) nE) (nT 8 (.ireturn, 1) (nT 5 (.invokevirtual 298, 3) nE nE) nE))
def i_X12_sabotage : Nat → Option (Instr × Nat) := (nT 57 (.invokevirtual 519, 3) (nT 23 (.iload 4, 2) (nT 14 (.iconst (-1), 1) (nT 6 (.iconst 1, 1) (nT 2 (.putfield 374, 3) (nT 1 (.iconst 0, 1) (nT 0 (.aload_n 0, 1) nE nE) nE) (nT 5 (.iload_n 1, 1) nE nE)) (nT 8 (.invokestatic 350, 3) (nT 7 (.iconst 3, 1) nE nE) (nT 11 (.ifCond .ne 5, 3) nE nE))) (nT 18 (.iconst 0, 1) (nT 16 (.iconst (-1), 1) (nT 15 (.ireturn, 1) nE nE) (nT 17 (.istore_n 2, 1) nE nE)) (nT 20 (.iconst 0, 1) (nT 19 (.istore_n 3, 1) nE nE) (nT 21 (.istore 4, 2) nE nE)))) (nT 41 (.iload_n 1, 1) (nT 34 (.aload_n 0, 1) (nT 28 (.invokestatic 476, 3) (nT 27 (.iload_n 1, 1) (nT 25 (.bipush 6, 2) nE nE) nE) (nT 31 (.if_icmp .ge 111, 3) nE nE)) (nT 38 (.aload_n 0, 1) (nT 35 (.invokevirtual 464, 3) nE nE) (nT 39 (.iload 4, 2) nE nE))) (nT 49 (.ifCond .ge 7, 3) (nT 45 (.istore 5, 2) (nT 42 (.invokevirtual 516, 3) nE nE) (nT 47 (.iload 5, 2) nE nE)) (nT 53 (.goto 7, 3) (nT 52 (.iconst (-1), 1) nE nE) (nT 56 (.aload_n 0, 1) nE nE))))) (nT 111 (.aload_n 0, 1) (nT 98 (.istore_n 2, 1) (nT 68 (.ifCond .lt 68, 3) (nT 63 (.invokevirtual 467, 3) (nT 62 (.aload_n 0, 1) (nT 60 (.istore 6, 2) nE nE) nE) (nT 66 (.iload 6, 2) nE nE)) (nT 72 (.ifCond .lt 24, 3) (nT 71 (.iload_n 2, 1) nE nE) (nT 96 (.iload 6, 2) nE nE))) (nT 103 (.istore 7, 2) (nT 101 (.istore_n 3, 1) (nT 99 (.iload 5, 2) nE nE) (nT 102 (.iconst 0, 1) nE nE)) (nT 107 (.iload_n 1, 1) (nT 105 (.iload 7, 2) nE nE) (nT 108 (.if_icmp .ge 23, 3) nE nE)))) (nT 128 (.goto (-23), 3) (nT 121 (.iload 7, 2) (nT 117 (.aload_n 0, 1) (nT 115 (.iload 7, 2) (nT 112 (.getfield 101, 3) nE nE) nE) (nT 118 (.getfield 104, 3) nE nE)) (nT 124 (.iastore, 1) (nT 123 (.iaload, 1) nE nE) (nT 125 (.iinc 7 1, 3) nE nE))) (nT 136 (.iinc 4 1, 3) (nT 132 (.iload_n 1, 1) (nT 131 (.aload_n 0, 1) nE nE) (nT 133 (.putfield 374, 3) nE nE)) (nT 142 (.iload_n 2, 1) (nT 139 (.goto (-116), 3) nE nE) (nT 143 (.ireturn, 1) nE nE))))))
def i_X11_wasted : Nat → Option (Instr × Nat) := (nT 4 (.invokevirtual 301, 3) (nT 1 (.getfield 71, 3) (nT 0 (.aload_n 0, 1) nE nE) nE) (nT 7 (.ireturn, 1) nE nE))
def i_X12_wasted : Nat → Option (Instr × Nat) := (nT 6 (.getfield 24, 3) (nT 3 (.istore_n 2, 1) (nT 1 (.istore_n 1, 1) (nT 0 (.iconst 0, 1) nE nE) (nT 2 (.iconst 0, 1) nE nE)) (nT 5 (.aload_n 0, 1) (nT 4 (.iload_n 2, 1) nE nE) nE)) (nT 14 (.if_icmp .ge 36, 3) (nT 10 (.getfield 251, 3) (nT 9 (.aload_n 0, 1) nE nE) (nT 13 (.iaload, 1) nE nE)) (nT 51 (.ireturn, 1) (nT 50 (.iload_n 1, 1) nE nE) nE)))
def i_X11_richest : Nat → Option (Instr × Nat) := (nT 4 (.invokevirtual 304, 3) (nT 1 (.getfield 71, 3) (nT 0 (.aload_n 0, 1) nE nE) nE) (nT 7 (.ireturn, 1) nE nE))
def i_X12_richest : Nat → Option (Instr × Nat) := (nT 6 (.getfield 24, 3) (nT 3 (.istore_n 2, 1) (nT 1 (.istore_n 1, 1) (nT 0 (.iconst (-1), 1) nE nE) (nT 2 (.iconst 0, 1) nE nE)) (nT 5 (.aload_n 0, 1) (nT 4 (.iload_n 2, 1) nE nE) nE)) (nT 14 (.if_icmp .ge 42, 3) (nT 10 (.getfield 251, 3) (nT 9 (.aload_n 0, 1) nE nE) (nT 13 (.iaload, 1) nE nE)) (nT 57 (.ireturn, 1) (nT 56 (.iload_n 1, 1) nE nE) nE)))
def i_X11_matches : Nat → Option (Instr × Nat) := (nT 4 (.invokevirtual 307, 3) (nT 1 (.getfield 71, 3) (nT 0 (.aload_n 0, 1) nE nE) nE) (nT 7 (.ireturn, 1) nE nE))
def i_X12_matches : Nat → Option (Instr × Nat) := (nT 6 (.getfield 24, 3) (nT 3 (.istore_n 2, 1) (nT 1 (.istore_n 1, 1) (nT 0 (.iconst 0, 1) nE nE) (nT 2 (.iconst 0, 1) nE nE)) (nT 5 (.aload_n 0, 1) (nT 4 (.iload_n 2, 1) nE nE) nE)) (nT 14 (.if_icmp .ge 72, 3) (nT 10 (.getfield 251, 3) (nT 9 (.aload_n 0, 1) nE nE) (nT 13 (.iaload, 1) nE nE)) (nT 87 (.ireturn, 1) (nT 86 (.iload_n 1, 1) nE nE) nE)))
def i_X11_brittle : Nat → Option (Instr × Nat) := (nT 4 (.invokevirtual 310, 3) (nT 1 (.getfield 71, 3) (nT 0 (.aload_n 0, 1) nE nE) nE) (nT 7 (.ireturn, 1) nE nE))
def i_X12_brittle : Nat → Option (Instr × Nat) := (nT 6 (.getfield 24, 3) (nT 3 (.istore_n 2, 1) (nT 1 (.istore_n 1, 1) (nT 0 (.iconst 0, 1) nE nE) (nT 2 (.iconst 0, 1) nE nE)) (nT 5 (.aload_n 0, 1) (nT 4 (.iload_n 2, 1) nE nE) nE)) (nT 14 (.if_icmp .ge 37, 3) (nT 10 (.getfield 251, 3) (nT 9 (.aload_n 0, 1) nE nE) (nT 13 (.iaload, 1) nE nE)) (nT 52 (.ireturn, 1) (nT 51 (.iload_n 1, 1) nE nE) nE)))
def i_X11_longest : Nat → Option (Instr × Nat) := (nT 4 (.iload_n 1, 1) (nT 1 (.getfield 71, 3) (nT 0 (.aload_n 0, 1) nE nE) nE) (nT 8 (.ireturn, 1) (nT 5 (.invokevirtual 313, 3) nE nE) nE))
def i_X12_longest : Nat → Option (Instr × Nat) := (nT 14 (.iconst (-1), 1) (nT 7 (.ifCond .ne 5, 3) (nT 2 (.bipush 60, 2) (nT 1 (.iconst 0, 1) (nT 0 (.iload_n 1, 1) nE nE) nE) (nT 4 (.invokestatic 350, 3) nE nE)) (nT 12 (.iconst (-1), 1) (nT 11 (.ireturn, 1) (nT 10 (.iconst (-1), 1) nE nE) nE) (nT 13 (.istore_n 2, 1) nE nE))) (nT 21 (.aload_n 0, 1) (nT 17 (.istore 4, 2) (nT 16 (.iconst 0, 1) (nT 15 (.istore_n 3, 1) nE nE) nE) (nT 19 (.iload 4, 2) nE nE)) (nT 77 (.iload_n 2, 1) (nT 25 (.if_icmp .ge 52, 3) (nT 22 (.invokevirtual 347, 3) nE nE) nE) (nT 78 (.ireturn, 1) nE nE))))
def i_X11_lies : Nat → Option (Instr × Nat) := (nT 4 (.iload_n 1, 1) (nT 1 (.getfield 87, 3) (nT 0 (.aload_n 0, 1) nE nE) nE) (nT 8 (.ireturn, 1) (nT 5 (.invokevirtual 316, 3) nE nE) nE))
def i_X12_lies : Nat → Option (Instr × Nat) := (nT 7 (.isub, 1) (nT 2 (.aload_n 0, 1) (nT 1 (.iconst 0, 1) (nT 0 (.iload_n 1, 1) nE nE) nE) (nT 6 (.iconst 1, 1) (nT 3 (.getfield 374, 3) nE nE) nE)) (nT 23 (.bipush (-2), 2) (nT 11 (.ifCond .eq 12, 3) (nT 8 (.invokestatic 350, 3) nE nE) nE) (nT 25 (.ireturn, 1) nE nE)))
def i_X11_sniffed : Nat → Option (Instr × Nat) := (nT 6 (.iload_n 3, 1) (nT 4 (.iload_n 1, 1) (nT 1 (.getfield 96, 3) (nT 0 (.aload_n 0, 1) nE nE) nE) (nT 5 (.iload_n 2, 1) nE nE)) (nT 11 (.invokevirtual 322, 3) (nT 8 (.getfield 319, 3) (nT 7 (.aload_n 0, 1) nE nE) nE) (nT 14 (.ireturn, 1) nE nE)))
def i_X12_sniffed : Nat → Option (Instr × Nat) := (nT 57 (.getfield 371, 3) (nT 31 (.ireturn, 1) (nT 12 (.sipush 999, 3) (nT 4 (.invokestatic 350, 3) (nT 1 (.iconst 0, 1) (nT 0 (.iload_n 1, 1) nE nE) (nT 2 (.bipush 20, 2) nE nE)) (nT 10 (.iload_n 2, 1) (nT 7 (.ifCond .eq 23, 3) nE nE) (nT 11 (.iconst 0, 1) nE nE))) (nT 22 (.getfield 371, 3) (nT 18 (.ifCond .eq 12, 3) (nT 15 (.invokestatic 350, 3) nE nE) (nT 21 (.aload_n 0, 1) nE nE)) (nT 27 (.if_icmp .ne 5, 3) (nT 25 (.bipush 30, 2) nE nE) (nT 30 (.iconst (-1), 1) nE nE)))) (nT 43 (.getfield 110, 3) (nT 37 (.getfield 371, 3) (nT 33 (.getfield 107, 3) (nT 32 (.aload_n 0, 1) nE nE) (nT 36 (.aload_n 0, 1) nE nE)) (nT 41 (.iastore, 1) (nT 40 (.iload_n 1, 1) nE nE) (nT 42 (.aload_n 0, 1) nE nE))) (nT 51 (.iastore, 1) (nT 47 (.getfield 371, 3) (nT 46 (.aload_n 0, 1) nE nE) (nT 50 (.iload_n 2, 1) nE nE)) (nT 53 (.getfield 113, 3) (nT 52 (.aload_n 0, 1) nE nE) (nT 56 (.aload_n 0, 1) nE nE))))) (nT 87 (.aload_n 0, 1) (nT 71 (.getfield 116, 3) (nT 65 (.goto 4, 3) (nT 61 (.ifCond .eq 7, 3) (nT 60 (.iload_n 3, 1) nE nE) (nT 64 (.iconst 1, 1) nE nE)) (nT 69 (.iastore, 1) (nT 68 (.iconst 0, 1) nE nE) (nT 70 (.aload_n 0, 1) nE nE))) (nT 79 (.getfield 522, 3) (nT 75 (.getfield 371, 3) (nT 74 (.aload_n 0, 1) nE nE) (nT 78 (.aload_n 0, 1) nE nE)) (nT 83 (.aload_n 0, 1) (nT 82 (.iastore, 1) nE nE) (nT 84 (.getfield 119, 3) nE nE)))) (nT 99 (.iadd, 1) (nT 93 (.aload_n 0, 1) (nT 91 (.iconst (-1), 1) (nT 88 (.getfield 371, 3) nE nE) (nT 92 (.iastore, 1) nE nE)) (nT 95 (.getfield 371, 3) (nT 94 (.dup, 1) nE nE) (nT 98 (.iconst 1, 1) nE nE))) (nT 107 (.iconst 1, 1) (nT 103 (.aload_n 0, 1) (nT 100 (.putfield 371, 3) nE nE) (nT 104 (.getfield 371, 3) nE nE)) (nT 109 (.ireturn, 1) (nT 108 (.isub, 1) nE nE) nE)))))
def i_X11_untell : Nat → Option (Instr × Nat) := (nT 5 (.aload_n 0, 1) (nT 1 (.getfield 96, 3) (nT 0 (.aload_n 0, 1) nE nE) (nT 4 (.iload_n 1, 1) nE nE)) (nT 9 (.invokevirtual 326, 3) (nT 6 (.getfield 319, 3) nE nE) (nT 12 (.ireturn, 1) nE nE)))
def i_X12_untell : Nat → Option (Instr × Nat) := (nT 7 (.isub, 1) (nT 2 (.aload_n 0, 1) (nT 1 (.iconst 0, 1) (nT 0 (.iload_n 1, 1) nE nE) nE) (nT 6 (.iconst 1, 1) (nT 3 (.getfield 371, 3) nE nE) nE)) (nT 23 (.iconst 0, 1) (nT 11 (.ifCond .eq 12, 3) (nT 8 (.invokestatic 350, 3) nE nE) nE) (nT 24 (.ireturn, 1) nE nE)))
def i_X11_later : Nat → Option (Instr × Nat) := (nT 23 (.iconst (-1), 1) (nT 11 (.aload_n 0, 1) (nT 4 (.iload_n 1, 1) (nT 1 (.ifCond .lt 22, 3) (nT 0 (.iload_n 1, 1) nE nE) nE) (nT 8 (.if_icmp .gt 15, 3) (nT 5 (.sipush 1000, 3) nE nE) nE)) (nT 16 (.iadd, 1) (nT 15 (.iload_n 1, 1) (nT 12 (.getfield 319, 3) nE nE) nE) (nT 20 (.if_icmp .le 5, 3) (nT 17 (.ldc_w 329, 3) nE nE) nE))) (nT 31 (.iadd, 1) (nT 26 (.dup, 1) (nT 25 (.aload_n 0, 1) (nT 24 (.ireturn, 1) nE nE) nE) (nT 30 (.iload_n 1, 1) (nT 27 (.getfield 319, 3) nE nE) nE)) (nT 36 (.getfield 319, 3) (nT 35 (.aload_n 0, 1) (nT 32 (.putfield 319, 3) nE nE) nE) (nT 39 (.ireturn, 1) nE nE))))
def i_X12_later : Nat → Option (Instr × Nat) := (nT 23 (.iconst (-1), 1) (nT 11 (.aload_n 0, 1) (nT 2 (.sipush 1000, 3) (nT 1 (.iconst 0, 1) (nT 0 (.iload_n 1, 1) nE nE) nE) (nT 8 (.ifCond .eq 15, 3) (nT 5 (.invokestatic 350, 3) nE nE) nE)) (nT 16 (.iadd, 1) (nT 15 (.iload_n 1, 1) (nT 12 (.getfield 522, 3) nE nE) nE) (nT 20 (.if_icmp .le 5, 3) (nT 17 (.ldc_w 525, 3) nE nE) nE))) (nT 31 (.iadd, 1) (nT 26 (.dup, 1) (nT 25 (.aload_n 0, 1) (nT 24 (.ireturn, 1) nE nE) nE) (nT 30 (.iload_n 1, 1) (nT 27 (.getfield 522, 3) nE nE) nE)) (nT 36 (.getfield 522, 3) (nT 35 (.aload_n 0, 1) (nT 32 (.putfield 522, 3) nE nE) nE) (nT 39 (.ireturn, 1) nE nE))))
def i_X11_fits : Nat → Option (Instr × Nat) := (nT 5 (.invokevirtual 330, 3) (nT 1 (.getfield 96, 3) (nT 0 (.aload_n 0, 1) nE nE) (nT 4 (.iload_n 1, 1) nE nE)) (nT 11 (.ireturn, 1) (nT 8 (.invokestatic 334, 3) nE nE) nE))
def i_X12_fits : Nat → Option (Instr × Nat) := (nT 5 (.aload_n 0, 1) (nT 1 (.iload_n 1, 1) (nT 0 (.aload_n 0, 1) nE nE) (nT 2 (.invokevirtual 532, 3) nE nE)) (nT 9 (.ireturn, 1) (nT 6 (.getfield 526, 3) nE nE) nE))
def i_X11_sure : Nat → Option (Instr × Nat) := (nT 5 (.iload_n 2, 1) (nT 1 (.getfield 96, 3) (nT 0 (.aload_n 0, 1) nE nE) (nT 4 (.iload_n 1, 1) nE nE)) (nT 9 (.ireturn, 1) (nT 6 (.invokevirtual 339, 3) nE nE) nE))
def i_X12_sure : Nat → Option (Instr × Nat) := (nT 5 (.ifCond .ne 5, 3) (nT 1 (.iload_n 1, 1) (nT 0 (.aload_n 0, 1) nE nE) (nT 2 (.invokevirtual 410, 3) nE nE)) (nT 9 (.ireturn, 1) (nT 8 (.iconst (-1), 1) nE nE) nE))
def i_X11_ask : Nat → Option (Instr × Nat) := (nT 5 (.iload_n 2, 1) (nT 1 (.getfield 96, 3) (nT 0 (.aload_n 0, 1) nE nE) (nT 4 (.iload_n 1, 1) nE nE)) (nT 9 (.ireturn, 1) (nT 6 (.invokevirtual 342, 3) nE nE) nE))
def i_X12_ask : Nat → Option (Instr × Nat) := (nT 18 (.iconst 0, 1) (nT 10 (.ireturn, 1) (nT 3 (.invokestatic 350, 3) (nT 1 (.iconst 0, 1) (nT 0 (.iload_n 1, 1) nE nE) (nT 2 (.iconst 1, 1) nE nE)) (nT 9 (.iconst (-1), 1) (nT 6 (.ifCond .ne 5, 3) nE nE) nE)) (nT 13 (.invokevirtual 532, 3) (nT 12 (.iload_n 2, 1) (nT 11 (.aload_n 0, 1) nE nE) nE) (nT 17 (.istore_n 3, 1) (nT 16 (.iconst (-1), 1) nE nE) nE))) (nT 30 (.if_icmp .ge 83, 3) (nT 24 (.iload 5, 2) (nT 21 (.iconst 0, 1) (nT 19 (.istore 4, 2) nE nE) (nT 22 (.istore 5, 2) nE nE)) (nT 27 (.invokevirtual 347, 3) (nT 26 (.aload_n 0, 1) nE nE) nE)) (nT 117 (.iconst (-1), 1) (nT 114 (.ifCond .ge 7, 3) (nT 113 (.iload_n 3, 1) nE nE) nE) (nT 131 (.ireturn, 1) (nT 118 (.goto 13, 3) nE nE) nE))))
def i_X11_image : Nat → Option (Instr × Nat) := (nT 17 (.getfield 38, 3) (nT 9 (.ireturn, 1) (nT 2 (.invokevirtual 345, 3) (nT 1 (.iload_n 1, 1) (nT 0 (.aload_n 0, 1) nE nE) nE) (nT 8 (.iconst (-1), 1) (nT 5 (.ifCond .ne 5, 3) nE nE) nE)) (nT 14 (.iload_n 1, 1) (nT 11 (.getfield 42, 3) (nT 10 (.aload_n 0, 1) nE nE) nE) (nT 16 (.aload_n 0, 1) (nT 15 (.aaload, 1) nE nE) nE))) (nT 29 (.bastore, 1) (nT 24 (.getfield 46, 3) (nT 23 (.aload_n 0, 1) (nT 20 (.invokevirtual 348, 3) nE nE) nE) (nT 28 (.iconst 1, 1) (nT 27 (.iload_n 1, 1) nE nE) nE)) (nT 34 (.getfield 221, 3) (nT 31 (.getfield 38, 3) (nT 30 (.aload_n 0, 1) nE nE) nE) (nT 37 (.ireturn, 1) nE nE))))
def i_X12_image : Nat → Option (Instr × Nat) := (nT 28 (.iadd, 1) (nT 13 (.iload_n 2, 1) (nT 6 (.ifCond .ne 5, 3) (nT 2 (.iconst 2, 1) (nT 1 (.iconst 0, 1) (nT 0 (.iload_n 1, 1) nE nE) nE) (nT 3 (.invokestatic 350, 3) nE nE)) (nT 11 (.iconst 0, 1) (nT 10 (.ireturn, 1) (nT 9 (.iconst (-1), 1) nE nE) nE) (nT 12 (.istore_n 2, 1) nE nE))) (nT 23 (.bipush 33, 2) (nT 19 (.aload_n 0, 1) (nT 16 (.if_icmp .ge 26, 3) (nT 14 (.bipush 33, 2) nE nE) nE) (nT 20 (.getfield 125, 3) nE nE)) (nT 26 (.imul, 1) (nT 25 (.iload_n 1, 1) nE nE) (nT 27 (.iload_n 2, 1) nE nE)))) (nT 43 (.getfield 128, 3) (nT 35 (.iastore, 1) (nT 33 (.iload_n 2, 1) (nT 30 (.getfield 89, 3) (nT 29 (.aload_n 0, 1) nE nE) nE) (nT 34 (.iaload, 1) nE nE)) (nT 39 (.goto (-26), 3) (nT 36 (.iinc 2 1, 3) nE nE) (nT 42 (.aload_n 0, 1) nE nE))) (nT 50 (.getfield 89, 3) (nT 48 (.bastore, 1) (nT 47 (.iconst 1, 1) (nT 46 (.iload_n 1, 1) nE nE) nE) (nT 49 (.aload_n 0, 1) nE nE)) (nT 55 (.iaload, 1) (nT 53 (.bipush 31, 2) nE nE) (nT 56 (.ireturn, 1) nE nE)))))
def i_X11_back : Nat → Option (Instr × Nat) := (nT 9 (.getfield 46, 3) (nT 2 (.invokevirtual 345, 3) (nT 1 (.iload_n 1, 1) (nT 0 (.aload_n 0, 1) nE nE) nE) (nT 8 (.aload_n 0, 1) (nT 5 (.ifCond .eq 12, 3) nE nE) nE)) (nT 14 (.ifCond .ne 5, 3) (nT 13 (.baload, 1) (nT 12 (.iload_n 1, 1) nE nE) nE) (nT 18 (.ireturn, 1) (nT 17 (.iconst (-1), 1) nE nE) nE)))
def i_X12_back : Nat → Option (Instr × Nat) := (nT 10 (.getfield 128, 3) (nT 3 (.invokestatic 350, 3) (nT 1 (.iconst 0, 1) (nT 0 (.iload_n 1, 1) nE nE) (nT 2 (.iconst 2, 1) nE nE)) (nT 9 (.aload_n 0, 1) (nT 6 (.ifCond .eq 12, 3) nE nE) nE)) (nT 15 (.ifCond .ne 5, 3) (nT 14 (.baload, 1) (nT 13 (.iload_n 1, 1) nE nE) nE) (nT 19 (.ireturn, 1) (nT 18 (.iconst (-1), 1) nE nE) nE)))
def i_X11_about : Nat → Option (Instr × Nat) := (nT 129 (.ireturn, 1) (nT 97 (.getfield 38, 3) (nT 81 (.getfield 19, 3) (nT 73 (.getfield 19, 3) (nT 1 (.tableswitch 185 0 13 #[71, 79, 87, 95, 103, 111, 120, 129, 137, 145, 153, 158, 166, 177], 71) (nT 0 (.iload_n 1, 1) nE nE) (nT 72 (.aload_n 0, 1) nE nE)) (nT 79 (.ireturn, 1) (nT 76 (.getfield 132, 3) nE nE) (nT 80 (.aload_n 0, 1) nE nE))) (nT 89 (.getfield 38, 3) (nT 87 (.ireturn, 1) (nT 84 (.getfield 224, 3) nE nE) (nT 88 (.aload_n 0, 1) nE nE)) (nT 95 (.ireturn, 1) (nT 92 (.getfield 221, 3) nE nE) (nT 96 (.aload_n 0, 1) nE nE)))) (nT 113 (.getfield 71, 3) (nT 105 (.getfield 19, 3) (nT 103 (.ireturn, 1) (nT 100 (.getfield 183, 3) nE nE) (nT 104 (.aload_n 0, 1) nE nE)) (nT 111 (.ireturn, 1) (nT 108 (.getfield 186, 3) nE nE) (nT 112 (.aload_n 0, 1) nE nE))) (nT 121 (.aload_n 0, 1) (nT 117 (.invokevirtual 350, 3) (nT 116 (.iconst 1, 1) nE nE) (nT 120 (.ireturn, 1) nE nE)) (nT 125 (.iconst 2, 1) (nT 122 (.getfield 71, 3) nE nE) (nT 126 (.invokevirtual 350, 3) nE nE))))) (nT 159 (.aload_n 0, 1) (nT 145 (.ireturn, 1) (nT 137 (.ireturn, 1) (nT 131 (.getfield 53, 3) (nT 130 (.aload_n 0, 1) nE nE) (nT 134 (.invokevirtual 353, 3) nE nE)) (nT 139 (.getfield 53, 3) (nT 138 (.aload_n 0, 1) nE nE) (nT 142 (.invokevirtual 356, 3) nE nE))) (nT 153 (.ireturn, 1) (nT 147 (.getfield 96, 3) (nT 146 (.aload_n 0, 1) nE nE) (nT 150 (.getfield 359, 3) nE nE)) (nT 155 (.getfield 319, 3) (nT 154 (.aload_n 0, 1) nE nE) (nT 158 (.ireturn, 1) nE nE)))) (nT 177 (.ireturn, 1) (nT 167 (.aload_n 0, 1) (nT 163 (.getfield 108, 3) (nT 160 (.getfield 10, 3) nE nE) (nT 166 (.ireturn, 1) nE nE)) (nT 171 (.getfield 362, 3) (nT 168 (.getfield 19, 3) nE nE) (nT 174 (.getfield 366, 3) nE nE))) (nT 185 (.ireturn, 1) (nT 179 (.getfield 87, 3) (nT 178 (.aload_n 0, 1) nE nE) (nT 182 (.getfield 371, 3) nE nE)) (nT 187 (.ireturn, 1) (nT 186 (.iconst (-1), 1) nE nE) nE)))))
def i_X12_about : Nat → Option (Instr × Nat) := (nT 118 (.ireturn, 1) (nT 94 (.ireturn, 1) (nT 81 (.aload_n 0, 1) (nT 73 (.invokevirtual 347, 3) (nT 1 (.tableswitch 164 0 13 #[71, 76, 86, 94, 102, 112, 118, 124, 129, 134, 139, 144, 149, 159], 71) (nT 0 (.iload_n 1, 1) nE nE) (nT 72 (.aload_n 0, 1) nE nE)) (nT 77 (.aload_n 0, 1) (nT 76 (.ireturn, 1) nE nE) (nT 78 (.getfield 24, 3) nE nE))) (nT 87 (.aload_n 0, 1) (nT 85 (.iaload, 1) (nT 82 (.getfield 251, 3) nE nE) (nT 86 (.ireturn, 1) nE nE)) (nT 91 (.bipush 31, 2) (nT 88 (.getfield 89, 3) nE nE) (nT 93 (.iaload, 1) nE nE)))) (nT 107 (.aload_n 0, 1) (nT 101 (.iaload, 1) (nT 96 (.getfield 89, 3) (nT 95 (.aload_n 0, 1) nE nE) (nT 99 (.bipush 32, 2) nE nE)) (nT 103 (.aload_n 0, 1) (nT 102 (.ireturn, 1) nE nE) (nT 104 (.getfield 30, 3) nE nE))) (nT 113 (.aload_n 0, 1) (nT 111 (.iaload, 1) (nT 108 (.getfield 251, 3) nE nE) (nT 112 (.ireturn, 1) nE nE)) (nT 115 (.invokevirtual 535, 3) (nT 114 (.iconst 1, 1) nE nE) nE)))) (nT 144 (.ireturn, 1) (nT 130 (.aload_n 0, 1) (nT 124 (.ireturn, 1) (nT 120 (.iconst 2, 1) (nT 119 (.aload_n 0, 1) nE nE) (nT 121 (.invokevirtual 535, 3) nE nE)) (nT 126 (.getfield 365, 3) (nT 125 (.aload_n 0, 1) nE nE) (nT 129 (.ireturn, 1) nE nE))) (nT 136 (.getfield 371, 3) (nT 134 (.ireturn, 1) (nT 131 (.getfield 368, 3) nE nE) (nT 135 (.aload_n 0, 1) nE nE)) (nT 140 (.aload_n 0, 1) (nT 139 (.ireturn, 1) nE nE) (nT 141 (.getfield 522, 3) nE nE)))) (nT 158 (.iaload, 1) (nT 150 (.aload_n 0, 1) (nT 146 (.getfield 248, 3) (nT 145 (.aload_n 0, 1) nE nE) (nT 149 (.ireturn, 1) nE nE)) (nT 154 (.aload_n 0, 1) (nT 151 (.getfield 27, 3) nE nE) (nT 155 (.getfield 251, 3) nE nE))) (nT 164 (.ireturn, 1) (nT 160 (.aload_n 0, 1) (nT 159 (.ireturn, 1) nE nE) (nT 161 (.getfield 374, 3) nE nE)) (nT 166 (.ireturn, 1) (nT 165 (.iconst (-1), 1) nE nE) nE)))))
def i_X0_slot : Nat → Option (Instr × Nat) := (nT 9 (.iadd, 1) (nT 4 (.aload_n 0, 1) (nT 1 (.getfield 11, 3) (nT 0 (.aload_n 0, 1) nE nE) nE) (nT 8 (.iload_n 1, 1) (nT 5 (.getfield 16, 3) nE nE) nE)) (nT 15 (.aaload, 1) (nT 12 (.invokestatic 34, 3) (nT 10 (.bipush 41, 2) nE nE) nE) (nT 16 (.areturn, 1) nE nE)))
def i_X6_copyFrom : Nat → Option (Instr × Nat) := (nT 17 (.getfield 39, 3) (nT 9 (.iconst 0, 1) (nT 4 (.iconst 0, 1) (nT 1 (.getfield 11, 3) (nT 0 (.aload_n 1, 1) nE nE) nE) (nT 6 (.getfield 11, 3) (nT 5 (.aload_n 0, 1) nE nE) nE)) (nT 15 (.aload_n 0, 1) (nT 12 (.invokestatic 52, 3) (nT 10 (.bipush 30, 2) nE nE) nE) (nT 16 (.aload_n 1, 1) nE nE))) (nT 31 (.aload_n 0, 1) (nT 24 (.aload_n 1, 1) (nT 23 (.aload_n 0, 1) (nT 20 (.putfield 39, 3) nE nE) nE) (nT 28 (.putfield 43, 3) (nT 25 (.getfield 43, 3) nE nE) nE)) (nT 36 (.putfield 49, 3) (nT 33 (.getfield 49, 3) (nT 32 (.aload_n 1, 1) nE nE) nE) (nT 39 (.return_, 1) nE nE))))
def i_X6_init : Nat → Option (Instr × Nat) := (nT 5 (.bipush 30, 2) (nT 1 (.invokespecial 5, 3) (nT 0 (.aload_n 0, 1) nE nE) (nT 4 (.aload_n 0, 1) nE nE)) (nT 9 (.putfield 11, 3) (nT 7 (.newarray .int, 2) nE nE) (nT 12 (.return_, 1) nE nE)))
def i_J9_floorMod_7cf53 : Nat → Option (Instr × Nat) := (nT 5 (.iload_n 1, 1) (nT 2 (.irem, 1) (nT 1 (.iload_n 1, 1) (nT 0 (.iload_n 0, 1) nE nE) nE) (nT 4 (.iload_n 0, 1) (nT 3 (.istore_n 2, 1) nE nE) nE)) (nT 18 (.iload_n 2, 1) (nT 7 (.ifCond .ge 11, 3) (nT 6 (.ixor, 1) nE nE) nE) (nT 19 (.ireturn, 1) nE nE)))
def i_X5_breathsOf : Nat → Option (Instr × Nat) := (nT 4 (.iload_n 1, 1) (nT 1 (.getfield 9, 3) (nT 0 (.aload_n 0, 1) nE nE) nE) (nT 8 (.ireturn, 1) (nT 5 (.invokestatic 60, 3) nE nE) nE))
def i_J9_min_7cf53 : Nat → Option (Instr × Nat) := (nT 2 (.if_icmp .gt 7, 3) (nT 1 (.iload_n 1, 1) (nT 0 (.iload_n 0, 1) nE nE) nE) (nT 10 (.ireturn, 1) (nT 9 (.iload_n 1, 1) nE nE) nE))
def i_X10_fading : Nat → Option (Instr × Nat) := (nT 4 (.ifCond .eq 10, 3) (nT 1 (.getfield 25, 3) (nT 0 (.aload_n 0, 1) nE nE) nE) (nT 15 (.ireturn, 1) (nT 14 (.iconst 0, 1) nE nE) nE))
def i_X1_billsOfFate : Nat → Option (Instr × Nat) := (nT 5 (.aload_n 0, 1) (nT 2 (.iconst 0, 1) (nT 1 (.istore_n 2, 1) (nT 0 (.iconst 0, 1) nE nE) nE) (nT 4 (.iload_n 3, 1) (nT 3 (.istore_n 3, 1) nE nE) nE)) (nT 12 (.if_icmp .ge 32, 3) (nT 9 (.getfield 55, 3) (nT 6 (.getfield 9, 3) nE nE) nE) (nT 45 (.ireturn, 1) (nT 44 (.iload_n 2, 1) nE nE) nE)))
def i_X0_undoable : Nat → Option (Instr × Nat) := (nT 1 (.getfield 20, 3) (nT 0 (.aload_n 0, 1) nE nE) (nT 4 (.ireturn, 1) nE nE))
def i_X0_redoable : Nat → Option (Instr × Nat) := (nT 5 (.getfield 20, 3) (nT 1 (.getfield 23, 3) (nT 0 (.aload_n 0, 1) nE nE) (nT 4 (.aload_n 0, 1) nE nE)) (nT 9 (.ireturn, 1) (nT 8 (.isub, 1) nE nE) nE))
def i_X7_nextToAsk : Nat → Option (Instr × Nat) := (nT 17 (.aload_n 0, 1) (nT 7 (.istore 5, 2) (nT 2 (.invokevirtual 77, 3) (nT 1 (.iload_n 2, 1) (nT 0 (.aload_n 0, 1) nE nE) nE) (nT 6 (.iconst (-1), 1) (nT 5 (.lstore_n 3, 1) nE nE) nE)) (nT 12 (.iconst 0, 1) (nT 10 (.istore 6, 2) (nT 9 (.iconst (-1), 1) nE nE) nE) (nT 15 (.iload 7, 2) (nT 13 (.istore 7, 2) nE nE) nE))) (nT 108 (.iload 5, 2) (nT 24 (.if_icmp .ge 58, 3) (nT 21 (.getfield 52, 3) (nT 18 (.getfield 33, 3) nE nE) nE) (nT 83 (.lookupswitch 31 #[(0, 25), (1, 28)], 25) (nT 82 (.iload_n 1, 1) nE nE) nE)) (nT 113 (.ireturn, 1) (nT 111 (.iload 6, 2) (nT 110 (.ireturn, 1) nE nE) nE) (nT 115 (.ireturn, 1) (nT 114 (.iconst (-1), 1) nE nE) nE))))
def i_X11_isBox : Nat → Option (Instr × Nat) := (nT 6 (.if_icmp .ge 7, 3) (nT 4 (.iload_n 1, 1) (nT 1 (.ifCond .lt 12, 3) (nT 0 (.iload_n 1, 1) nE nE) nE) (nT 5 (.iconst 3, 1) nE nE)) (nT 13 (.iconst 0, 1) (nT 10 (.goto 4, 3) (nT 9 (.iconst 1, 1) nE nE) nE) (nT 14 (.ireturn, 1) nE nE)))
def i_X1_bestShelf : Nat → Option (Instr × Nat) := (nT 9 (.bipush 9, 2) (nT 3 (.istore_n 3, 1) (nT 1 (.istore_n 2, 1) (nT 0 (.iconst (-1), 1) nE nE) (nT 2 (.iconst (-1), 1) nE nE)) (nT 5 (.istore 4, 2) (nT 4 (.iconst 0, 1) nE nE) (nT 7 (.iload 4, 2) nE nE))) (nT 16 (.invokevirtual 46, 3) (nT 14 (.aload_n 0, 1) (nT 11 (.if_icmp .gt 72, 3) nE nE) (nT 15 (.iload_n 1, 1) nE nE)) (nT 83 (.iload_n 2, 1) (nT 19 (.ifCond .eq 64, 3) nE nE) (nT 84 (.ireturn, 1) nE nE))))
def i_X5_hasBill : Nat → Option (Instr × Nat) := (nT 6 (.getfield 41, 3) (nT 4 (.iload_n 1, 1) (nT 1 (.ifCond .lt 20, 3) (nT 0 (.iload_n 1, 1) nE nE) nE) (nT 5 (.aload_n 0, 1) nE nE)) (nT 21 (.iconst 0, 1) (nT 9 (.if_icmp .ge 12, 3) nE nE) (nT 22 (.ireturn, 1) nE nE)))
def i_X1_brittleBills : Nat → Option (Instr × Nat) := (nT 5 (.aload_n 0, 1) (nT 2 (.iconst 0, 1) (nT 1 (.istore_n 1, 1) (nT 0 (.iconst 0, 1) nE nE) nE) (nT 4 (.iload_n 2, 1) (nT 3 (.istore_n 2, 1) nE nE) nE)) (nT 12 (.if_icmp .ge 40, 3) (nT 9 (.getfield 55, 3) (nT 6 (.getfield 9, 3) nE nE) nE) (nT 53 (.ireturn, 1) (nT 52 (.iload_n 1, 1) nE nE) nE)))
def i_X0_keep : Nat → Option (Instr × Nat) := (nT 35 (.aload_n 0, 1) (nT 26 (.dup, 1) (nT 4 (.bipush 40, 2) (nT 1 (.getfield 20, 3) (nT 0 (.aload_n 0, 1) nE nE) nE) (nT 25 (.aload_n 0, 1) (nT 6 (.if_icmp .lt 19, 3) nE nE) nE)) (nT 31 (.iadd, 1) (nT 30 (.iconst 1, 1) (nT 27 (.getfield 20, 3) nE nE) nE) (nT 32 (.putfield 20, 3) nE nE))) (nT 45 (.getfield 20, 3) (nT 40 (.putfield 23, 3) (nT 37 (.getfield 20, 3) (nT 36 (.aload_n 0, 1) nE nE) nE) (nT 44 (.aload_n 0, 1) (nT 43 (.aload_n 0, 1) nE nE) nE)) (nT 52 (.invokevirtual 30, 3) (nT 51 (.aload_n 1, 1) (nT 48 (.invokevirtual 26, 3) nE nE) nE) (nT 55 (.return_, 1) nE nE))))
def i_X1_daysTillDull : Nat → Option (Instr × Nat) := (nT 5 (.ifCond .ne 5, 3) (nT 1 (.iload_n 1, 1) (nT 0 (.aload_n 0, 1) nE nE) (nT 2 (.invokevirtual 46, 3) nE nE)) (nT 9 (.ireturn, 1) (nT 8 (.iconst (-1), 1) nE nE) nE))
def i_X9_hasRoom : Nat → Option (Instr × Nat) := (nT 6 (.sipush 1600, 3) (nT 4 (.iload_n 1, 1) (nT 1 (.getfield 15, 3) (nT 0 (.aload_n 0, 1) nE nE) nE) (nT 5 (.iadd, 1) nE nE)) (nT 13 (.goto 4, 3) (nT 12 (.iconst 1, 1) (nT 9 (.if_icmp .gt 7, 3) nE nE) nE) (nT 17 (.ireturn, 1) nE nE)))
def i_X9_append : Nat → Option (Instr × Nat) := (nT 26 (.iload_n 2, 1) (nT 11 (.sipush 1600, 3) (nT 4 (.ifCond .lt 42, 3) (nT 2 (.istore_n 2, 1) (nT 0 (.bipush 24, 2) nE nE) (nT 3 (.iload_n 2, 1) nE nE)) (nT 8 (.getfield 15, 3) (nT 7 (.aload_n 0, 1) nE nE) nE)) (nT 21 (.aload_n 0, 1) (nT 17 (.aload_n 0, 1) (nT 14 (.if_icmp .ge 32, 3) nE nE) (nT 18 (.getfield 11, 3) nE nE)) (nT 25 (.iload_n 1, 1) (nT 22 (.getfield 15, 3) nE nE) nE))) (nT 35 (.iconst 1, 1) (nT 30 (.aload_n 0, 1) (nT 28 (.i2b, 1) (nT 27 (.ishr, 1) nE nE) (nT 29 (.bastore, 1) nE nE)) (nT 32 (.getfield 15, 3) (nT 31 (.dup, 1) nE nE) nE)) (nT 40 (.iinc 2 (-8), 3) (nT 37 (.putfield 15, 3) (nT 36 (.iadd, 1) nE nE) nE) (nT 46 (.return_, 1) (nT 43 (.goto (-40), 3) nE nE) nE))))
def i_X7_fitting : Nat → Option (Instr × Nat) := (nT 33 (.ishl, 1) (nT 14 (.istore 4, 2) (nT 8 (.invokevirtual 49, 3) (nT 4 (.ifCond .ne 7, 3) (nT 1 (.getfield 45, 3) (nT 0 (.aload_n 0, 1) nE nE) nE) (nT 7 (.aload_n 0, 1) nE nE)) (nT 12 (.lstore_n 2, 1) (nT 11 (.lconst 0, 1) nE nE) (nT 13 (.iconst 0, 1) nE nE))) (nT 25 (.iconst 1, 1) (nT 20 (.if_icmp .ge 40, 3) (nT 18 (.bipush 64, 2) (nT 16 (.iload 4, 2) nE nE) nE) (nT 23 (.iload 4, 2) nE nE)) (nT 27 (.getfield 33, 3) (nT 26 (.aload_n 0, 1) nE nE) (nT 30 (.getfield 52, 3) nE nE)))) (nT 49 (.iload 4, 2) (nT 41 (.invokevirtual 57, 3) (nT 38 (.iload 4, 2) (nT 37 (.aload_n 0, 1) (nT 34 (.if_icmp .ge 26, 3) nE nE) nE) (nT 40 (.iload_n 1, 1) nE nE)) (nT 47 (.lload_n 2, 1) (nT 44 (.ifCond .eq 10, 3) nE nE) (nT 48 (.lconst 1, 1) nE nE))) (nT 54 (.iinc 4 1, 3) (nT 52 (.lor, 1) (nT 51 (.lshl, 1) nE nE) (nT 53 (.lstore_n 2, 1) nE nE)) (nT 60 (.lload_n 2, 1) (nT 57 (.goto (-41), 3) nE nE) (nT 61 (.lreturn, 1) nE nE)))))
def i_J13_bitCount_95d88 : Nat → Option (Instr × Nat) := (nT 32 (.land, 1) (nT 16 (.iconst 2, 1) (nT 8 (.lsub, 1) (nT 3 (.lushr, 1) (nT 1 (.lload_n 0, 1) (nT 0 (.lload_n 0, 1) nE nE) (nT 2 (.iconst 1, 1) nE nE)) (nT 7 (.land, 1) (nT 4 (.ldc2_w 314, 3) nE nE) nE)) (nT 11 (.ldc2_w 316, 3) (nT 10 (.lload_n 0, 1) (nT 9 (.lstore_n 0, 1) nE nE) nE) (nT 15 (.lload_n 0, 1) (nT 14 (.land, 1) nE nE) nE))) (nT 24 (.lload_n 0, 1) (nT 21 (.land, 1) (nT 18 (.ldc2_w 316, 3) (nT 17 (.lushr, 1) nE nE) nE) (nT 23 (.lstore_n 0, 1) (nT 22 (.ladd, 1) nE nE) nE)) (nT 27 (.lushr, 1) (nT 26 (.iconst 4, 1) (nT 25 (.lload_n 0, 1) nE nE) nE) (nT 29 (.ldc2_w 318, 3) (nT 28 (.ladd, 1) nE nE) nE)))) (nT 47 (.lstore_n 0, 1) (nT 40 (.lstore_n 0, 1) (nT 36 (.bipush 8, 2) (nT 34 (.lload_n 0, 1) (nT 33 (.lstore_n 0, 1) nE nE) (nT 35 (.lload_n 0, 1) nE nE)) (nT 39 (.ladd, 1) (nT 38 (.lushr, 1) nE nE) nE)) (nT 43 (.bipush 16, 2) (nT 42 (.lload_n 0, 1) (nT 41 (.lload_n 0, 1) nE nE) nE) (nT 46 (.ladd, 1) (nT 45 (.lushr, 1) nE nE) nE))) (nT 54 (.lstore_n 0, 1) (nT 50 (.bipush 32, 2) (nT 49 (.lload_n 0, 1) (nT 48 (.lload_n 0, 1) nE nE) nE) (nT 53 (.ladd, 1) (nT 52 (.lushr, 1) nE nE) nE)) (nT 57 (.bipush 127, 2) (nT 56 (.l2i, 1) (nT 55 (.lload_n 0, 1) nE nE) nE) (nT 60 (.ireturn, 1) (nT 59 (.iand, 1) nE nE) nE)))))
def i_X8_readHouse : Nat → Option (Instr × Nat) := (nT 28 (.getfield 22, 3) (nT 14 (.putfield 39, 3) (nT 8 (.iconst 0, 1) (nT 4 (.invokevirtual 30, 3) (nT 1 (.getfield 26, 3) (nT 0 (.aload_n 0, 1) nE nE) nE) (nT 7 (.aload_n 0, 1) nE nE)) (nT 12 (.aload_n 0, 1) (nT 9 (.putfield 35, 3) nE nE) (nT 13 (.iconst 0, 1) nE nE))) (nT 22 (.aload_n 0, 1) (nT 18 (.iconst 0, 1) (nT 17 (.aload_n 0, 1) nE nE) (nT 19 (.putfield 42, 3) nE nE)) (nT 24 (.putfield 18, 3) (nT 23 (.iconst (-1), 1) nE nE) (nT 27 (.aload_n 0, 1) nE nE)))) (nT 45 (.iload_n 1, 1) (nT 37 (.istore_n 2, 1) (nT 35 (.istore_n 1, 1) (nT 34 (.iconst 1, 1) (nT 31 (.invokevirtual 45, 3) nE nE) nE) (nT 36 (.iconst 0, 1) nE nE)) (nT 39 (.sipush 1600, 3) (nT 38 (.iload_n 2, 1) nE nE) (nT 42 (.if_icmp .ge 145, 3) nE nE))) (nT 53 (.getfield 50, 3) (nT 49 (.aload_n 0, 1) (nT 46 (.ifCond .eq 141, 3) nE nE) (nT 50 (.getfield 22, 3) nE nE)) (nT 187 (.iload_n 1, 1) (nT 56 (.ifCond .eq 131, 3) nE nE) (nT 188 (.ireturn, 1) nE nE)))))
def i_X5_copyFrom : Nat → Option (Instr × Nat) := (nT 55 (.invokestatic 50, 3) (nT 27 (.invokestatic 50, 3) (nT 12 (.invokestatic 50, 3) (nT 5 (.aload_n 0, 1) (nT 1 (.getfield 9, 3) (nT 0 (.aload_n 1, 1) nE nE) (nT 4 (.iconst 0, 1) nE nE)) (nT 9 (.iconst 0, 1) (nT 6 (.getfield 9, 3) nE nE) (nT 10 (.bipush 6, 2) nE nE))) (nT 20 (.aload_n 0, 1) (nT 16 (.getfield 15, 3) (nT 15 (.aload_n 1, 1) nE nE) (nT 19 (.iconst 0, 1) nE nE)) (nT 24 (.iconst 0, 1) (nT 21 (.getfield 15, 3) nE nE) (nT 25 (.bipush 6, 2) nE nE)))) (nT 41 (.invokestatic 50, 3) (nT 35 (.aload_n 0, 1) (nT 31 (.getfield 18, 3) (nT 30 (.aload_n 1, 1) nE nE) (nT 34 (.iconst 0, 1) nE nE)) (nT 39 (.iconst 0, 1) (nT 36 (.getfield 18, 3) nE nE) (nT 40 (.iconst 5, 1) nE nE))) (nT 49 (.aload_n 0, 1) (nT 45 (.getfield 21, 3) (nT 44 (.aload_n 1, 1) nE nE) (nT 48 (.iconst 0, 1) nE nE)) (nT 53 (.iconst 0, 1) (nT 50 (.getfield 21, 3) nE nE) (nT 54 (.iconst 5, 1) nE nE))))) (nT 85 (.getfield 37, 3) (nT 69 (.invokestatic 50, 3) (nT 63 (.aload_n 0, 1) (nT 59 (.getfield 24, 3) (nT 58 (.aload_n 1, 1) nE nE) (nT 62 (.iconst 0, 1) nE nE)) (nT 67 (.iconst 0, 1) (nT 64 (.getfield 24, 3) nE nE) (nT 68 (.iconst 5, 1) nE nE))) (nT 77 (.getfield 30, 3) (nT 73 (.getfield 30, 3) (nT 72 (.aload_n 0, 1) nE nE) (nT 76 (.aload_n 1, 1) nE nE)) (nT 83 (.aload_n 0, 1) (nT 80 (.invokevirtual 56, 3) nE nE) (nT 84 (.aload_n 1, 1) nE nE)))) (nT 101 (.getfield 44, 3) (nT 93 (.getfield 41, 3) (nT 91 (.aload_n 0, 1) (nT 88 (.putfield 37, 3) nE nE) (nT 92 (.aload_n 1, 1) nE nE)) (nT 99 (.aload_n 0, 1) (nT 96 (.putfield 41, 3) nE nE) (nT 100 (.aload_n 1, 1) nE nE))) (nT 109 (.getfield 47, 3) (nT 107 (.aload_n 0, 1) (nT 104 (.putfield 44, 3) nE nE) (nT 108 (.aload_n 1, 1) nE nE)) (nT 115 (.return_, 1) (nT 112 (.putfield 47, 3) nE nE) nE)))))
def i_X6_layOut : Nat → Option (Instr × Nat) := (nT 20 (.invokevirtual 33, 3) (nT 11 (.iconst 5, 1) (nT 5 (.invokestatic 27, 3) (nT 1 (.getfield 11, 3) (nT 0 (.aload_n 0, 1) nE nE) (nT 4 (.iconst 0, 1) nE nE)) (nT 9 (.istore_n 2, 1) (nT 8 (.iconst 0, 1) nE nE) (nT 10 (.iload_n 2, 1) nE nE))) (nT 17 (.iconst 3, 1) (nT 15 (.aload_n 0, 1) (nT 12 (.if_icmp .ge 20, 3) nE nE) (nT 16 (.iload_n 2, 1) nE nE)) (nT 19 (.iload_n 2, 1) (nT 18 (.aload_n 1, 1) nE nE) nE))) (nT 38 (.iconst 0, 1) (nT 32 (.aload_n 0, 1) (nT 26 (.iinc 2 1, 3) (nT 23 (.invokevirtual 23, 3) nE nE) (nT 29 (.goto (-19), 3) nE nE)) (nT 34 (.putfield 39, 3) (nT 33 (.iconst 0, 1) nE nE) (nT 37 (.aload_n 0, 1) nE nE))) (nT 44 (.getfield 46, 3) (nT 42 (.aload_n 0, 1) (nT 39 (.putfield 43, 3) nE nE) (nT 43 (.aload_n 1, 1) nE nE)) (nT 50 (.return_, 1) (nT 47 (.putfield 49, 3) nE nE) nE))))
def i_X0_begin : Nat → Option (Instr × Nat) := (nT 11 (.iconst 0, 1) (nT 5 (.aload_n 0, 1) (nT 1 (.iconst 0, 1) (nT 0 (.aload_n 0, 1) nE nE) (nT 2 (.putfield 16, 3) nE nE)) (nT 7 (.putfield 20, 3) (nT 6 (.iconst 0, 1) nE nE) (nT 10 (.aload_n 0, 1) nE nE))) (nT 17 (.invokevirtual 26, 3) (nT 15 (.aload_n 0, 1) (nT 12 (.putfield 23, 3) nE nE) (nT 16 (.iconst 0, 1) nE nE)) (nT 21 (.invokevirtual 30, 3) (nT 20 (.aload_n 1, 1) nE nE) (nT 24 (.return_, 1) nE nE))))
def i_X7_forget : Nat → Option (Instr × Nat) := (nT 5 (.aload_n 0, 1) (nT 1 (.iconst 0, 1) (nT 0 (.aload_n 0, 1) nE nE) (nT 2 (.putfield 41, 3) nE nE)) (nT 7 (.putfield 45, 3) (nT 6 (.iconst 0, 1) nE nE) (nT 10 (.return_, 1) nE nE)))
def i_X3_clear : Nat → Option (Instr × Nat) := (nT 2 (.putfield 56, 3) (nT 1 (.iconst 0, 1) (nT 0 (.aload_n 0, 1) nE nE) nE) (nT 5 (.return_, 1) nE nE))
def i_X9_init : Nat → Option (Instr × Nat) := (nT 5 (.sipush 1600, 3) (nT 1 (.invokespecial 5, 3) (nT 0 (.aload_n 0, 1) nE nE) (nT 4 (.aload_n 0, 1) nE nE)) (nT 10 (.putfield 11, 3) (nT 8 (.newarray .byte, 2) nE nE) (nT 13 (.return_, 1) nE nE)))
def i_X5_init : Nat → Option (Instr × Nat) := (nT 27 (.aload_n 0, 1) (nT 13 (.bipush 6, 2) (nT 5 (.bipush 6, 2) (nT 1 (.invokespecial 3, 3) (nT 0 (.aload_n 0, 1) nE nE) (nT 4 (.aload_n 0, 1) nE nE)) (nT 9 (.putfield 9, 3) (nT 7 (.newarray .int, 2) nE nE) (nT 12 (.aload_n 0, 1) nE nE))) (nT 21 (.iconst 5, 1) (nT 17 (.putfield 15, 3) (nT 15 (.newarray .int, 2) nE nE) (nT 20 (.aload_n 0, 1) nE nE)) (nT 24 (.putfield 18, 3) (nT 22 (.newarray .int, 2) nE nE) nE))) (nT 38 (.putfield 24, 3) (nT 34 (.aload_n 0, 1) (nT 29 (.newarray .int, 2) (nT 28 (.iconst 5, 1) nE nE) (nT 31 (.putfield 21, 3) nE nE)) (nT 36 (.newarray .int, 2) (nT 35 (.iconst 5, 1) nE nE) nE)) (nT 46 (.invokespecial 29, 3) (nT 42 (.new 27, 3) (nT 41 (.aload_n 0, 1) nE nE) (nT 45 (.dup, 1) nE nE)) (nT 52 (.return_, 1) (nT 49 (.putfield 30, 3) nE nE) nE))))
def i_X8_init : Nat → Option (Instr × Nat) := (nT 19 (.aload_n 0, 1) (nT 9 (.putfield 9, 3) (nT 4 (.aload_n 0, 1) (nT 1 (.invokespecial 3, 3) (nT 0 (.aload_n 0, 1) nE nE) nE) (nT 7 (.newarray .long, 2) (nT 5 (.bipush 6, 2) nE nE) nE)) (nT 14 (.newarray .long, 2) (nT 13 (.iconst 5, 1) (nT 12 (.aload_n 0, 1) nE nE) nE) (nT 16 (.putfield 15, 3) nE nE))) (nT 26 (.putfield 22, 3) (nT 24 (.aload_n 0, 1) (nT 21 (.putfield 18, 3) (nT 20 (.iconst (-1), 1) nE nE) nE) (nT 25 (.aload_n 1, 1) nE nE)) (nT 31 (.putfield 26, 3) (nT 30 (.aload_n 2, 1) (nT 29 (.aload_n 0, 1) nE nE) nE) (nT 34 (.return_, 1) nE nE))))
def i_X0_init : Nat → Option (Instr × Nat) := (nT 18 (.if_icmp .ge 22, 3) (nT 10 (.putfield 11, 3) (nT 4 (.aload_n 0, 1) (nT 1 (.invokespecial 3, 3) (nT 0 (.aload_n 0, 1) nE nE) nE) (nT 7 (.anewarray 9, 3) (nT 5 (.bipush 41, 2) nE nE) nE)) (nT 15 (.iload_n 1, 1) (nT 14 (.istore_n 1, 1) (nT 13 (.iconst 0, 1) nE nE) nE) (nT 16 (.bipush 41, 2) nE nE))) (nT 30 (.invokespecial 15, 3) (nT 25 (.iload_n 1, 1) (nT 22 (.getfield 11, 3) (nT 21 (.aload_n 0, 1) nE nE) nE) (nT 29 (.dup, 1) (nT 26 (.new 9, 3) nE nE) nE)) (nT 37 (.goto (-22), 3) (nT 34 (.iinc 1 1, 3) (nT 33 (.aastore, 1) nE nE) nE) (nT 40 (.return_, 1) nE nE))))
def i_X10_init : Nat → Option (Instr × Nat) := (nT 5 (.aload_n 1, 1) (nT 1 (.invokespecial 3, 3) (nT 0 (.aload_n 0, 1) nE nE) (nT 4 (.aload_n 0, 1) nE nE)) (nT 9 (.return_, 1) (nT 6 (.putfield 9, 3) nE nE) nE))
def i_X1_init : Nat → Option (Instr × Nat) := (nT 10 (.aload_n 2, 1) (nT 5 (.aload_n 1, 1) (nT 1 (.invokespecial 3, 3) (nT 0 (.aload_n 0, 1) nE nE) (nT 4 (.aload_n 0, 1) nE nE)) (nT 9 (.aload_n 0, 1) (nT 6 (.putfield 9, 3) nE nE) nE)) (nT 15 (.aload_n 3, 1) (nT 14 (.aload_n 0, 1) (nT 11 (.putfield 15, 3) nE nE) nE) (nT 19 (.return_, 1) (nT 16 (.putfield 19, 3) nE nE) nE)))
def i_X2_init : Nat → Option (Instr × Nat) := (nT 11 (.putfield 15, 3) (nT 5 (.aload_n 1, 1) (nT 1 (.invokespecial 3, 3) (nT 0 (.aload_n 0, 1) nE nE) (nT 4 (.aload_n 0, 1) nE nE)) (nT 9 (.aload_n 0, 1) (nT 6 (.putfield 9, 3) nE nE) (nT 10 (.aload_n 2, 1) nE nE))) (nT 19 (.aload_n 0, 1) (nT 15 (.aload_n 3, 1) (nT 14 (.aload_n 0, 1) nE nE) (nT 16 (.putfield 19, 3) nE nE)) (nT 22 (.putfield 23, 3) (nT 20 (.aload 4, 2) nE nE) (nT 25 (.return_, 1) nE nE))))
def i_X3_init : Nat → Option (Instr × Nat) := (nT 56 (.putfield 34, 3) (nT 27 (.aload_n 0, 1) (nT 13 (.bipush 6, 2) (nT 5 (.bipush 6, 2) (nT 1 (.invokespecial 3, 3) (nT 0 (.aload_n 0, 1) nE nE) (nT 4 (.aload_n 0, 1) nE nE)) (nT 9 (.putfield 9, 3) (nT 7 (.newarray .int, 2) nE nE) (nT 12 (.aload_n 0, 1) nE nE))) (nT 21 (.iconst 5, 1) (nT 17 (.putfield 15, 3) (nT 15 (.newarray .int, 2) nE nE) (nT 20 (.aload_n 0, 1) nE nE)) (nT 24 (.putfield 18, 3) (nT 22 (.newarray .int, 2) nE nE) nE))) (nT 41 (.aload_n 0, 1) (nT 34 (.aload_n 0, 1) (nT 29 (.newarray .long, 2) (nT 28 (.iconst 5, 1) nE nE) (nT 31 (.putfield 21, 3) nE nE)) (nT 36 (.newarray .long, 2) (nT 35 (.iconst 5, 1) nE nE) (nT 38 (.putfield 25, 3) nE nE))) (nT 50 (.aload_n 0, 1) (nT 44 (.anewarray 28, 3) (nT 42 (.bipush 7, 2) nE nE) (nT 47 (.putfield 30, 3) nE nE)) (nT 54 (.newarray .int, 2) (nT 51 (.sipush 1000, 3) nE nE) nE)))) (nT 83 (.iload 5, 2) (nT 70 (.aload_n 3, 1) (nT 64 (.aload_n 0, 1) (nT 60 (.aload_n 1, 1) (nT 59 (.aload_n 0, 1) nE nE) (nT 61 (.putfield 37, 3) nE nE)) (nT 66 (.putfield 41, 3) (nT 65 (.aload_n 2, 1) nE nE) (nT 69 (.aload_n 0, 1) nE nE))) (nT 77 (.putfield 49, 3) (nT 74 (.aload_n 0, 1) (nT 71 (.putfield 45, 3) nE nE) (nT 75 (.aload 4, 2) nE nE)) (nT 81 (.istore 5, 2) (nT 80 (.iconst 0, 1) nE nE) nE))) (nT 99 (.dup, 1) (nT 91 (.getfield 30, 3) (nT 87 (.if_icmp .gt 24, 3) (nT 85 (.bipush 6, 2) nE nE) (nT 90 (.aload_n 0, 1) nE nE)) (nT 96 (.new 28, 3) (nT 94 (.iload 5, 2) nE nE) nE)) (nT 105 (.iinc 5 1, 3) (nT 101 (.invokespecial 53, 3) (nT 100 (.aload_n 1, 1) nE nE) (nT 104 (.aastore, 1) nE nE)) (nT 111 (.return_, 1) (nT 108 (.goto (-25), 3) nE nE) nE)))))
def i_X7_init : Nat → Option (Instr × Nat) := (nT 33 (.putfield 22, 3) (nT 15 (.newarray .int, 2) (nT 7 (.newarray .int, 2) (nT 4 (.aload_n 0, 1) (nT 1 (.invokespecial 3, 3) (nT 0 (.aload_n 0, 1) nE nE) nE) (nT 5 (.bipush 30, 2) nE nE)) (nT 12 (.aload_n 0, 1) (nT 9 (.putfield 11, 3) nE nE) (nT 13 (.bipush 30, 2) nE nE))) (nT 25 (.putfield 18, 3) (nT 21 (.bipush 30, 2) (nT 20 (.aload_n 0, 1) (nT 17 (.putfield 15, 3) nE nE) nE) (nT 23 (.newarray .boolean, 2) nE nE)) (nT 29 (.bipush 30, 2) (nT 28 (.aload_n 0, 1) nE nE) (nT 31 (.newarray .int, 2) nE nE)))) (nT 53 (.putfield 30, 3) (nT 44 (.aload_n 0, 1) (nT 39 (.newarray .int, 2) (nT 37 (.bipush 30, 2) (nT 36 (.aload_n 0, 1) nE nE) nE) (nT 41 (.putfield 25, 3) nE nE)) (nT 47 (.bipush 21, 2) (nT 45 (.bipush 64, 2) nE nE) (nT 49 (.multianewarray 28 2, 4) nE nE))) (nT 61 (.aload_n 0, 1) (nT 57 (.aload_n 1, 1) (nT 56 (.aload_n 0, 1) nE nE) (nT 58 (.putfield 33, 3) nE nE)) (nT 63 (.putfield 37, 3) (nT 62 (.aload_n 2, 1) nE nE) (nT 66 (.return_, 1) nE nE)))))
def i_X1_mayJoin : Nat → Option (Instr × Nat) := (nT 6 (.iload_n 1, 1) (nT 2 (.if_icmp .eq 34, 3) (nT 1 (.iload_n 2, 1) (nT 0 (.iload_n 1, 1) nE nE) nE) (nT 5 (.aload_n 0, 1) nE nE)) (nT 36 (.iconst 0, 1) (nT 10 (.ifCond .eq 26, 3) (nT 7 (.invokevirtual 46, 3) nE nE) nE) (nT 37 (.ireturn, 1) nE nE)))
def i_X1_latestVote : Nat → Option (Instr × Nat) := (nT 13 (.ifCond .eq 7, 3) (nT 6 (.invokevirtual 31, 3) (nT 4 (.iload_n 2, 1) (nT 1 (.getfield 15, 3) (nT 0 (.aload_n 0, 1) nE nE) nE) (nT 5 (.iconst 1, 1) nE nE)) (nT 11 (.iconst 1, 1) (nT 10 (.ishr, 1) (nT 9 (.iload_n 1, 1) nE nE) nE) (nT 12 (.iand, 1) nE nE))) (nT 26 (.iload_n 1, 1) (nT 22 (.aload_n 0, 1) (nT 21 (.istore_n 3, 1) (nT 20 (.iconst 0, 1) nE nE) nE) (nT 23 (.getfield 9, 3) nE nE)) (nT 45 (.iconst (-1), 1) (nT 30 (.ifCond .eq 15, 3) (nT 27 (.invokevirtual 35, 3) nE nE) nE) (nT 46 (.ireturn, 1) nE nE))))
def i_X1_passingWithNeed : Nat → Option (Instr × Nat) := (nT 5 (.aload_n 0, 1) (nT 2 (.iconst 0, 1) (nT 1 (.istore_n 2, 1) (nT 0 (.iconst 0, 1) nE nE) nE) (nT 4 (.iload_n 3, 1) (nT 3 (.istore_n 3, 1) nE nE) nE)) (nT 12 (.if_icmp .ge 40, 3) (nT 9 (.getfield 55, 3) (nT 6 (.getfield 9, 3) nE nE) nE) (nT 53 (.ireturn, 1) (nT 52 (.iload_n 2, 1) nE nE) nE)))
def i_X3_lyingAt : Nat → Option (Instr × Nat) := (nT 6 (.getfield 56, 3) (nT 4 (.iload_n 1, 1) (nT 1 (.ifCond .lt 26, 3) (nT 0 (.iload_n 1, 1) nE nE) nE) (nT 5 (.aload_n 0, 1) nE nE)) (nT 27 (.bipush (-2), 2) (nT 9 (.if_icmp .ge 18, 3) nE nE) (nT 29 (.ireturn, 1) nE nE)))
def i_X1_longestLasting : Nat → Option (Instr × Nat) := (nT 18 (.iconst 0, 1) (nT 5 (.ifCond .lt 13, 3) (nT 2 (.iconst (-1), 1) (nT 1 (.istore_n 2, 1) (nT 0 (.iconst (-1), 1) nE nE) nE) (nT 4 (.iload_n 1, 1) (nT 3 (.istore_n 3, 1) nE nE) nE)) (nT 11 (.if_icmp .gt 7, 3) (nT 9 (.bipush 60, 2) (nT 8 (.iload_n 1, 1) nE nE) nE) (nT 15 (.goto 4, 3) (nT 14 (.iconst 1, 1) nE nE) nE))) (nT 27 (.getfield 9, 3) (nT 22 (.istore 5, 2) (nT 21 (.iconst 0, 1) (nT 19 (.istore 4, 2) nE nE) nE) (nT 26 (.aload_n 0, 1) (nT 24 (.iload 5, 2) nE nE) nE)) (nT 104 (.iload_n 2, 1) (nT 33 (.if_icmp .ge 71, 3) (nT 30 (.getfield 42, 3) nE nE) nE) (nT 105 (.ireturn, 1) nE nE))))
def i_X1_countMatches : Nat → Option (Instr × Nat) := (nT 5 (.aload_n 0, 1) (nT 2 (.iconst 0, 1) (nT 1 (.istore_n 1, 1) (nT 0 (.iconst 0, 1) nE nE) nE) (nT 4 (.iload_n 2, 1) (nT 3 (.istore_n 2, 1) nE nE) nE)) (nT 12 (.if_icmp .ge 73, 3) (nT 9 (.getfield 55, 3) (nT 6 (.getfield 9, 3) nE nE) nE) (nT 86 (.ireturn, 1) (nT 85 (.iload_n 1, 1) nE nE) nE)))
def i_X2_weighMean : Nat → Option (Instr × Nat) := (nT 4 (.invokevirtual 98, 3) (nT 2 (.iload_n 2, 1) (nT 1 (.iload_n 1, 1) (nT 0 (.aload_n 0, 1) nE nE) nE) (nT 3 (.iconst 3, 1) nE nE)) (nT 10 (.iconst 0, 1) (nT 7 (.ifCond .ne 5, 3) nE nE) (nT 11 (.ireturn, 1) nE nE)))
def i_X5_hasMember : Nat → Option (Instr × Nat) := (nT 6 (.getfield 37, 3) (nT 4 (.iload_n 1, 1) (nT 1 (.ifCond .lt 21, 3) (nT 0 (.iload_n 1, 1) nE nE) nE) (nT 5 (.aload_n 0, 1) nE nE)) (nT 22 (.iconst 0, 1) (nT 9 (.if_icmp .ge 13, 3) nE nE) (nT 23 (.ireturn, 1) nE nE)))
def i_X1_fewestSaviours : Nat → Option (Instr × Nat) := (nT 14 (.aload_n 0, 1) (nT 7 (.istore_n 3, 1) (nT 2 (.aload_n 0, 1) (nT 1 (.istore_n 2, 1) (nT 0 (.iconst (-1), 1) nE nE) nE) (nT 4 (.invokevirtual 38, 3) (nT 3 (.iload_n 1, 1) nE nE) nE)) (nT 11 (.iload 4, 2) (nT 9 (.istore 4, 2) (nT 8 (.iconst 0, 1) nE nE) nE) (nT 13 (.iconst 1, 1) nE nE))) (nT 26 (.iload_n 1, 1) (nT 21 (.ishl, 1) (nT 18 (.getfield 42, 3) (nT 15 (.getfield 9, 3) nE nE) nE) (nT 25 (.aload_n 0, 1) (nT 22 (.if_icmp .ge 77, 3) nE nE) nE)) (nT 99 (.iload_n 2, 1) (nT 30 (.ifCond .eq 69, 3) (nT 27 (.invokevirtual 46, 3) nE nE) nE) (nT 100 (.ireturn, 1) nE nE))))
def i_X2_weighOdds : Nat → Option (Instr × Nat) := (nT 4 (.invokevirtual 98, 3) (nT 2 (.iload_n 2, 1) (nT 1 (.iload_n 1, 1) (nT 0 (.aload_n 0, 1) nE nE) nE) (nT 3 (.iconst 4, 1) nE nE)) (nT 10 (.iconst 0, 1) (nT 7 (.ifCond .ne 5, 3) nE nE) (nT 11 (.ireturn, 1) nE nE)))
def i_X1_passing : Nat → Option (Instr × Nat) := (nT 5 (.aload_n 0, 1) (nT 2 (.iconst 0, 1) (nT 1 (.istore_n 1, 1) (nT 0 (.iconst 0, 1) nE nE) nE) (nT 4 (.iload_n 2, 1) (nT 3 (.istore_n 2, 1) nE nE) nE)) (nT 12 (.if_icmp .ge 27, 3) (nT 9 (.getfield 55, 3) (nT 6 (.getfield 9, 3) nE nE) nE) (nT 40 (.ireturn, 1) (nT 39 (.iload_n 1, 1) nE nE) nE)))
def i_X3_choosePlan : Nat → Option (Instr × Nat) := (nT 65 (.iload_n 1, 1) (nT 25 (.aload_n 0, 1) (nT 13 (.iconst 0, 1) (nT 5 (.invokestatic 66, 3) (nT 1 (.getfield 18, 3) (nT 0 (.aload_n 0, 1) nE nE) (nT 4 (.iconst 0, 1) nE nE)) (nT 9 (.iconst 0, 1) (nT 8 (.aload_n 0, 1) nE nE) (nT 10 (.putfield 72, 3) nE nE))) (nT 17 (.if_icmp .ge 98, 3) (nT 15 (.iload_n 1, 1) (nT 14 (.istore_n 1, 1) nE nE) (nT 16 (.iconst 5, 1) nE nE)) (nT 21 (.getfield 21, 3) (nT 20 (.aload_n 0, 1) nE nE) (nT 24 (.iload_n 1, 1) nE nE)))) (nT 37 (.lconst 0, 1) (nT 31 (.aload_n 0, 1) (nT 27 (.invokevirtual 75, 3) (nT 26 (.iload_n 1, 1) nE nE) (nT 30 (.lastore, 1) nE nE)) (nT 35 (.iload_n 1, 1) (nT 32 (.getfield 21, 3) nE nE) (nT 36 (.laload, 1) nE nE))) (nT 60 (.istore_n 2, 1) (nT 39 (.ifCond .eq 20, 3) (nT 38 (.lcmp, 1) nE nE) (nT 59 (.iconst 0, 1) nE nE)) (nT 62 (.getfield 25, 3) (nT 61 (.aload_n 0, 1) nE nE) nE)))) (nT 104 (.iconst 0, 1) (nT 89 (.aload_n 0, 1) (nT 83 (.lastore, 1) (nT 67 (.ifCond .eq 15, 3) (nT 66 (.iload_n 2, 1) nE nE) (nT 82 (.lconst 0, 1) nE nE)) (nT 85 (.dup, 1) (nT 84 (.aload_n 0, 1) nE nE) (nT 86 (.getfield 72, 3) nE nE))) (nT 95 (.lconst 0, 1) (nT 93 (.iload_n 1, 1) (nT 90 (.getfield 21, 3) nE nE) (nT 94 (.laload, 1) nE nE)) (nT 97 (.ifCond .eq 7, 3) (nT 96 (.lcmp, 1) nE nE) nE))) (nT 120 (.aload_n 0, 1) (nT 112 (.goto (-97), 3) (nT 106 (.putfield 72, 3) (nT 105 (.iadd, 1) nE nE) (nT 109 (.iinc 1 1, 3) nE nE)) (nT 116 (.iconst (-1), 1) (nT 115 (.aload_n 0, 1) nE nE) (nT 117 (.putfield 85, 3) nE nE))) (nT 126 (.aload_n 0, 1) (nT 122 (.iconst 0, 1) (nT 121 (.iconst 0, 1) nE nE) (nT 123 (.invokevirtual 88, 3) nE nE)) (nT 130 (.ireturn, 1) (nT 127 (.getfield 85, 3) nE nE) nE)))))
def i_X2_weighPower : Nat → Option (Instr × Nat) := (nT 5 (.invokevirtual 38, 3) (nT 1 (.getfield 9, 3) (nT 0 (.aload_n 0, 1) nE nE) (nT 4 (.iload_n 1, 1) nE nE)) (nT 22 (.iconst 0, 1) (nT 8 (.ifCond .eq 14, 3) nE nE) (nT 23 (.ireturn, 1) nE nE)))
def i_X3_chooseQueue : Nat → Option (Instr × Nat) := (nT 10 (.getfield 49, 3) (nT 5 (.iconst (-1), 1) (nT 1 (.invokevirtual 122, 3) (nT 0 (.aload_n 0, 1) nE nE) (nT 4 (.aload_n 0, 1) nE nE)) (nT 9 (.aload_n 0, 1) (nT 6 (.putfield 85, 3) nE nE) nE)) (nT 80 (.aload_n 0, 1) (nT 14 (.invokevirtual 92, 3) (nT 13 (.iload_n 1, 1) nE nE) (nT 17 (.ifCond .eq 63, 3) nE nE)) (nT 84 (.ireturn, 1) (nT 81 (.getfield 85, 3) nE nE) nE)))
def i_X0_goOn : Nat → Option (Instr × Nat) := (nT 5 (.getfield 23, 3) (nT 1 (.getfield 20, 3) (nT 0 (.aload_n 0, 1) nE nE) (nT 4 (.aload_n 0, 1) nE nE)) (nT 11 (.iconst 0, 1) (nT 8 (.if_icmp .lt 5, 3) nE nE) (nT 12 (.ireturn, 1) nE nE)))
def i_X1_richestKept : Nat → Option (Instr × Nat) := (nT 6 (.iload_n 3, 1) (nT 3 (.istore_n 2, 1) (nT 1 (.istore_n 1, 1) (nT 0 (.iconst (-1), 1) nE nE) (nT 2 (.iconst (-1), 1) nE nE)) (nT 5 (.istore_n 3, 1) (nT 4 (.iconst 0, 1) nE nE) nE)) (nT 14 (.if_icmp .ge 39, 3) (nT 8 (.getfield 9, 3) (nT 7 (.aload_n 0, 1) nE nE) (nT 11 (.getfield 55, 3) nE nE)) (nT 54 (.ireturn, 1) (nT 53 (.iload_n 1, 1) nE nE) nE)))
def i_X1_ripestDays : Nat → Option (Instr × Nat) := (nT 43 (.istore 5, 2) (nT 5 (.aload_n 0, 1) (nT 2 (.iconst (-1), 1) (nT 1 (.istore_n 3, 1) (nT 0 (.iconst (-1), 1) nE nE) nE) (nT 3 (.istore 4, 2) nE nE)) (nT 10 (.ifCond .eq 32, 3) (nT 7 (.invokevirtual 46, 3) (nT 6 (.iload_n 1, 1) nE nE) nE) (nT 42 (.iconst 0, 1) nE nE))) (nT 51 (.iload_n 1, 1) (nT 48 (.iload 6, 2) (nT 46 (.istore 6, 2) (nT 45 (.iconst 0, 1) nE nE) nE) (nT 50 (.aload_n 0, 1) nE nE)) (nT 93 (.iload_n 3, 1) (nT 55 (.if_icmp .ge 38, 3) (nT 52 (.invokevirtual 85, 3) nE nE) nE) (nT 94 (.ireturn, 1) nE nE))))
def i_X3_chooseSabotage : Nat → Option (Instr × Nat) := (nT 38 (.iload_n 3, 1) (nT 18 (.iconst 0, 1) (nT 10 (.iconst 3, 1) (nT 5 (.iconst 1, 1) (nT 1 (.invokevirtual 122, 3) (nT 0 (.aload_n 0, 1) nE nE) (nT 4 (.iload_n 1, 1) nE nE)) (nT 9 (.iload_n 1, 1) (nT 6 (.if_icmp .lt 8, 3) nE nE) nE)) (nT 15 (.ireturn, 1) (nT 14 (.iconst (-1), 1) (nT 11 (.if_icmp .le 5, 3) nE nE) nE) (nT 17 (.istore_n 2, 1) (nT 16 (.iconst 1, 1) nE nE) nE))) (nT 28 (.imul, 1) (nT 22 (.if_icmp .ge 14, 3) (nT 20 (.iload_n 3, 1) (nT 19 (.istore_n 3, 1) nE nE) (nT 21 (.iload_n 1, 1) nE nE)) (nT 26 (.bipush 6, 2) (nT 25 (.iload_n 2, 1) nE nE) nE)) (nT 33 (.goto (-13), 3) (nT 30 (.iinc 3 1, 3) (nT 29 (.istore_n 2, 1) nE nE) nE) (nT 37 (.istore_n 3, 1) (nT 36 (.iconst 0, 1) nE nE) nE)))) (nT 62 (.istore_n 3, 1) (nT 49 (.iinc 3 1, 3) (nT 44 (.iload_n 3, 1) (nT 40 (.if_icmp .ge 15, 3) (nT 39 (.iconst 5, 1) nE nE) (nT 43 (.aload_n 0, 1) nE nE)) (nT 46 (.invokevirtual 161, 3) (nT 45 (.iload_n 1, 1) nE nE) nE)) (nT 56 (.bipush 6, 2) (nT 55 (.aload_n 0, 1) (nT 52 (.goto (-14), 3) nE nE) nE) (nT 61 (.iconst 0, 1) (nT 58 (.putfield 85, 3) nE nE) nE))) (nT 71 (.invokevirtual 164, 3) (nT 68 (.aload_n 0, 1) (nT 64 (.iload_n 2, 1) (nT 63 (.iload_n 3, 1) nE nE) (nT 65 (.if_icmp .ge 15, 3) nE nE)) (nT 70 (.iload_n 1, 1) (nT 69 (.iload_n 3, 1) nE nE) nE)) (nT 80 (.aload_n 0, 1) (nT 77 (.goto (-14), 3) (nT 74 (.iinc 3 1, 3) nE nE) nE) (nT 84 (.ireturn, 1) (nT 81 (.getfield 85, 3) nE nE) nE)))))
def i_X6_get : Nat → Option (Instr × Nat) := (nT 13 (.bipush 6, 2) (nT 5 (.ifCond .eq 17, 3) (nT 1 (.iload_n 2, 1) (nT 0 (.iload_n 1, 1) nE nE) (nT 2 (.invokestatic 15, 3) nE nE)) (nT 9 (.getfield 11, 3) (nT 8 (.aload_n 0, 1) nE nE) (nT 12 (.iload_n 1, 1) nE nE))) (nT 18 (.iaload, 1) (nT 16 (.iload_n 2, 1) (nT 15 (.imul, 1) nE nE) (nT 17 (.iadd, 1) nE nE)) (nT 22 (.iconst 0, 1) (nT 19 (.goto 4, 3) nE nE) (nT 23 (.ireturn, 1) nE nE))))
def i_X1_isKept : Nat → Option (Instr × Nat) := (nT 5 (.invokevirtual 23, 3) (nT 1 (.getfield 9, 3) (nT 0 (.aload_n 0, 1) nE nE) (nT 4 (.iload_n 1, 1) nE nE)) (nT 27 (.iconst 0, 1) (nT 8 (.ifCond .eq 19, 3) nE nE) (nT 28 (.ireturn, 1) nE nE)))
def i_X7_tell : Nat → Option (Instr × Nat) := (nT 58 (.iastore, 1) (nT 32 (.bipush 30, 2) (nT 14 (.iload_n 2, 1) (nT 5 (.bipush 20, 2) (nT 1 (.ifCond .lt 36, 3) (nT 0 (.iload_n 1, 1) nE nE) (nT 4 (.iload_n 1, 1) nE nE)) (nT 10 (.iload_n 2, 1) (nT 7 (.if_icmp .gt 30, 3) nE nE) (nT 11 (.ifCond .lt 26, 3) nE nE))) (nT 22 (.getfield 41, 3) (nT 18 (.if_icmp .gt 19, 3) (nT 15 (.sipush 999, 3) nE nE) (nT 21 (.aload_n 0, 1) nE nE)) (nT 28 (.aload_n 0, 1) (nT 25 (.ifCond .lt 12, 3) nE nE) (nT 29 (.getfield 41, 3) nE nE)))) (nT 47 (.iload_n 1, 1) (nT 39 (.aload_n 0, 1) (nT 37 (.iconst (-1), 1) (nT 34 (.if_icmp .lt 5, 3) nE nE) (nT 38 (.ireturn, 1) nE nE)) (nT 43 (.aload_n 0, 1) (nT 40 (.getfield 11, 3) nE nE) (nT 44 (.getfield 41, 3) nE nE))) (nT 53 (.aload_n 0, 1) (nT 49 (.aload_n 0, 1) (nT 48 (.iastore, 1) nE nE) (nT 50 (.getfield 15, 3) nE nE)) (nT 57 (.iload_n 2, 1) (nT 54 (.getfield 41, 3) nE nE) nE)))) (nT 84 (.aload_n 0, 1) (nT 70 (.getfield 22, 3) (nT 64 (.getfield 41, 3) (nT 60 (.getfield 18, 3) (nT 59 (.aload_n 0, 1) nE nE) (nT 63 (.aload_n 0, 1) nE nE)) (nT 68 (.bastore, 1) (nT 67 (.iload_n 3, 1) nE nE) (nT 69 (.aload_n 0, 1) nE nE))) (nT 79 (.iastore, 1) (nT 74 (.getfield 41, 3) (nT 73 (.aload_n 0, 1) nE nE) (nT 77 (.iload 4, 2) nE nE)) (nT 81 (.getfield 25, 3) (nT 80 (.aload_n 0, 1) nE nE) nE))) (nT 96 (.iadd, 1) (nT 90 (.aload_n 0, 1) (nT 88 (.iconst (-1), 1) (nT 85 (.getfield 41, 3) nE nE) (nT 89 (.iastore, 1) nE nE)) (nT 92 (.getfield 41, 3) (nT 91 (.dup, 1) nE nE) (nT 95 (.iconst 1, 1) nE nE))) (nT 104 (.iconst 1, 1) (nT 100 (.aload_n 0, 1) (nT 97 (.putfield 41, 3) nE nE) (nT 101 (.getfield 41, 3) nE nE)) (nT 106 (.ireturn, 1) (nT 105 (.isub, 1) nE nE) nE)))))
def i_X1_shakesToSpoil : Nat → Option (Instr × Nat) := (nT 8 (.aload_n 0, 1) (nT 2 (.iload_n 2, 1) (nT 1 (.istore_n 2, 1) (nT 0 (.iconst 0, 1) nE nE) nE) (nT 5 (.if_icmp .gt 36, 3) (nT 3 (.bipush 20, 2) nE nE) nE)) (nT 13 (.ifCond .eq 28, 3) (nT 10 (.invokevirtual 46, 3) (nT 9 (.iload_n 1, 1) nE nE) nE) (nT 42 (.ireturn, 1) (nT 41 (.iconst (-1), 1) nE nE) nE)))
def i_X7_sureness : Nat → Option (Instr × Nat) := (nT 9 (.ifCond .eq 14, 3) (nT 5 (.lstore_n 3, 1) (nT 1 (.iload_n 2, 1) (nT 0 (.aload_n 0, 1) nE nE) (nT 2 (.invokevirtual 77, 3) nE nE)) (nT 7 (.lconst 0, 1) (nT 6 (.lload_n 3, 1) nE nE) (nT 8 (.lcmp, 1) nE nE))) (nT 17 (.invokevirtual 81, 3) (nT 13 (.getfield 33, 3) (nT 12 (.aload_n 0, 1) nE nE) (nT 16 (.iload_n 1, 1) nE nE)) (nT 23 (.iconst (-1), 1) (nT 20 (.ifCond .ne 5, 3) nE nE) (nT 24 (.ireturn, 1) nE nE))))
def i_X0_goBack : Nat → Option (Instr × Nat) := (nT 4 (.ifCond .gt 5, 3) (nT 1 (.getfield 20, 3) (nT 0 (.aload_n 0, 1) nE nE) nE) (nT 8 (.ireturn, 1) (nT 7 (.iconst 0, 1) nE nE) nE))
def i_X7_takeBack : Nat → Option (Instr × Nat) := (nT 6 (.getfield 41, 3) (nT 4 (.iload_n 1, 1) (nT 1 (.ifCond .lt 27, 3) (nT 0 (.iload_n 1, 1) nE nE) nE) (nT 5 (.aload_n 0, 1) nE nE)) (nT 28 (.iconst 0, 1) (nT 9 (.if_icmp .ge 19, 3) nE nE) (nT 29 (.ireturn, 1) nE nE)))
def i_X1_mayVote : Nat → Option (Instr × Nat) := (nT 5 (.invokevirtual 35, 3) (nT 1 (.getfield 9, 3) (nT 0 (.aload_n 0, 1) nE nE) (nT 4 (.iload_n 1, 1) nE nE)) (nT 27 (.iconst 0, 1) (nT 8 (.ifCond .eq 19, 3) nE nE) (nT 28 (.ireturn, 1) nE nE)))
def i_X1_volumeWasted : Nat → Option (Instr × Nat) := (nT 5 (.aload_n 0, 1) (nT 2 (.iconst 0, 1) (nT 1 (.istore_n 1, 1) (nT 0 (.iconst 0, 1) nE nE) nE) (nT 4 (.iload_n 2, 1) (nT 3 (.istore_n 2, 1) nE nE) nE)) (nT 12 (.if_icmp .ge 41, 3) (nT 9 (.getfield 55, 3) (nT 6 (.getfield 9, 3) nE nE) nE) (nT 54 (.ireturn, 1) (nT 53 (.iload_n 1, 1) nE nE) nE)))
def i_X1_volumeBehind : Nat → Option (Instr × Nat) := (nT 5 (.ifCond .eq 13, 3) (nT 1 (.iload_n 1, 1) (nT 0 (.aload_n 0, 1) nE nE) (nT 2 (.invokevirtual 46, 3) nE nE)) (nT 19 (.ireturn, 1) (nT 18 (.iconst (-1), 1) nE nE) nE))
def i_X12_many : Nat → Option (Instr × Nat) := (nT 5 (.getfield 251, 3) (nT 1 (.getfield 20, 3) (nT 0 (.aload_n 0, 1) nE nE) (nT 4 (.aload_n 0, 1) nE nE)) (nT 9 (.ireturn, 1) (nT 8 (.iaload, 1) nE nE) nE))
def i_X12_thoseThat : Nat → Option (Instr × Nat) := (nT 6 (.getfield 24, 3) (nT 3 (.istore_n 3, 1) (nT 1 (.istore_n 2, 1) (nT 0 (.iconst 0, 1) nE nE) (nT 2 (.iconst 0, 1) nE nE)) (nT 5 (.aload_n 0, 1) (nT 4 (.iload_n 3, 1) nE nE) nE)) (nT 14 (.if_icmp .ge 28, 3) (nT 10 (.getfield 251, 3) (nT 9 (.aload_n 0, 1) nE nE) (nT 13 (.iaload, 1) nE nE)) (nT 43 (.ireturn, 1) (nT 42 (.iload_n 2, 1) nE nE) nE)))
def i_X12_isIn : Nat → Option (Instr × Nat) := (nT 7 (.if_icmp .gt 7, 3) (nT 2 (.if_icmp .lt 12, 3) (nT 1 (.iload_n 1, 1) (nT 0 (.iload_n 0, 1) nE nE) nE) (nT 6 (.iload_n 2, 1) (nT 5 (.iload_n 0, 1) nE nE) nE)) (nT 14 (.iconst 0, 1) (nT 11 (.goto 4, 3) (nT 10 (.iconst 1, 1) nE nE) nE) (nT 15 (.ireturn, 1) nE nE)))
def i_X12_layFits : Nat → Option (Instr × Nat) := (nT 34 (.ishl, 1) (nT 17 (.iload_n 2, 1) (nT 7 (.iload_n 2, 1) (nT 2 (.putfield 526, 3) (nT 1 (.iconst 0, 1) (nT 0 (.aload_n 0, 1) nE nE) nE) (nT 6 (.istore_n 2, 1) (nT 5 (.iconst 0, 1) nE nE) nE)) (nT 13 (.aload_n 0, 1) (nT 10 (.if_icmp .ge 16, 3) (nT 8 (.bipush 6, 2) nE nE) nE) (nT 14 (.getfield 122, 3) nE nE))) (nT 27 (.istore_n 2, 1) (nT 20 (.iinc 2 1, 3) (nT 19 (.iastore, 1) (nT 18 (.iconst 0, 1) nE nE) nE) (nT 26 (.iconst 0, 1) (nT 23 (.goto (-16), 3) nE nE) nE)) (nT 30 (.aload_n 0, 1) (nT 29 (.iconst 1, 1) (nT 28 (.iload_n 2, 1) nE nE) nE) (nT 31 (.invokevirtual 347, 3) nE nE)))) (nT 56 (.iadd, 1) (nT 44 (.ifCond .ne 6, 3) (nT 39 (.iload_n 2, 1) (nT 38 (.aload_n 0, 1) (nT 35 (.if_icmp .ge 61, 3) nE nE) nE) (nT 41 (.invokevirtual 529, 3) (nT 40 (.iload_n 1, 1) nE nE) nE)) (nT 52 (.getfield 526, 3) (nT 51 (.dup, 1) (nT 50 (.aload_n 0, 1) nE nE) nE) (nT 55 (.iconst 1, 1) nE nE))) (nT 64 (.invokevirtual 347, 3) (nT 61 (.istore_n 3, 1) (nT 60 (.iconst 0, 1) (nT 57 (.putfield 526, 3) nE nE) nE) (nT 63 (.aload_n 0, 1) (nT 62 (.iload_n 3, 1) nE nE) nE)) (nT 93 (.goto (-65), 3) (nT 90 (.iinc 2 1, 3) (nT 67 (.if_icmp .ge 23, 3) nE nE) nE) (nT 96 (.return_, 1) nE nE)))))
def i_X12_isLeft : Nat → Option (Instr × Nat) := (nT 5 (.ifCond .eq 19, 3) (nT 1 (.iload_n 1, 1) (nT 0 (.aload_n 0, 1) nE nE) (nT 2 (.invokevirtual 354, 3) nE nE)) (nT 25 (.ireturn, 1) (nT 24 (.iconst 0, 1) nE nE) nE))
def i_X12_isBill : Nat → Option (Instr × Nat) := (nT 7 (.getfield 251, 3) (nT 2 (.aload_n 0, 1) (nT 1 (.iconst 0, 1) (nT 0 (.iload_n 1, 1) nE nE) nE) (nT 6 (.aload_n 0, 1) (nT 3 (.getfield 24, 3) nE nE) nE)) (nT 12 (.isub, 1) (nT 11 (.iconst 1, 1) (nT 10 (.iaload, 1) nE nE) nE) (nT 16 (.ireturn, 1) (nT 13 (.invokestatic 350, 3) nE nE) nE)))
def i_X12_keepAct : Nat → Option (Instr × Nat) := (nT 70 (.aload_n 0, 1) (nT 54 (.if_icmp .ge 29, 3) (nT 49 (.iconst 0, 1) (nT 4 (.bipush 40, 2) (nT 1 (.getfield 365, 3) (nT 0 (.aload_n 0, 1) nE nE) nE) (nT 6 (.if_icmp .ne 43, 3) nE nE)) (nT 51 (.iload_n 1, 1) (nT 50 (.istore_n 1, 1) nE nE) (nT 52 (.bipush 33, 2) nE nE))) (nT 64 (.getfield 365, 3) (nT 61 (.bipush 33, 2) (nT 58 (.getfield 92, 3) (nT 57 (.aload_n 0, 1) nE nE) nE) (nT 63 (.aload_n 0, 1) nE nE)) (nT 68 (.iload_n 1, 1) (nT 67 (.imul, 1) nE nE) (nT 69 (.iadd, 1) nE nE)))) (nT 85 (.getfield 365, 3) (nT 77 (.iinc 1 1, 3) (nT 75 (.iaload, 1) (nT 74 (.iload_n 1, 1) (nT 71 (.getfield 89, 3) nE nE) nE) (nT 76 (.iastore, 1) nE nE)) (nT 83 (.aload_n 0, 1) (nT 80 (.goto (-29), 3) nE nE) (nT 84 (.dup, 1) nE nE))) (nT 93 (.aload_n 0, 1) (nT 89 (.iadd, 1) (nT 88 (.iconst 1, 1) nE nE) (nT 90 (.putfield 365, 3) nE nE)) (nT 95 (.putfield 368, 3) (nT 94 (.iconst 0, 1) nE nE) (nT 98 (.return_, 1) nE nE)))))
def i_X12_goDay : Nat → Option (Instr × Nat) := (nT 138 (.bipush 31, 2) (nT 6 (.getfield 24, 3) (nT 3 (.istore_n 2, 1) (nT 1 (.istore_n 1, 1) (nT 0 (.iconst 0, 1) nE nE) (nT 2 (.iconst 0, 1) nE nE)) (nT 5 (.aload_n 0, 1) (nT 4 (.iload_n 2, 1) nE nE) nE)) (nT 14 (.if_icmp .ge 120, 3) (nT 10 (.getfield 251, 3) (nT 9 (.aload_n 0, 1) nE nE) (nT 13 (.iaload, 1) nE nE)) (nT 135 (.getfield 89, 3) (nT 134 (.aload_n 0, 1) nE nE) nE))) (nT 146 (.getfield 89, 3) (nT 143 (.iadd, 1) (nT 141 (.iaload, 1) (nT 140 (.dup2, 1) nE nE) (nT 142 (.iconst 1, 1) nE nE)) (nT 145 (.aload_n 0, 1) (nT 144 (.iastore, 1) nE nE) nE)) (nT 152 (.iastore, 1) (nT 151 (.iconst 0, 1) (nT 149 (.bipush 30, 2) nE nE) nE) (nT 154 (.ireturn, 1) (nT 153 (.iload_n 1, 1) nE nE) nE))))
def i_X12_sign : Nat → Option (Instr × Nat) := (nT 5 (.if_icmp .ge 16, 3) (nT 1 (.aload_n 0, 1) (nT 0 (.iload_n 1, 1) nE nE) (nT 2 (.getfield 137, 3) nE nE)) (nT 22 (.ireturn, 1) (nT 21 (.iconst 0, 1) nE nE) nE))
def i_X12_clearBank : Nat → Option (Instr × Nat) := (nT 45 (.getfield 242, 3) (nT 21 (.getfield 27, 3) (nT 10 (.aload_n 0, 1) (nT 5 (.getfield 242, 3) (nT 1 (.getfield 20, 3) (nT 0 (.aload_n 0, 1) nE nE) (nT 4 (.aload_n 0, 1) nE nE)) (nT 9 (.iastore, 1) (nT 8 (.iconst 0, 1) nE nE) nE)) (nT 18 (.iconst 0, 1) (nT 14 (.aload_n 0, 1) (nT 11 (.getfield 24, 3) nE nE) (nT 15 (.getfield 242, 3) nE nE)) (nT 20 (.aload_n 0, 1) (nT 19 (.iastore, 1) nE nE) nE))) (nT 34 (.aload_n 0, 1) (nT 29 (.iastore, 1) (nT 25 (.getfield 242, 3) (nT 24 (.aload_n 0, 1) nE nE) (nT 28 (.iconst 0, 1) nE nE)) (nT 31 (.getfield 30, 3) (nT 30 (.aload_n 0, 1) nE nE) nE)) (nT 40 (.aload_n 0, 1) (nT 38 (.iconst 0, 1) (nT 35 (.getfield 242, 3) nE nE) (nT 39 (.iastore, 1) nE nE)) (nT 44 (.aload_n 0, 1) (nT 41 (.getfield 33, 3) nE nE) nE)))) (nT 69 (.bastore, 1) (nT 58 (.iconst 0, 1) (nT 51 (.getfield 57, 3) (nT 49 (.iastore, 1) (nT 48 (.iconst 0, 1) nE nE) (nT 50 (.aload_n 0, 1) nE nE)) (nT 55 (.getfield 242, 3) (nT 54 (.aload_n 0, 1) nE nE) nE)) (nT 64 (.aload_n 0, 1) (nT 60 (.aload_n 0, 1) (nT 59 (.bastore, 1) nE nE) (nT 61 (.getfield 61, 3) nE nE)) (nT 68 (.iconst 0, 1) (nT 65 (.getfield 242, 3) nE nE) nE))) (nT 80 (.aload_n 0, 1) (nT 75 (.getfield 242, 3) (nT 71 (.getfield 64, 3) (nT 70 (.aload_n 0, 1) nE nE) (nT 74 (.aload_n 0, 1) nE nE)) (nT 79 (.bastore, 1) (nT 78 (.iconst 0, 1) nE nE) nE)) (nT 88 (.imul, 1) (nT 84 (.aload_n 0, 1) (nT 81 (.sipush 560, 3) nE nE) (nT 85 (.getfield 242, 3) nE nE)) (nT 92 (.return_, 1) (nT 89 (.putfield 245, 3) nE nE) nE)))))
def i_X12_goOn : Nat → Option (Instr × Nat) := (nT 74 (.putfield 179, 3) (nT 58 (.aload_n 0, 1) (nT 8 (.aload_n 0, 1) (nT 2 (.getfield 179, 3) (nT 1 (.aload_n 0, 1) (nT 0 (.aload_n 0, 1) nE nE) nE) (nT 5 (.putfield 182, 3) nE nE)) (nT 13 (.getfield 137, 3) (nT 12 (.aload_n 0, 1) (nT 9 (.getfield 182, 3) nE nE) nE) (nT 16 (.if_icmp .ge 42, 3) nE nE))) (nT 67 (.aload_n 0, 1) (nT 63 (.invokevirtual 185, 3) (nT 60 (.getfield 182, 3) (nT 59 (.aload_n 0, 1) nE nE) nE) (nT 66 (.istore_n 1, 1) nE nE)) (nT 72 (.iconst 1, 1) (nT 69 (.getfield 182, 3) (nT 68 (.aload_n 0, 1) nE nE) nE) (nT 73 (.iadd, 1) nE nE)))) (nT 94 (.aload_n 0, 1) (nT 85 (.if_icmp .lt 27, 3) (nT 81 (.aload_n 0, 1) (nT 78 (.getfield 182, 3) (nT 77 (.aload_n 0, 1) nE nE) nE) (nT 82 (.getfield 137, 3) nE nE)) (nT 90 (.putfield 189, 3) (nT 89 (.iconst 0, 1) (nT 88 (.aload_n 0, 1) nE nE) nE) (nT 93 (.aload_n 0, 1) nE nE))) (nT 103 (.getfield 137, 3) (nT 101 (.aload_n 0, 1) (nT 98 (.putfield 182, 3) (nT 95 (.getfield 137, 3) nE nE) nE) (nT 102 (.aload_n 0, 1) nE nE)) (nT 109 (.goto 268, 3) (nT 106 (.putfield 179, 3) nE nE) (nT 377 (.return_, 1) nE nE)))))
def i_X12_isGood : Nat → Option (Instr × Nat) := (nT 7 (.iconst 1, 1) (nT 1 (.getfield 140, 3) (nT 0 (.aload_n 0, 1) nE nE) (nT 4 (.ifCond .ne 7, 3) nE nE)) (nT 12 (.ireturn, 1) (nT 8 (.goto 4, 3) nE nE) nE))
def i_X12_startAnew : Nat → Option (Instr × Nat) := (nT 75 (.getfield 251, 3) (nT 22 (.istore_n 1, 1) (nT 9 (.getfield 89, 3) (nT 3 (.bipush 33, 2) (nT 1 (.istore_n 1, 1) (nT 0 (.iconst 0, 1) nE nE) (nT 2 (.iload_n 1, 1) nE nE)) (nT 8 (.aload_n 0, 1) (nT 5 (.if_icmp .ge 16, 3) nE nE) nE)) (nT 15 (.iinc 1 1, 3) (nT 13 (.iconst 0, 1) (nT 12 (.iload_n 1, 1) nE nE) (nT 14 (.iastore, 1) nE nE)) (nT 21 (.iconst 0, 1) (nT 18 (.goto (-16), 3) nE nE) nE))) (nT 33 (.if_icmp .ge 31, 3) (nT 28 (.aload_n 0, 1) (nT 24 (.aload_n 0, 1) (nT 23 (.iload_n 1, 1) nE nE) (nT 25 (.getfield 24, 3) nE nE)) (nT 32 (.iaload, 1) (nT 29 (.getfield 251, 3) nE nE) nE)) (nT 70 (.aload_n 0, 1) (nT 65 (.getfield 89, 3) (nT 64 (.aload_n 0, 1) nE nE) (nT 68 (.bipush 32, 2) nE nE)) (nT 74 (.aload_n 0, 1) (nT 71 (.getfield 33, 3) nE nE) nE)))) (nT 97 (.putfield 374, 3) (nT 86 (.iconst 0, 1) (nT 81 (.iconst 0, 1) (nT 79 (.iastore, 1) (nT 78 (.iaload, 1) nE nE) (nT 80 (.aload_n 0, 1) nE nE)) (nT 85 (.aload_n 0, 1) (nT 82 (.putfield 365, 3) nE nE) nE)) (nT 92 (.putfield 371, 3) (nT 90 (.aload_n 0, 1) (nT 87 (.putfield 368, 3) nE nE) (nT 91 (.iconst 0, 1) nE nE)) (nT 96 (.iconst 0, 1) (nT 95 (.aload_n 0, 1) nE nE) nE))) (nT 108 (.getfield 128, 3) (nT 103 (.iconst 3, 1) (nT 101 (.istore_n 1, 1) (nT 100 (.iconst 0, 1) nE nE) (nT 102 (.iload_n 1, 1) nE nE)) (nT 107 (.aload_n 0, 1) (nT 104 (.if_icmp .ge 16, 3) nE nE) nE)) (nT 114 (.iinc 1 1, 3) (nT 112 (.iconst 0, 1) (nT 111 (.iload_n 1, 1) nE nE) (nT 113 (.bastore, 1) nE nE)) (nT 120 (.return_, 1) (nT 117 (.goto (-15), 3) nE nE) nE)))))
def i_X12_canJoin : Nat → Option (Instr × Nat) := (nT 5 (.ifCond .eq 28, 3) (nT 1 (.iload_n 1, 1) (nT 0 (.aload_n 0, 1) nE nE) (nT 2 (.invokevirtual 398, 3) nE nE)) (nT 34 (.ireturn, 1) (nT 33 (.iconst 0, 1) nE nE) nE))
def i_X12_isMember : Nat → Option (Instr × Nat) := (nT 6 (.iconst 1, 1) (nT 2 (.aload_n 0, 1) (nT 1 (.iconst 0, 1) (nT 0 (.iload_n 1, 1) nE nE) nE) (nT 3 (.invokevirtual 347, 3) nE nE)) (nT 8 (.invokestatic 350, 3) (nT 7 (.isub, 1) nE nE) (nT 11 (.ireturn, 1) nE nE)))
def i_X12_doesFit : Nat → Option (Instr × Nat) := (nT 4 (.getfield 371, 3) (nT 2 (.iload_n 3, 1) (nT 1 (.istore_n 3, 1) (nT 0 (.iconst 0, 1) nE nE) nE) (nT 3 (.aload_n 0, 1) nE nE)) (nT 101 (.iconst 1, 1) (nT 7 (.if_icmp .ge 94, 3) nE nE) (nT 102 (.ireturn, 1) nE nE)))
def i_X12_mayAll : Nat → Option (Instr × Nat) := (nT 5 (.ifCond .eq 19, 3) (nT 1 (.iload_n 1, 1) (nT 0 (.aload_n 0, 1) nE nE) (nT 2 (.invokevirtual 398, 3) nE nE)) (nT 25 (.ireturn, 1) (nT 24 (.iconst 0, 1) nE nE) nE))
def i_X12_times : Nat → Option (Instr × Nat) := (nT 9 (.iload_n 2, 1) (nT 3 (.istore_n 3, 1) (nT 1 (.istore_n 2, 1) (nT 0 (.iconst 1, 1) nE nE) (nT 2 (.iconst 0, 1) nE nE)) (nT 5 (.iload_n 1, 1) (nT 4 (.iload_n 3, 1) nE nE) (nT 6 (.if_icmp .ge 13, 3) nE nE))) (nT 13 (.iinc 3 1, 3) (nT 11 (.imul, 1) (nT 10 (.iload_n 0, 1) nE nE) (nT 12 (.istore_n 2, 1) nE nE)) (nT 19 (.iload_n 2, 1) (nT 16 (.goto (-12), 3) nE nE) (nT 20 (.ireturn, 1) nE nE))))
def i_X12_layChoice : Nat → Option (Instr × Nat) := (nT 8 (.iconst 1, 1) (nT 3 (.istore_n 3, 1) (nT 1 (.istore_n 2, 1) (nT 0 (.iload_n 1, 1) nE nE) (nT 2 (.iconst 0, 1) nE nE)) (nT 5 (.invokevirtual 347, 3) (nT 4 (.aload_n 0, 1) nE nE) nE)) (nT 14 (.ifCond .lt 73, 3) (nT 10 (.istore 4, 2) (nT 9 (.isub, 1) nE nE) (nT 12 (.iload 4, 2) nE nE)) (nT 88 (.ireturn, 1) (nT 87 (.iload_n 3, 1) nE nE) nE)))
def i_X12_passedByChoice : Nat → Option (Instr × Nat) := (nT 6 (.getfield 24, 3) (nT 3 (.istore_n 2, 1) (nT 1 (.istore_n 1, 1) (nT 0 (.iconst 0, 1) nE nE) (nT 2 (.iconst 0, 1) nE nE)) (nT 5 (.aload_n 0, 1) (nT 4 (.iload_n 2, 1) nE nE) nE)) (nT 14 (.if_icmp .ge 69, 3) (nT 10 (.getfield 251, 3) (nT 9 (.aload_n 0, 1) nE nE) (nT 13 (.iaload, 1) nE nE)) (nT 84 (.ireturn, 1) (nT 83 (.iload_n 1, 1) nE nE) nE)))
def i_X12_keepNow : Nat → Option (Instr × Nat) := (nT 13 (.aload_n 0, 1) (nT 5 (.if_icmp .ge 21, 3) (nT 2 (.iload_n 1, 1) (nT 1 (.istore_n 1, 1) (nT 0 (.iconst 0, 1) nE nE) nE) (nT 3 (.bipush 33, 2) nE nE)) (nT 9 (.getfield 95, 3) (nT 8 (.aload_n 0, 1) nE nE) (nT 12 (.iload_n 1, 1) nE nE))) (nT 19 (.iastore, 1) (nT 17 (.iload_n 1, 1) (nT 14 (.getfield 89, 3) nE nE) (nT 18 (.iaload, 1) nE nE)) (nT 23 (.goto (-21), 3) (nT 20 (.iinc 1 1, 3) nE nE) (nT 26 (.return_, 1) nE nE))))
def i_X12_shakeAll : Nat → Option (Instr × Nat) := (nT 37 (.iload 5, 2) (nT 17 (.iload 4, 2) (nT 8 (.if_icmp .ge 92, 3) (nT 3 (.istore 4, 2) (nT 1 (.istore_n 3, 1) (nT 0 (.iconst 0, 1) nE nE) (nT 2 (.iconst 0, 1) nE nE)) (nT 7 (.iload_n 2, 1) (nT 5 (.iload 4, 2) nE nE) nE)) (nT 14 (.iload_n 2, 1) (nT 12 (.bipush 6, 2) (nT 11 (.iload_n 1, 1) nE nE) nE) (nT 16 (.isub, 1) (nT 15 (.iconst 1, 1) nE nE) nE))) (nT 27 (.iconst 1, 1) (nT 23 (.idiv, 1) (nT 20 (.invokestatic 476, 3) (nT 19 (.isub, 1) nE nE) nE) (nT 26 (.irem, 1) (nT 24 (.bipush 6, 2) nE nE) nE)) (nT 31 (.aload_n 0, 1) (nT 29 (.istore 5, 2) (nT 28 (.isub, 1) nE nE) nE) (nT 35 (.iload 4, 2) (nT 32 (.getfield 104, 3) nE nE) nE)))) (nT 76 (.iload 5, 2) (nT 51 (.ifCond .ne 5, 3) (nT 45 (.aload_n 0, 1) (nT 40 (.iload 5, 2) (nT 39 (.iastore, 1) nE nE) (nT 42 (.ifCond .lt 14, 3) nE nE)) (nT 48 (.invokevirtual 434, 3) (nT 46 (.iload 5, 2) nE nE) nE)) (nT 56 (.iload 5, 2) (nT 55 (.ireturn, 1) (nT 54 (.iconst (-1), 1) nE nE) nE) (nT 75 (.iload_n 3, 1) (nT 58 (.ifCond .lt 17, 3) nE nE) nE))) (nT 89 (.invokevirtual 443, 3) (nT 86 (.iadd, 1) (nT 85 (.iconst 0, 1) (nT 78 (.ifCond .lt 7, 3) nE nE) nE) (nT 88 (.aload_n 0, 1) (nT 87 (.istore_n 3, 1) nE nE) nE)) (nT 97 (.goto (-92), 3) (nT 94 (.iinc 4 1, 3) (nT 92 (.istore 6, 2) nE nE) nE) (nT 101 (.ireturn, 1) (nT 100 (.iload_n 3, 1) nE nE) nE)))))
def i_X12_forced : Nat → Option (Instr × Nat) := (nT 6 (.getfield 24, 3) (nT 3 (.istore_n 2, 1) (nT 1 (.istore_n 1, 1) (nT 0 (.iconst 0, 1) nE nE) (nT 2 (.iconst 0, 1) nE nE)) (nT 5 (.aload_n 0, 1) (nT 4 (.iload_n 2, 1) nE nE) nE)) (nT 14 (.if_icmp .ge 50, 3) (nT 10 (.getfield 251, 3) (nT 9 (.aload_n 0, 1) nE nE) (nT 13 (.iaload, 1) nE nE)) (nT 65 (.ireturn, 1) (nT 64 (.iload_n 1, 1) nE nE) nE)))
def i_X12_bringBack : Nat → Option (Instr × Nat) := (nT 13 (.aload_n 0, 1) (nT 5 (.if_icmp .ge 21, 3) (nT 2 (.iload_n 1, 1) (nT 1 (.istore_n 1, 1) (nT 0 (.iconst 0, 1) nE nE) nE) (nT 3 (.bipush 33, 2) nE nE)) (nT 9 (.getfield 89, 3) (nT 8 (.aload_n 0, 1) nE nE) (nT 12 (.iload_n 1, 1) nE nE))) (nT 19 (.iastore, 1) (nT 17 (.iload_n 1, 1) (nT 14 (.getfield 95, 3) nE nE) (nT 18 (.iaload, 1) nE nE)) (nT 23 (.goto (-21), 3) (nT 20 (.iinc 1 1, 3) nE nE) (nT 26 (.return_, 1) nE nE))))
def i_X12_canShake : Nat → Option (Instr × Nat) := (nT 5 (.ifCond .eq 29, 3) (nT 1 (.iload_n 1, 1) (nT 0 (.aload_n 0, 1) nE nE) (nT 2 (.invokevirtual 398, 3) nE nE)) (nT 35 (.ireturn, 1) (nT 34 (.iconst 0, 1) nE nE) nE))
def i_X12_mayVote : Nat → Option (Instr × Nat) := (nT 5 (.ifCond .eq 44, 3) (nT 1 (.iload_n 1, 1) (nT 0 (.aload_n 0, 1) nE nE) (nT 2 (.invokevirtual 410, 3) nE nE)) (nT 50 (.ireturn, 1) (nT 49 (.iconst 0, 1) nE nE) nE))
def i_X5_opensOf : Nat → Option (Instr × Nat) := (nT 5 (.ifCond .eq 12, 3) (nT 1 (.iload_n 1, 1) (nT 0 (.aload_n 0, 1) nE nE) (nT 2 (.invokevirtual 64, 3) nE nE)) (nT 18 (.ireturn, 1) (nT 17 (.iconst 0, 1) nE nE) nE))
def i_X1_votersFor : Nat → Option (Instr × Nat) := (nT 11 (.istore_n 2, 1) (nT 5 (.getfield 42, 3) (nT 1 (.aload_n 0, 1) (nT 0 (.iconst 1, 1) nE nE) (nT 2 (.getfield 9, 3) nE nE)) (nT 9 (.iconst 1, 1) (nT 8 (.ishl, 1) nE nE) (nT 10 (.isub, 1) nE nE))) (nT 17 (.ifCond .eq 29, 3) (nT 13 (.iload_n 1, 1) (nT 12 (.aload_n 0, 1) nE nE) (nT 14 (.invokevirtual 46, 3) nE nE)) (nT 47 (.ireturn, 1) (nT 46 (.iconst 0, 1) nE nE) nE)))
def i_X1_daysLeft : Nat → Option (Instr × Nat) := (nT 8 (.aload_n 0, 1) (nT 4 (.iload_n 1, 1) (nT 1 (.getfield 9, 3) (nT 0 (.aload_n 0, 1) nE nE) nE) (nT 5 (.invokevirtual 62, 3) nE nE)) (nT 15 (.isub, 1) (nT 12 (.getfield 65, 3) (nT 9 (.getfield 15, 3) nE nE) nE) (nT 16 (.ireturn, 1) nE nE)))
def i_X2_mayAllVote : Nat → Option (Instr × Nat) := (nT 5 (.invokevirtual 116, 3) (nT 1 (.getfield 9, 3) (nT 0 (.aload_n 0, 1) nE nE) (nT 4 (.iload_n 1, 1) nE nE)) (nT 49 (.iconst 0, 1) (nT 8 (.ifCond .eq 41, 3) nE nE) (nT 50 (.ireturn, 1) nE nE)))
def i_J7_fill_53178 : Nat → Option (Instr × Nat) := (nT 7 (.if_icmp .ge 13, 3) (nT 3 (.arraylength, 1) (nT 1 (.istore_n 2, 1) (nT 0 (.iconst 0, 1) nE nE) (nT 2 (.aload_n 0, 1) nE nE)) (nT 5 (.iload_n 2, 1) (nT 4 (.istore_n 3, 1) nE nE) (nT 6 (.iload_n 3, 1) nE nE))) (nT 13 (.iastore, 1) (nT 11 (.iload_n 2, 1) (nT 10 (.aload_n 0, 1) nE nE) (nT 12 (.iload_n 1, 1) nE nE)) (nT 17 (.goto (-12), 3) (nT 14 (.iinc 2 1, 3) nE nE) (nT 20 (.return_, 1) nE nE))))
def i_X3_forcingSets : Nat → Option (Instr × Nat) := (nT 15 (.iload 5, 2) (nT 6 (.iload_n 1, 1) (nT 2 (.aload_n 0, 1) (nT 1 (.lstore_n 2, 1) (nT 0 (.lconst 0, 1) nE nE) nE) (nT 3 (.getfield 49, 3) nE nE)) (nT 12 (.iconst 0, 1) (nT 10 (.istore 4, 2) (nT 7 (.invokevirtual 79, 3) nE nE) nE) (nT 13 (.istore 5, 2) nE nE))) (nT 26 (.iload_n 1, 1) (nT 22 (.aload_n 0, 1) (nT 19 (.if_icmp .ge 59, 3) (nT 17 (.bipush 64, 2) nE nE) nE) (nT 23 (.getfield 49, 3) nE nE)) (nT 78 (.lload_n 2, 1) (nT 30 (.ifCond .eq 48, 3) (nT 27 (.invokevirtual 92, 3) nE nE) nE) (nT 79 (.lreturn, 1) nE nE))))
def i_X3_extendPlan : Nat → Option (Instr × Nat) := (nT 22 (.getfield 37, 3) (nT 5 (.getfield 72, 3) (nT 1 (.getfield 85, 3) (nT 0 (.aload_n 0, 1) nE nE) (nT 4 (.aload_n 0, 1) nE nE)) (nT 20 (.iload_n 1, 1) (nT 8 (.if_icmp .ne 12, 3) nE nE) (nT 21 (.aload_n 0, 1) nE nE))) (nT 38 (.iload_n 2, 1) (nT 28 (.if_icmp .ge 9, 3) (nT 25 (.getfield 108, 3) nE nE) (nT 37 (.aload_n 0, 1) nE nE)) (nT 42 (.return_, 1) (nT 39 (.invokevirtual 111, 3) nE nE) nE)))
def i_X3_fillShaken : Nat → Option (Instr × Nat) := (nT 12 (.lconst 0, 1) (nT 6 (.lastore, 1) (nT 4 (.iload_n 1, 1) (nT 1 (.getfield 25, 3) (nT 0 (.aload_n 0, 1) nE nE) nE) (nT 5 (.lconst 1, 1) nE nE)) (nT 8 (.getfield 21, 3) (nT 7 (.aload_n 0, 1) nE nE) (nT 11 (.iload_n 1, 1) nE nE))) (nT 18 (.iload_n 1, 1) (nT 14 (.aload_n 0, 1) (nT 13 (.lastore, 1) nE nE) (nT 15 (.getfield 49, 3) nE nE)) (nT 22 (.ifCond .ne 4, 3) (nT 19 (.invokevirtual 92, 3) nE nE) (nT 25 (.return_, 1) nE nE))))
def i_X3_weighSabotage : Nat → Option (Instr × Nat) := (nT 72 (.iastore, 1) (nT 34 (.bipush 6, 2) (nT 15 (.isub, 1) (nT 9 (.istore_n 3, 1) (nT 4 (.iconst 0, 1) (nT 1 (.getfield 18, 3) (nT 0 (.aload_n 0, 1) nE nE) nE) (nT 8 (.iconst 0, 1) (nT 5 (.invokestatic 66, 3) nE nE) nE)) (nT 13 (.iload_n 2, 1) (nT 11 (.istore 4, 2) (nT 10 (.iload_n 1, 1) nE nE) nE) (nT 14 (.iconst 1, 1) nE nE))) (nT 27 (.irem, 1) (nT 20 (.ifCond .lt 62, 3) (nT 18 (.iload 5, 2) (nT 16 (.istore 5, 2) nE nE) nE) (nT 25 (.bipush 6, 2) (nT 23 (.iload 4, 2) nE nE) nE)) (nT 30 (.istore 6, 2) (nT 29 (.isub, 1) (nT 28 (.iconst 1, 1) nE nE) nE) (nT 32 (.iload 4, 2) nE nE)))) (nT 55 (.iconst 5, 1) (nT 45 (.iload 6, 2) (nT 39 (.aload_n 0, 1) (nT 37 (.istore 4, 2) (nT 36 (.idiv, 1) nE nE) nE) (nT 43 (.iload 5, 2) (nT 40 (.getfield 15, 3) nE nE) nE)) (nT 50 (.ifCond .lt 26, 3) (nT 48 (.iload 6, 2) (nT 47 (.iastore, 1) nE nE) nE) (nT 53 (.iload 6, 2) nE nE))) (nT 66 (.iaload, 1) (nT 60 (.getfield 18, 3) (nT 59 (.aload_n 0, 1) (nT 56 (.if_icmp .ge 20, 3) nE nE) nE) (nT 65 (.dup2, 1) (nT 63 (.iload 6, 2) nE nE) nE)) (nT 70 (.ishl, 1) (nT 68 (.iload 5, 2) (nT 67 (.iconst 1, 1) nE nE) nE) (nT 71 (.ior, 1) nE nE))))) (nT 110 (.ifCond .ne 4, 3) (nT 95 (.iload 5, 2) (nT 85 (.iload 5, 2) (nT 79 (.goto (-61), 3) (nT 76 (.iinc 5 (-1), 3) (nT 73 (.iinc 3 1, 3) nE nE) nE) (nT 83 (.istore 5, 2) (nT 82 (.iconst 0, 1) nE nE) nE)) (nT 91 (.aload_n 0, 1) (nT 88 (.if_icmp .ge 32, 3) (nT 87 (.iconst 5, 1) nE nE) nE) (nT 92 (.getfield 25, 3) nE nE))) (nT 105 (.lshr, 1) (nT 99 (.getfield 18, 3) (nT 98 (.aload_n 0, 1) (nT 97 (.laload, 1) nE nE) nE) (nT 104 (.iaload, 1) (nT 102 (.iload 5, 2) nE nE) nE)) (nT 108 (.lconst 0, 1) (nT 107 (.land, 1) (nT 106 (.lconst 1, 1) nE nE) nE) (nT 109 (.lcmp, 1) nE nE)))) (nT 152 (.aload_n 0, 1) (nT 124 (.istore 5, 2) (nT 117 (.goto (-32), 3) (nT 114 (.iinc 5 1, 3) (nT 113 (.return_, 1) nE nE) nE) (nT 121 (.invokevirtual 115, 3) (nT 120 (.aload_n 0, 1) nE nE) nE)) (nT 129 (.getfield 85, 3) (nT 128 (.aload_n 0, 1) (nT 126 (.iload 5, 2) nE nE) nE) (nT 132 (.if_icmp .lt 20, 3) nE nE))) (nT 160 (.putfield 105, 3) (nT 158 (.aload_n 0, 1) (nT 155 (.putfield 85, 3) (nT 153 (.iload 5, 2) nE nE) nE) (nT 159 (.iload_n 3, 1) nE nE)) (nT 165 (.invokevirtual 119, 3) (nT 164 (.iload_n 2, 1) (nT 163 (.aload_n 0, 1) nE nE) nE) (nT 168 (.return_, 1) nE nE))))))
def i_X3_weighPlan : Nat → Option (Instr × Nat) := (nT 31 (.putfield 85, 3) (nT 6 (.aload_n 0, 1) (nT 4 (.istore_n 2, 1) (nT 1 (.invokevirtual 115, 3) (nT 0 (.aload_n 0, 1) nE nE) nE) (nT 5 (.iload_n 2, 1) nE nE)) (nT 29 (.aload_n 0, 1) (nT 10 (.if_icmp .gt 19, 3) (nT 7 (.getfield 85, 3) nE nE) nE) (nT 30 (.iload_n 2, 1) nE nE))) (nT 40 (.aload_n 0, 1) (nT 36 (.putfield 105, 3) (nT 35 (.iload_n 1, 1) (nT 34 (.aload_n 0, 1) nE nE) nE) (nT 39 (.aload_n 0, 1) nE nE)) (nT 47 (.invokevirtual 119, 3) (nT 44 (.getfield 108, 3) (nT 41 (.getfield 37, 3) nE nE) nE) (nT 50 (.return_, 1) nE nE))))
def i_X3_countForced : Nat → Option (Instr × Nat) := (nT 17 (.getfield 18, 3) (nT 6 (.if_icmp .ge 28, 3) (nT 3 (.istore_n 2, 1) (nT 1 (.istore_n 1, 1) (nT 0 (.iconst 0, 1) nE nE) (nT 2 (.iconst 0, 1) nE nE)) (nT 5 (.iconst 5, 1) (nT 4 (.iload_n 2, 1) nE nE) nE)) (nT 14 (.iload_n 2, 1) (nT 10 (.aload_n 0, 1) (nT 9 (.iload_n 1, 1) nE nE) (nT 11 (.getfield 21, 3) nE nE)) (nT 16 (.aload_n 0, 1) (nT 15 (.laload, 1) nE nE) nE))) (nT 26 (.iadd, 1) (nT 23 (.lconst 1, 1) (nT 21 (.iaload, 1) (nT 20 (.iload_n 2, 1) nE nE) (nT 22 (.lshr, 1) nE nE)) (nT 25 (.l2i, 1) (nT 24 (.land, 1) nE nE) nE)) (nT 31 (.goto (-27), 3) (nT 28 (.iinc 2 1, 3) (nT 27 (.istore_n 1, 1) nE nE) nE) (nT 35 (.ireturn, 1) (nT 34 (.iload_n 1, 1) nE nE) nE))))
def i_X3_layTried : Nat → Option (Instr × Nat) := (nT 10 (.bipush 6, 2) (nT 5 (.aload_n 0, 1) (nT 1 (.getfield 15, 3) (nT 0 (.aload_n 0, 1) nE nE) (nT 4 (.iconst 0, 1) nE nE)) (nT 9 (.iconst 0, 1) (nT 6 (.getfield 9, 3) nE nE) nE)) (nT 16 (.iload_n 1, 1) (nT 15 (.aload_n 0, 1) (nT 12 (.invokestatic 60, 3) nE nE) nE) (nT 20 (.return_, 1) (nT 17 (.putfield 56, 3) nE nE) nE)))
def i_X5_sumOf : Nat → Option (Instr × Nat) := (nT 11 (.iload_n 3, 1) (nT 4 (.iload_n 3, 1) (nT 2 (.iconst 0, 1) (nT 1 (.istore_n 2, 1) (nT 0 (.iconst 0, 1) nE nE) nE) (nT 3 (.istore_n 3, 1) nE nE)) (nT 7 (.if_icmp .ge 23, 3) (nT 6 (.arraylength, 1) (nT 5 (.aload_n 0, 1) nE nE) nE) (nT 10 (.iload_n 1, 1) nE nE))) (nT 24 (.iinc 3 1, 3) (nT 14 (.iand, 1) (nT 13 (.iconst 1, 1) (nT 12 (.ishr, 1) nE nE) nE) (nT 15 (.ifCond .eq 9, 3) nE nE)) (nT 30 (.iload_n 2, 1) (nT 27 (.goto (-23), 3) nE nE) (nT 31 (.ireturn, 1) nE nE))))
def i_X4_clear : Nat → Option (Instr × Nat) := (nT 7 (.putfield 26, 3) (nT 2 (.putfield 22, 3) (nT 1 (.iconst 0, 1) (nT 0 (.aload_n 0, 1) nE nE) nE) (nT 6 (.iconst 0, 1) (nT 5 (.aload_n 0, 1) nE nE) nE)) (nT 12 (.putfield 29, 3) (nT 11 (.iconst 0, 1) (nT 10 (.aload_n 0, 1) nE nE) nE) (nT 15 (.return_, 1) nE nE)))
def i_X4_copyFrom : Nat → Option (Instr × Nat) := (nT 26 (.sipush 269, 3) (nT 13 (.invokestatic 33, 3) (nT 5 (.aload_n 0, 1) (nT 1 (.getfield 9, 3) (nT 0 (.aload_n 1, 1) nE nE) (nT 4 (.iconst 0, 1) nE nE)) (nT 9 (.iconst 0, 1) (nT 6 (.getfield 9, 3) nE nE) (nT 10 (.sipush 269, 3) nE nE))) (nT 21 (.aload_n 0, 1) (nT 17 (.getfield 13, 3) (nT 16 (.aload_n 1, 1) nE nE) (nT 20 (.iconst 0, 1) nE nE)) (nT 25 (.iconst 0, 1) (nT 22 (.getfield 13, 3) nE nE) nE))) (nT 42 (.getfield 26, 3) (nT 34 (.getfield 22, 3) (nT 32 (.aload_n 0, 1) (nT 29 (.invokestatic 33, 3) nE nE) (nT 33 (.aload_n 1, 1) nE nE)) (nT 40 (.aload_n 0, 1) (nT 37 (.putfield 22, 3) nE nE) (nT 41 (.aload_n 1, 1) nE nE))) (nT 50 (.getfield 29, 3) (nT 48 (.aload_n 0, 1) (nT 45 (.putfield 26, 3) nE nE) (nT 49 (.aload_n 1, 1) nE nE)) (nT 56 (.return_, 1) (nT 53 (.putfield 29, 3) nE nE) nE))))
def i_X4_init : Nat → Option (Instr × Nat) := (nT 19 (.putfield 13, 3) (nT 8 (.newarray .int, 2) (nT 4 (.aload_n 0, 1) (nT 1 (.invokespecial 1, 3) (nT 0 (.aload_n 0, 1) nE nE) nE) (nT 5 (.sipush 269, 3) nE nE)) (nT 14 (.sipush 269, 3) (nT 13 (.aload_n 0, 1) (nT 10 (.putfield 9, 3) nE nE) nE) (nT 17 (.newarray .int, 2) nE nE))) (nT 30 (.aload_n 0, 1) (nT 25 (.newarray .int, 2) (nT 23 (.bipush 30, 2) (nT 22 (.aload_n 0, 1) nE nE) nE) (nT 27 (.putfield 16, 3) nE nE)) (nT 35 (.putfield 19, 3) (nT 33 (.newarray .int, 2) (nT 31 (.bipush 6, 2) nE nE) nE) (nT 38 (.return_, 1) nE nE))))
def i_X6_hasCell : Nat → Option (Instr × Nat) := (nT 13 (.iload_n 1, 1) (nT 5 (.iconst 5, 1) (nT 1 (.ifCond .lt 22, 3) (nT 0 (.iload_n 0, 1) nE nE) (nT 4 (.iload_n 0, 1) nE nE)) (nT 9 (.iload_n 1, 1) (nT 6 (.if_icmp .ge 17, 3) nE nE) (nT 10 (.ifCond .lt 13, 3) nE nE))) (nT 20 (.goto 4, 3) (nT 16 (.if_icmp .ge 7, 3) (nT 14 (.bipush 6, 2) nE nE) (nT 19 (.iconst 1, 1) nE nE)) (nT 24 (.ireturn, 1) (nT 23 (.iconst 0, 1) nE nE) nE)))
def i_X5_shelfOf : Nat → Option (Instr × Nat) := (nT 5 (.ifCond .eq 12, 3) (nT 1 (.iload_n 1, 1) (nT 0 (.aload_n 0, 1) nE nE) (nT 2 (.invokevirtual 64, 3) nE nE)) (nT 18 (.ireturn, 1) (nT 17 (.iconst 0, 1) nE nE) nE))
def i_X6_put : Nat → Option (Instr × Nat) := (nT 13 (.bipush 6, 2) (nT 5 (.ifCond .eq 15, 3) (nT 1 (.iload_n 2, 1) (nT 0 (.iload_n 1, 1) nE nE) (nT 2 (.invokestatic 15, 3) nE nE)) (nT 9 (.getfield 11, 3) (nT 8 (.aload_n 0, 1) nE nE) (nT 12 (.iload_n 1, 1) nE nE))) (nT 18 (.iload_n 3, 1) (nT 16 (.iload_n 2, 1) (nT 15 (.imul, 1) nE nE) (nT 17 (.iadd, 1) nE nE)) (nT 20 (.return_, 1) (nT 19 (.iastore, 1) nE nE) nE)))
def i_X10_startEmpty : Nat → Option (Instr × Nat) := (nT 15 (.aload_n 0, 1) (nT 6 (.iconst 0, 1) (nT 2 (.putfield 21, 3) (nT 1 (.iconst 0, 1) (nT 0 (.aload_n 0, 1) nE nE) nE) (nT 5 (.aload_n 0, 1) nE nE)) (nT 11 (.iconst 0, 1) (nT 10 (.aload_n 0, 1) (nT 7 (.putfield 25, 3) nE nE) nE) (nT 12 (.putfield 28, 3) nE nE))) (nT 22 (.putfield 34, 3) (nT 20 (.aload_n 0, 1) (nT 17 (.putfield 31, 3) (nT 16 (.iload_n 1, 1) nE nE) nE) (nT 21 (.iload_n 2, 1) nE nE)) (nT 27 (.putfield 40, 3) (nT 26 (.iload_n 3, 1) (nT 25 (.aload_n 0, 1) nE nE) nE) (nT 30 (.return_, 1) nE nE))))
def i_X10_breathe : Nat → Option (Instr × Nat) := (nT 17 (.invokestatic 51, 3) (nT 8 (.aload_n 0, 1) (nT 4 (.aload_n 0, 1) (nT 1 (.sipush 999, 3) (nT 0 (.aload_n 0, 1) nE nE) nE) (nT 5 (.getfield 21, 3) nE nE)) (nT 13 (.invokevirtual 45, 3) (nT 12 (.iload_n 1, 1) (nT 9 (.getfield 9, 3) nE nE) nE) (nT 16 (.iadd, 1) nE nE))) (nT 28 (.iload_n 1, 1) (nT 24 (.dup, 1) (nT 23 (.aload_n 0, 1) (nT 20 (.putfield 21, 3) nE nE) nE) (nT 25 (.getfield 25, 3) nE nE)) (nT 30 (.putfield 25, 3) (nT 29 (.ior, 1) nE nE) (nT 33 (.return_, 1) nE nE))))
def i_X10_rest : Nat → Option (Instr × Nat) := (nT 25 (.aload_n 0, 1) (nT 9 (.getfield 21, 3) (nT 3 (.iload_n 1, 1) (nT 1 (.istore_n 2, 1) (nT 0 (.iconst 0, 1) nE nE) (nT 2 (.iload_n 2, 1) nE nE)) (nT 7 (.aload_n 0, 1) (nT 4 (.if_icmp .ge 53, 3) nE nE) (nT 8 (.dup, 1) nE nE))) (nT 17 (.putfield 21, 3) (nT 13 (.invokevirtual 76, 3) (nT 12 (.aload_n 0, 1) nE nE) (nT 16 (.isub, 1) nE nE)) (nT 21 (.dup, 1) (nT 20 (.aload_n 0, 1) nE nE) (nT 22 (.getfield 28, 3) nE nE)))) (nT 42 (.dup, 1) (nT 33 (.goto 4, 3) (nT 29 (.ifCond .ne 7, 3) (nT 26 (.getfield 25, 3) nE nE) (nT 32 (.iconst 0, 1) nE nE)) (nT 38 (.putfield 28, 3) (nT 37 (.iadd, 1) nE nE) (nT 41 (.aload_n 0, 1) nE nE))) (nT 48 (.putfield 40, 3) (nT 46 (.iconst 1, 1) (nT 43 (.getfield 40, 3) nE nE) (nT 47 (.iadd, 1) nE nE)) (nT 54 (.goto (-52), 3) (nT 51 (.iinc 2 1, 3) nE nE) (nT 57 (.return_, 1) nE nE)))))
def i_X7_fadeStrangeJars : Nat → Option (Instr × Nat) := (nT 41 (.iload_n 2, 1) (nT 21 (.aload_n 0, 1) (nT 9 (.iconst 1, 1) (nT 3 (.bipush 64, 2) (nT 1 (.istore_n 1, 1) (nT 0 (.iconst 0, 1) nE nE) (nT 2 (.iload_n 1, 1) nE nE)) (nT 8 (.iload_n 1, 1) (nT 5 (.if_icmp .ge 77, 3) nE nE) nE)) (nT 14 (.getfield 52, 3) (nT 11 (.getfield 33, 3) (nT 10 (.aload_n 0, 1) nE nE) nE) (nT 18 (.if_icmp .ge 64, 3) (nT 17 (.ishl, 1) nE nE) nE))) (nT 31 (.aload_n 0, 1) (nT 26 (.iconst 0, 1) (nT 25 (.iconst 0, 1) (nT 22 (.getfield 37, 3) nE nE) nE) (nT 28 (.invokevirtual 61, 3) (nT 27 (.iconst 0, 1) nE nE) nE)) (nT 36 (.invokevirtual 67, 3) (nT 35 (.iload_n 1, 1) (nT 32 (.getfield 37, 3) nE nE) nE) (nT 40 (.istore_n 2, 1) (nT 39 (.iconst 0, 1) nE nE) nE)))) (nT 62 (.aload_n 0, 1) (nT 52 (.aaload, 1) (nT 47 (.aload_n 0, 1) (nT 44 (.if_icmp .gt 32, 3) (nT 42 (.bipush 20, 2) nE nE) nE) (nT 51 (.iload_n 1, 1) (nT 48 (.getfield 30, 3) nE nE) nE)) (nT 55 (.getfield 37, 3) (nT 54 (.aload_n 0, 1) (nT 53 (.iload_n 2, 1) nE nE) nE) (nT 61 (.iastore, 1) (nT 58 (.getfield 71, 3) nE nE) nE))) (nT 76 (.iinc 1 1, 3) (nT 67 (.invokevirtual 74, 3) (nT 66 (.iconst 1, 1) (nT 63 (.getfield 37, 3) nE nE) nE) (nT 73 (.goto (-32), 3) (nT 70 (.iinc 2 1, 3) nE nE) nE)) (nT 83 (.iconst 1, 1) (nT 82 (.aload_n 0, 1) (nT 79 (.goto (-77), 3) nE nE) nE) (nT 87 (.return_, 1) (nT 84 (.putfield 45, 3) nE nE) nE)))))
def i_X7_agrees : Nat → Option (Instr × Nat) := (nT 4 (.getfield 41, 3) (nT 2 (.iload_n 3, 1) (nT 1 (.istore_n 3, 1) (nT 0 (.iconst 0, 1) nE nE) nE) (nT 3 (.aload_n 0, 1) nE nE)) (nT 128 (.iconst 1, 1) (nT 7 (.if_icmp .ge 121, 3) nE nE) (nT 129 (.ireturn, 1) nE nE)))
def i_X5_clear : Nat → Option (Instr × Nat) := (nT 14 (.putfield 41, 3) (nT 8 (.iconst 0, 1) (nT 4 (.invokevirtual 34, 3) (nT 1 (.getfield 30, 3) (nT 0 (.aload_n 0, 1) nE nE) nE) (nT 7 (.aload_n 0, 1) nE nE)) (nT 12 (.aload_n 0, 1) (nT 9 (.putfield 37, 3) nE nE) (nT 13 (.iconst 0, 1) nE nE))) (nT 22 (.aload_n 0, 1) (nT 18 (.iconst 0, 1) (nT 17 (.aload_n 0, 1) nE nE) (nT 19 (.putfield 44, 3) nE nE)) (nT 24 (.putfield 47, 3) (nT 23 (.iconst 0, 1) nE nE) (nT 27 (.return_, 1) nE nE))))
def i_X9_start : Nat → Option (Instr × Nat) := (nT 5 (.aload_n 0, 1) (nT 1 (.iconst 0, 1) (nT 0 (.aload_n 0, 1) nE nE) (nT 2 (.putfield 19, 3) nE nE)) (nT 9 (.return_, 1) (nT 6 (.invokevirtual 22, 3) nE nE) nE))
def i_X9_byteAt : Nat → Option (Instr × Nat) := (nT 6 (.getfield 15, 3) (nT 4 (.iload_n 1, 1) (nT 1 (.ifCond .lt 27, 3) (nT 0 (.iload_n 1, 1) nE nE) nE) (nT 5 (.aload_n 0, 1) nE nE)) (nT 28 (.iconst 0, 1) (nT 9 (.if_icmp .ge 19, 3) nE nE) (nT 29 (.ireturn, 1) nE nE)))
def i_X9_advance : Nat → Option (Instr × Nat) := (nT 63 (.invokevirtual 25, 3) (nT 51 (.aload_n 0, 1) (nT 5 (.getfield 15, 3) (nT 1 (.getfield 19, 3) (nT 0 (.aload_n 0, 1) nE nE) (nT 4 (.aload_n 0, 1) nE nE)) (nT 50 (.aload_n 0, 1) (nT 8 (.if_icmp .ge 42, 3) nE nE) nE)) (nT 58 (.aload_n 0, 1) (nT 55 (.putfield 29, 3) (nT 52 (.getfield 19, 3) nE nE) nE) (nT 60 (.getfield 19, 3) (nT 59 (.aload_n 0, 1) nE nE) nE))) (nT 75 (.if_icmp .lt 11, 3) (nT 68 (.getfield 19, 3) (nT 67 (.aload_n 0, 1) (nT 66 (.istore_n 1, 1) nE nE) nE) (nT 72 (.getfield 15, 3) (nT 71 (.aload_n 0, 1) nE nE) nE)) (nT 80 (.putfield 32, 3) (nT 79 (.iconst 0, 1) (nT 78 (.aload_n 0, 1) nE nE) nE) (nT 140 (.return_, 1) (nT 83 (.goto 57, 3) nE nE) nE))))
def i_L_law : Nat → Option (Instr × Nat) := (nT 792 (.iaload, 1) (nT 477 (.iadd, 1) (nT 333 (.aload_n 0, 1) (nT 256 (.iconst 1, 1) (nT 228 (.iadd, 1) (nT 21 (.bipush 6, 2) (nT 12 (.invokespecial 12, 3) (nT 7 (.astore_n 1, 1) (nT 3 (.dup, 1) (nT 0 (.new 7, 3) nE nE) (nT 4 (.invokespecial 9, 3) nE nE)) (nT 11 (.dup, 1) (nT 8 (.new 10, 3) nE nE) nE)) (nT 18 (.iload_n 3, 1) (nT 16 (.iconst 0, 1) (nT 15 (.astore_n 2, 1) nE nE) (nT 17 (.istore_n 3, 1) nE nE)) (nT 20 (.arraylength, 1) (nT 19 (.aload_n 0, 1) nE nE) nE))) (nT 32 (.iand, 1) (nT 28 (.iload_n 3, 1) (nT 24 (.if_icmp .gt 1384, 3) (nT 23 (.isub, 1) nE nE) (nT 27 (.aload_n 0, 1) nE nE)) (nT 30 (.bipush 63, 2) (nT 29 (.iaload, 1) nE nE) nE)) (nT 225 (.aload_n 0, 1) (nT 224 (.aload_n 1, 1) (nT 33 (.tableswitch 1369 0 43 #[191, 254, 277, 290, 313, 346, 379, 412, 435, 468, 501, 514, 527, 540, 573, 596, 609, 642, 675, 688, 731, 754, 787, 810, 853, 896, 939, 962, 985, 1008, 1021, 1034, 1047, 1060, 1083, 1106, 1165, 1188, 1211, 1234, 1267, 1300, 1323, 1346], 191) nE nE) nE) (nT 227 (.iconst 1, 1) (nT 226 (.iload_n 3, 1) nE nE) nE)))) (nT 241 (.iload_n 3, 1) (nT 235 (.aload_n 0, 1) (nT 232 (.iconst 2, 1) (nT 230 (.aload_n 0, 1) (nT 229 (.iaload, 1) nE nE) (nT 231 (.iload_n 3, 1) nE nE)) (nT 234 (.iaload, 1) (nT 233 (.iadd, 1) nE nE) nE)) (nT 238 (.iadd, 1) (nT 237 (.iconst 3, 1) (nT 236 (.iload_n 3, 1) nE nE) nE) (nT 240 (.aload_n 0, 1) (nT 239 (.iaload, 1) nE nE) nE))) (nT 248 (.iadd, 1) (nT 245 (.aload_n 0, 1) (nT 243 (.iadd, 1) (nT 242 (.iconst 4, 1) nE nE) (nT 244 (.iaload, 1) nE nE)) (nT 247 (.iconst 5, 1) (nT 246 (.iload_n 3, 1) nE nE) nE)) (nT 253 (.aload_n 2, 1) (nT 250 (.invokevirtual 13, 3) (nT 249 (.iaload, 1) nE nE) nE) (nT 255 (.iload_n 3, 1) (nT 254 (.aload_n 0, 1) nE nE) nE))))) (nT 289 (.iload_n 3, 1) (nT 270 (.iload_n 3, 1) (nT 263 (.iaload, 1) (nT 260 (.iload_n 3, 1) (nT 258 (.iaload, 1) (nT 257 (.iadd, 1) nE nE) (nT 259 (.aload_n 0, 1) nE nE)) (nT 262 (.iadd, 1) (nT 261 (.iconst 2, 1) nE nE) nE)) (nT 267 (.iadd, 1) (nT 265 (.iload_n 3, 1) (nT 264 (.aload_n 0, 1) nE nE) (nT 266 (.iconst 3, 1) nE nE)) (nT 269 (.aload_n 0, 1) (nT 268 (.iaload, 1) nE nE) nE))) (nT 277 (.iadd, 1) (nT 274 (.aload_n 0, 1) (nT 272 (.iadd, 1) (nT 271 (.iconst 4, 1) nE nE) (nT 273 (.iaload, 1) nE nE)) (nT 276 (.iconst 5, 1) (nT 275 (.iload_n 3, 1) nE nE) nE)) (nT 282 (.if_icmp .eq 1120, 3) (nT 279 (.invokevirtual 17, 3) (nT 278 (.iaload, 1) nE nE) nE) (nT 288 (.aload_n 0, 1) (nT 287 (.aload_n 1, 1) nE nE) nE)))) (nT 310 (.aload_n 1, 1) (nT 298 (.iload_n 3, 1) (nT 293 (.invokevirtual 18, 3) (nT 291 (.iadd, 1) (nT 290 (.iconst 1, 1) nE nE) (nT 292 (.iaload, 1) nE nE)) (nT 297 (.aload_n 0, 1) (nT 296 (.aload_n 2, 1) nE nE) nE)) (nT 301 (.iaload, 1) (nT 300 (.iadd, 1) (nT 299 (.iconst 1, 1) nE nE) nE) (nT 305 (.if_icmp .eq 1097, 3) (nT 302 (.invokevirtual 22, 3) nE nE) nE))) (nT 325 (.iload_n 3, 1) (nT 318 (.if_icmp .eq 1084, 3) (nT 314 (.aload_n 2, 1) (nT 311 (.invokevirtual 23, 3) nE nE) (nT 315 (.invokevirtual 27, 3) nE nE)) (nT 324 (.aload_n 0, 1) (nT 323 (.aload_n 1, 1) nE nE) nE)) (nT 328 (.iaload, 1) (nT 327 (.iadd, 1) (nT 326 (.iconst 1, 1) nE nE) nE) (nT 332 (.aload_n 2, 1) (nT 329 (.invokevirtual 28, 3) nE nE) nE)))))) (nT 402 (.iadd, 1) (nT 368 (.iconst 2, 1) (nT 353 (.iload_n 3, 1) (nT 346 (.aload_n 1, 1) (nT 337 (.iaload, 1) (nT 335 (.iconst 1, 1) (nT 334 (.iload_n 3, 1) nE nE) (nT 336 (.iadd, 1) nE nE)) (nT 341 (.if_icmp .eq 1061, 3) (nT 338 (.invokevirtual 31, 3) nE nE) nE)) (nT 350 (.iadd, 1) (nT 348 (.iload_n 3, 1) (nT 347 (.aload_n 0, 1) nE nE) (nT 349 (.iconst 1, 1) nE nE)) (nT 352 (.aload_n 0, 1) (nT 351 (.iaload, 1) nE nE) nE))) (nT 362 (.iload_n 3, 1) (nT 357 (.invokevirtual 32, 3) (nT 355 (.iadd, 1) (nT 354 (.iconst 2, 1) nE nE) (nT 356 (.iaload, 1) nE nE)) (nT 361 (.aload_n 0, 1) (nT 360 (.aload_n 2, 1) nE nE) nE)) (nT 365 (.iaload, 1) (nT 364 (.iadd, 1) (nT 363 (.iconst 1, 1) nE nE) nE) (nT 367 (.iload_n 3, 1) (nT 366 (.aload_n 0, 1) nE nE) nE)))) (nT 387 (.iconst 2, 1) (nT 381 (.iload_n 3, 1) (nT 374 (.if_icmp .eq 1028, 3) (nT 370 (.iaload, 1) (nT 369 (.iadd, 1) nE nE) (nT 371 (.invokevirtual 36, 3) nE nE)) (nT 380 (.aload_n 0, 1) (nT 379 (.aload_n 1, 1) nE nE) nE)) (nT 384 (.iaload, 1) (nT 383 (.iadd, 1) (nT 382 (.iconst 1, 1) nE nE) nE) (nT 386 (.iload_n 3, 1) (nT 385 (.aload_n 0, 1) nE nE) nE))) (nT 396 (.iconst 1, 1) (nT 393 (.aload_n 2, 1) (nT 389 (.iaload, 1) (nT 388 (.iadd, 1) nE nE) (nT 390 (.invokevirtual 37, 3) nE nE)) (nT 395 (.iload_n 3, 1) (nT 394 (.aload_n 0, 1) nE nE) nE)) (nT 399 (.aload_n 0, 1) (nT 398 (.iaload, 1) (nT 397 (.iadd, 1) nE nE) nE) (nT 401 (.iconst 2, 1) (nT 400 (.iload_n 3, 1) nE nE) nE))))) (nT 437 (.invokevirtual 44, 3) (nT 422 (.iaload, 1) (nT 415 (.iconst 1, 1) (nT 412 (.aload_n 1, 1) (nT 404 (.invokevirtual 40, 3) (nT 403 (.iaload, 1) nE nE) (nT 407 (.if_icmp .eq 995, 3) nE nE)) (nT 414 (.iload_n 3, 1) (nT 413 (.aload_n 0, 1) nE nE) nE)) (nT 419 (.iload_n 3, 1) (nT 417 (.iaload, 1) (nT 416 (.iadd, 1) nE nE) (nT 418 (.aload_n 0, 1) nE nE)) (nT 421 (.iadd, 1) (nT 420 (.iconst 2, 1) nE nE) nE))) (nT 431 (.iaload, 1) (nT 428 (.iload_n 3, 1) (nT 426 (.aload_n 2, 1) (nT 423 (.invokevirtual 41, 3) nE nE) (nT 427 (.aload_n 0, 1) nE nE)) (nT 430 (.iadd, 1) (nT 429 (.iconst 1, 1) nE nE) nE)) (nT 434 (.iconst 2, 1) (nT 433 (.iload_n 3, 1) (nT 432 (.aload_n 0, 1) nE nE) nE) (nT 436 (.iaload, 1) (nT 435 (.iadd, 1) nE nE) nE)))) (nT 458 (.iadd, 1) (nT 450 (.iaload, 1) (nT 447 (.iload_n 3, 1) (nT 445 (.aload_n 1, 1) (nT 440 (.if_icmp .eq 962, 3) nE nE) (nT 446 (.aload_n 0, 1) nE nE)) (nT 449 (.iadd, 1) (nT 448 (.iconst 1, 1) nE nE) nE)) (nT 455 (.aload_n 0, 1) (nT 454 (.aload_n 2, 1) (nT 451 (.invokevirtual 45, 3) nE nE) nE) (nT 457 (.iconst 1, 1) (nT 456 (.iload_n 3, 1) nE nE) nE))) (nT 471 (.iconst 1, 1) (nT 468 (.aload_n 1, 1) (nT 460 (.invokevirtual 48, 3) (nT 459 (.iaload, 1) nE nE) (nT 463 (.if_icmp .eq 939, 3) nE nE)) (nT 470 (.iload_n 3, 1) (nT 469 (.aload_n 0, 1) nE nE) nE)) (nT 474 (.aload_n 0, 1) (nT 473 (.iaload, 1) (nT 472 (.iadd, 1) nE nE) nE) (nT 476 (.iconst 2, 1) (nT 475 (.iload_n 3, 1) nE nE) nE))))))) (nT 647 (.iaload, 1) (nT 564 (.aload_n 2, 1) (nT 512 (.invokevirtual 53, 3) (nT 493 (.invokevirtual 52, 3) (nT 486 (.iadd, 1) (nT 483 (.aload_n 0, 1) (nT 479 (.invokevirtual 49, 3) (nT 478 (.iaload, 1) nE nE) (nT 482 (.aload_n 2, 1) nE nE)) (nT 485 (.iconst 1, 1) (nT 484 (.iload_n 3, 1) nE nE) nE)) (nT 490 (.iconst 2, 1) (nT 488 (.aload_n 0, 1) (nT 487 (.iaload, 1) nE nE) (nT 489 (.iload_n 3, 1) nE nE)) (nT 492 (.iaload, 1) (nT 491 (.iadd, 1) nE nE) nE))) (nT 506 (.iaload, 1) (nT 503 (.iload_n 3, 1) (nT 501 (.aload_n 1, 1) (nT 496 (.if_icmp .eq 906, 3) nE nE) (nT 502 (.aload_n 0, 1) nE nE)) (nT 505 (.iadd, 1) (nT 504 (.iconst 1, 1) nE nE) nE)) (nT 509 (.iconst 2, 1) (nT 508 (.iload_n 3, 1) (nT 507 (.aload_n 0, 1) nE nE) nE) (nT 511 (.iaload, 1) (nT 510 (.iadd, 1) nE nE) nE)))) (nT 529 (.if_icmp .eq 873, 3) (nT 521 (.aload_n 0, 1) (nT 518 (.iconst 1, 1) (nT 516 (.aload_n 0, 1) (nT 515 (.aload_n 2, 1) nE nE) (nT 517 (.iload_n 3, 1) nE nE)) (nT 520 (.iaload, 1) (nT 519 (.iadd, 1) nE nE) nE)) (nT 524 (.iadd, 1) (nT 523 (.iconst 2, 1) (nT 522 (.iload_n 3, 1) nE nE) nE) (nT 526 (.invokevirtual 56, 3) (nT 525 (.iaload, 1) nE nE) nE))) (nT 548 (.invokevirtual 61, 3) (nT 539 (.invokevirtual 60, 3) (nT 535 (.invokevirtual 57, 3) (nT 534 (.aload_n 1, 1) nE nE) (nT 538 (.aload_n 2, 1) nE nE)) (nT 547 (.aload_n 1, 1) (nT 542 (.if_icmp .eq 860, 3) nE nE) nE)) (nT 555 (.if_icmp .eq 847, 3) (nT 552 (.invokevirtual 65, 3) (nT 551 (.aload_n 2, 1) nE nE) nE) (nT 561 (.invokevirtual 66, 3) (nT 560 (.aload_n 1, 1) nE nE) nE))))) (nT 601 (.if_icmp .eq 801, 3) (nT 584 (.invokevirtual 70, 3) (nT 577 (.iadd, 1) (nT 574 (.aload_n 0, 1) (nT 568 (.if_icmp .eq 834, 3) (nT 565 (.invokevirtual 69, 3) nE nE) (nT 573 (.aload_n 1, 1) nE nE)) (nT 576 (.iconst 1, 1) (nT 575 (.iload_n 3, 1) nE nE) nE)) (nT 581 (.iconst 2, 1) (nT 579 (.aload_n 0, 1) (nT 578 (.iaload, 1) nE nE) (nT 580 (.iload_n 3, 1) nE nE)) (nT 583 (.iaload, 1) (nT 582 (.iadd, 1) nE nE) nE))) (nT 593 (.aload_n 0, 1) (nT 590 (.iconst 1, 1) (nT 588 (.aload_n 0, 1) (nT 587 (.aload_n 2, 1) nE nE) (nT 589 (.iload_n 3, 1) nE nE)) (nT 592 (.iaload, 1) (nT 591 (.iadd, 1) nE nE) nE)) (nT 596 (.iadd, 1) (nT 595 (.iconst 2, 1) (nT 594 (.iload_n 3, 1) nE nE) nE) (nT 598 (.invokevirtual 73, 3) (nT 597 (.iaload, 1) nE nE) nE)))) (nT 620 (.iaload, 1) (nT 612 (.invokevirtual 74, 3) (nT 609 (.iconst 1, 1) (nT 607 (.aload_n 0, 1) (nT 606 (.aload_n 1, 1) nE nE) (nT 608 (.iload_n 3, 1) nE nE)) (nT 611 (.iaload, 1) (nT 610 (.iadd, 1) nE nE) nE)) (nT 617 (.iload_n 3, 1) (nT 616 (.aload_n 0, 1) (nT 615 (.aload_n 2, 1) nE nE) nE) (nT 619 (.iadd, 1) (nT 618 (.iconst 1, 1) nE nE) nE))) (nT 637 (.if_icmp .eq 765, 3) (nT 630 (.invokevirtual 78, 3) (nT 624 (.if_icmp .eq 778, 3) (nT 621 (.invokevirtual 77, 3) nE nE) (nT 629 (.aload_n 1, 1) nE nE)) (nT 634 (.invokevirtual 81, 3) (nT 633 (.aload_n 2, 1) nE nE) nE)) (nT 644 (.iload_n 3, 1) (nT 643 (.aload_n 0, 1) (nT 642 (.aload_n 1, 1) nE nE) nE) (nT 646 (.iadd, 1) (nT 645 (.iconst 1, 1) nE nE) nE)))))) (nT 724 (.iconst 1, 1) (nT 682 (.iload_n 3, 1) (nT 663 (.iload_n 3, 1) (nT 656 (.aload_n 2, 1) (nT 651 (.iadd, 1) (nT 649 (.iload_n 3, 1) (nT 648 (.aload_n 0, 1) nE nE) (nT 650 (.iconst 2, 1) nE nE)) (nT 653 (.invokevirtual 82, 3) (nT 652 (.iaload, 1) nE nE) nE)) (nT 660 (.iadd, 1) (nT 658 (.iload_n 3, 1) (nT 657 (.aload_n 0, 1) nE nE) (nT 659 (.iconst 1, 1) nE nE)) (nT 662 (.aload_n 0, 1) (nT 661 (.iaload, 1) nE nE) nE))) (nT 676 (.aload_n 0, 1) (nT 667 (.invokevirtual 85, 3) (nT 665 (.iadd, 1) (nT 664 (.iconst 2, 1) nE nE) (nT 666 (.iaload, 1) nE nE)) (nT 675 (.aload_n 1, 1) (nT 670 (.if_icmp .eq 732, 3) nE nE) nE)) (nT 679 (.iadd, 1) (nT 678 (.iconst 1, 1) (nT 677 (.iload_n 3, 1) nE nE) nE) (nT 681 (.aload_n 0, 1) (nT 680 (.iaload, 1) nE nE) nE)))) (nT 697 (.iconst 2, 1) (nT 691 (.iload_n 3, 1) (nT 686 (.invokevirtual 86, 3) (nT 684 (.iadd, 1) (nT 683 (.iconst 2, 1) nE nE) (nT 685 (.iaload, 1) nE nE)) (nT 690 (.aload_n 0, 1) (nT 689 (.aload_n 2, 1) nE nE) nE)) (nT 694 (.iaload, 1) (nT 693 (.iadd, 1) (nT 692 (.iconst 1, 1) nE nE) nE) (nT 696 (.iload_n 3, 1) (nT 695 (.aload_n 0, 1) nE nE) nE))) (nT 712 (.aload_n 2, 1) (nT 703 (.if_icmp .eq 699, 3) (nT 699 (.iaload, 1) (nT 698 (.iadd, 1) nE nE) (nT 700 (.invokevirtual 89, 3) nE nE)) (nT 709 (.invokevirtual 90, 3) (nT 708 (.aload_n 1, 1) nE nE) nE)) (nT 721 (.aload_n 1, 1) (nT 716 (.if_icmp .eq 686, 3) (nT 713 (.invokevirtual 93, 3) nE nE) nE) (nT 723 (.iload_n 3, 1) (nT 722 (.aload_n 0, 1) nE nE) nE))))) (nT 752 (.iload_n 3, 1) (nT 737 (.invokevirtual 94, 3) (nT 731 (.iaload, 1) (nT 728 (.iload_n 3, 1) (nT 726 (.iaload, 1) (nT 725 (.iadd, 1) nE nE) (nT 727 (.aload_n 0, 1) nE nE)) (nT 730 (.iadd, 1) (nT 729 (.iconst 2, 1) nE nE) nE)) (nT 734 (.iconst 3, 1) (nT 733 (.iload_n 3, 1) (nT 732 (.aload_n 0, 1) nE nE) nE) (nT 736 (.iaload, 1) (nT 735 (.iadd, 1) nE nE) nE))) (nT 746 (.aload_n 0, 1) (nT 743 (.iconst 1, 1) (nT 741 (.aload_n 0, 1) (nT 740 (.aload_n 2, 1) nE nE) (nT 742 (.iload_n 3, 1) nE nE)) (nT 745 (.iaload, 1) (nT 744 (.iadd, 1) nE nE) nE)) (nT 749 (.iadd, 1) (nT 748 (.iconst 2, 1) (nT 747 (.iload_n 3, 1) nE nE) nE) (nT 751 (.aload_n 0, 1) (nT 750 (.iaload, 1) nE nE) nE)))) (nT 773 (.aload_n 2, 1) (nT 765 (.aload_n 0, 1) (nT 756 (.invokevirtual 98, 3) (nT 754 (.iadd, 1) (nT 753 (.iconst 3, 1) nE nE) (nT 755 (.iaload, 1) nE nE)) (nT 764 (.aload_n 1, 1) (nT 759 (.if_icmp .eq 643, 3) nE nE) nE)) (nT 768 (.iadd, 1) (nT 767 (.iconst 1, 1) (nT 766 (.iload_n 3, 1) nE nE) nE) (nT 770 (.invokevirtual 99, 3) (nT 769 (.iaload, 1) nE nE) nE))) (nT 782 (.if_icmp .eq 620, 3) (nT 777 (.iadd, 1) (nT 775 (.iload_n 3, 1) (nT 774 (.aload_n 0, 1) nE nE) (nT 776 (.iconst 1, 1) nE nE)) (nT 779 (.invokevirtual 102, 3) (nT 778 (.iaload, 1) nE nE) nE)) (nT 789 (.iload_n 3, 1) (nT 788 (.aload_n 0, 1) (nT 787 (.aload_n 1, 1) nE nE) nE) (nT 791 (.iadd, 1) (nT 790 (.iconst 1, 1) nE nE) nE)))))))) (nT 1099 (.invokevirtual 151, 3) (nT 930 (.aload_n 0, 1) (nT 863 (.aload_n 0, 1) (nT 829 (.aload_n 2, 1) (nT 808 (.iload_n 3, 1) (nT 801 (.aload_n 2, 1) (nT 796 (.iadd, 1) (nT 794 (.iload_n 3, 1) (nT 793 (.aload_n 0, 1) nE nE) (nT 795 (.iconst 2, 1) nE nE)) (nT 798 (.invokevirtual 103, 3) (nT 797 (.iaload, 1) nE nE) nE)) (nT 805 (.iadd, 1) (nT 803 (.iload_n 3, 1) (nT 802 (.aload_n 0, 1) nE nE) (nT 804 (.iconst 1, 1) nE nE)) (nT 807 (.aload_n 0, 1) (nT 806 (.iaload, 1) nE nE) nE))) (nT 821 (.aload_n 0, 1) (nT 812 (.invokevirtual 106, 3) (nT 810 (.iadd, 1) (nT 809 (.iconst 2, 1) nE nE) (nT 811 (.iaload, 1) nE nE)) (nT 820 (.aload_n 1, 1) (nT 815 (.if_icmp .eq 587, 3) nE nE) nE)) (nT 824 (.iadd, 1) (nT 823 (.iconst 1, 1) (nT 822 (.iload_n 3, 1) nE nE) nE) (nT 826 (.invokevirtual 107, 3) (nT 825 (.iaload, 1) nE nE) nE)))) (nT 848 (.iaload, 1) (nT 838 (.if_icmp .eq 564, 3) (nT 833 (.iadd, 1) (nT 831 (.iload_n 3, 1) (nT 830 (.aload_n 0, 1) nE nE) (nT 832 (.iconst 1, 1) nE nE)) (nT 835 (.invokevirtual 110, 3) (nT 834 (.iaload, 1) nE nE) nE)) (nT 845 (.iload_n 3, 1) (nT 844 (.aload_n 0, 1) (nT 843 (.aload_n 1, 1) nE nE) nE) (nT 847 (.iadd, 1) (nT 846 (.iconst 1, 1) nE nE) nE))) (nT 855 (.iload_n 3, 1) (nT 852 (.iadd, 1) (nT 850 (.iload_n 3, 1) (nT 849 (.aload_n 0, 1) nE nE) (nT 851 (.iconst 2, 1) nE nE)) (nT 854 (.aload_n 0, 1) (nT 853 (.iaload, 1) nE nE) nE)) (nT 858 (.iaload, 1) (nT 857 (.iadd, 1) (nT 856 (.iconst 3, 1) nE nE) nE) (nT 862 (.aload_n 2, 1) (nT 859 (.invokevirtual 111, 3) nE nE) nE))))) (nT 896 (.iaload, 1) (nT 877 (.iaload, 1) (nT 870 (.iconst 2, 1) (nT 867 (.iaload, 1) (nT 865 (.iconst 1, 1) (nT 864 (.iload_n 3, 1) nE nE) (nT 866 (.iadd, 1) nE nE)) (nT 869 (.iload_n 3, 1) (nT 868 (.aload_n 0, 1) nE nE) nE)) (nT 874 (.iload_n 3, 1) (nT 872 (.iaload, 1) (nT 871 (.iadd, 1) nE nE) (nT 873 (.aload_n 0, 1) nE nE)) (nT 876 (.iadd, 1) (nT 875 (.iconst 3, 1) nE nE) nE))) (nT 890 (.iadd, 1) (nT 887 (.aload_n 0, 1) (nT 881 (.if_icmp .eq 521, 3) (nT 878 (.invokevirtual 114, 3) nE nE) (nT 886 (.aload_n 1, 1) nE nE)) (nT 889 (.iconst 1, 1) (nT 888 (.iload_n 3, 1) nE nE) nE)) (nT 893 (.iload_n 3, 1) (nT 892 (.aload_n 0, 1) (nT 891 (.iaload, 1) nE nE) nE) (nT 895 (.iadd, 1) (nT 894 (.iconst 2, 1) nE nE) nE)))) (nT 911 (.aload_n 0, 1) (nT 905 (.aload_n 2, 1) (nT 900 (.iadd, 1) (nT 898 (.iload_n 3, 1) (nT 897 (.aload_n 0, 1) nE nE) (nT 899 (.iconst 3, 1) nE nE)) (nT 902 (.invokevirtual 115, 3) (nT 901 (.iaload, 1) nE nE) nE)) (nT 908 (.iconst 1, 1) (nT 907 (.iload_n 3, 1) (nT 906 (.aload_n 0, 1) nE nE) nE) (nT 910 (.iaload, 1) (nT 909 (.iadd, 1) nE nE) nE))) (nT 918 (.iconst 3, 1) (nT 915 (.iaload, 1) (nT 913 (.iconst 2, 1) (nT 912 (.iload_n 3, 1) nE nE) (nT 914 (.iadd, 1) nE nE)) (nT 917 (.iload_n 3, 1) (nT 916 (.aload_n 0, 1) nE nE) nE)) (nT 921 (.invokevirtual 118, 3) (nT 920 (.iaload, 1) (nT 919 (.iadd, 1) nE nE) nE) (nT 929 (.aload_n 1, 1) (nT 924 (.if_icmp .eq 478, 3) nE nE) nE)))))) (nT 999 (.iadd, 1) (nT 959 (.aload_n 0, 1) (nT 944 (.iaload, 1) (nT 937 (.iconst 2, 1) (nT 934 (.iaload, 1) (nT 932 (.iconst 1, 1) (nT 931 (.iload_n 3, 1) nE nE) (nT 933 (.iadd, 1) nE nE)) (nT 936 (.iload_n 3, 1) (nT 935 (.aload_n 0, 1) nE nE) nE)) (nT 941 (.iload_n 3, 1) (nT 939 (.iaload, 1) (nT 938 (.iadd, 1) nE nE) (nT 940 (.aload_n 0, 1) nE nE)) (nT 943 (.iadd, 1) (nT 942 (.iconst 3, 1) nE nE) nE))) (nT 953 (.iaload, 1) (nT 950 (.iload_n 3, 1) (nT 948 (.aload_n 2, 1) (nT 945 (.invokevirtual 119, 3) nE nE) (nT 949 (.aload_n 0, 1) nE nE)) (nT 952 (.iadd, 1) (nT 951 (.iconst 1, 1) nE nE) nE)) (nT 956 (.iconst 2, 1) (nT 955 (.iload_n 3, 1) (nT 954 (.aload_n 0, 1) nE nE) nE) (nT 958 (.iaload, 1) (nT 957 (.iadd, 1) nE nE) nE)))) (nT 978 (.invokevirtual 123, 3) (nT 972 (.aload_n 1, 1) (nT 963 (.iaload, 1) (nT 961 (.iconst 3, 1) (nT 960 (.iload_n 3, 1) nE nE) (nT 962 (.iadd, 1) nE nE)) (nT 967 (.if_icmp .eq 435, 3) (nT 964 (.invokevirtual 122, 3) nE nE) nE)) (nT 975 (.iconst 1, 1) (nT 974 (.iload_n 3, 1) (nT 973 (.aload_n 0, 1) nE nE) nE) (nT 977 (.iaload, 1) (nT 976 (.iadd, 1) nE nE) nE))) (nT 987 (.invokevirtual 126, 3) (nT 984 (.iconst 1, 1) (nT 982 (.aload_n 0, 1) (nT 981 (.aload_n 2, 1) nE nE) (nT 983 (.iload_n 3, 1) nE nE)) (nT 986 (.iaload, 1) (nT 985 (.iadd, 1) nE nE) nE)) (nT 996 (.aload_n 0, 1) (nT 995 (.aload_n 1, 1) (nT 990 (.if_icmp .eq 412, 3) nE nE) nE) (nT 998 (.iconst 1, 1) (nT 997 (.iload_n 3, 1) nE nE) nE))))) (nT 1041 (.aload_n 1, 1) (nT 1020 (.iload_n 3, 1) (nT 1008 (.iadd, 1) (nT 1005 (.aload_n 0, 1) (nT 1001 (.invokevirtual 127, 3) (nT 1000 (.iaload, 1) nE nE) (nT 1004 (.aload_n 2, 1) nE nE)) (nT 1007 (.iconst 1, 1) (nT 1006 (.iload_n 3, 1) nE nE) nE)) (nT 1013 (.if_icmp .eq 389, 3) (nT 1010 (.invokevirtual 130, 3) (nT 1009 (.iaload, 1) nE nE) nE) (nT 1019 (.aload_n 0, 1) (nT 1018 (.aload_n 1, 1) nE nE) nE))) (nT 1029 (.iload_n 3, 1) (nT 1024 (.invokevirtual 131, 3) (nT 1022 (.iadd, 1) (nT 1021 (.iconst 1, 1) nE nE) (nT 1023 (.iaload, 1) nE nE)) (nT 1028 (.aload_n 0, 1) (nT 1027 (.aload_n 2, 1) nE nE) nE)) (nT 1032 (.iaload, 1) (nT 1031 (.iadd, 1) (nT 1030 (.iconst 1, 1) nE nE) nE) (nT 1036 (.if_icmp .eq 366, 3) (nT 1033 (.invokevirtual 134, 3) nE nE) nE)))) (nT 1072 (.invokevirtual 146, 3) (nT 1058 (.aload_n 2, 1) (nT 1049 (.if_icmp .eq 353, 3) (nT 1045 (.aload_n 2, 1) (nT 1042 (.invokevirtual 135, 3) nE nE) (nT 1046 (.invokevirtual 138, 3) nE nE)) (nT 1055 (.invokevirtual 139, 3) (nT 1054 (.aload_n 1, 1) nE nE) nE)) (nT 1067 (.aload_n 1, 1) (nT 1062 (.if_icmp .eq 340, 3) (nT 1059 (.invokevirtual 142, 3) nE nE) nE) (nT 1071 (.aload_n 2, 1) (nT 1068 (.invokevirtual 143, 3) nE nE) nE))) (nT 1093 (.aload_n 1, 1) (nT 1084 (.aload_n 2, 1) (nT 1080 (.aload_n 1, 1) (nT 1075 (.if_icmp .eq 327, 3) nE nE) (nT 1081 (.invokevirtual 147, 3) nE nE)) (nT 1088 (.if_icmp .eq 314, 3) (nT 1085 (.invokevirtual 150, 3) nE nE) nE)) (nT 1096 (.iconst 1, 1) (nT 1095 (.iload_n 3, 1) (nT 1094 (.aload_n 0, 1) nE nE) nE) (nT 1098 (.iaload, 1) (nT 1097 (.iadd, 1) nE nE) nE))))))) (nT 1255 (.iload_n 3, 1) (nT 1174 (.iconst 2, 1) (nT 1142 (.iconst 1, 1) (nT 1121 (.iaload, 1) (nT 1108 (.invokevirtual 154, 3) (nT 1105 (.iconst 1, 1) (nT 1103 (.aload_n 0, 1) (nT 1102 (.aload_n 2, 1) nE nE) (nT 1104 (.iload_n 3, 1) nE nE)) (nT 1107 (.iaload, 1) (nT 1106 (.iadd, 1) nE nE) nE)) (nT 1118 (.iload_n 3, 1) (nT 1116 (.aload_n 1, 1) (nT 1111 (.if_icmp .eq 291, 3) nE nE) (nT 1117 (.aload_n 0, 1) nE nE)) (nT 1120 (.iadd, 1) (nT 1119 (.iconst 1, 1) nE nE) nE))) (nT 1130 (.iaload, 1) (nT 1127 (.iload_n 3, 1) (nT 1125 (.aload_n 2, 1) (nT 1122 (.invokevirtual 155, 3) nE nE) (nT 1126 (.aload_n 0, 1) nE nE)) (nT 1129 (.iadd, 1) (nT 1128 (.iconst 1, 1) nE nE) nE)) (nT 1139 (.aload_n 1, 1) (nT 1134 (.if_icmp .eq 268, 3) (nT 1131 (.invokevirtual 158, 3) nE nE) nE) (nT 1141 (.iload_n 3, 1) (nT 1140 (.aload_n 0, 1) nE nE) nE)))) (nT 1155 (.ifCond .eq 7, 3) (nT 1149 (.iaload, 1) (nT 1146 (.iload_n 3, 1) (nT 1144 (.iaload, 1) (nT 1143 (.iadd, 1) nE nE) (nT 1145 (.aload_n 0, 1) nE nE)) (nT 1148 (.iadd, 1) (nT 1147 (.iconst 2, 1) nE nE) nE)) (nT 1152 (.iconst 3, 1) (nT 1151 (.iload_n 3, 1) (nT 1150 (.aload_n 0, 1) nE nE) nE) (nT 1154 (.iaload, 1) (nT 1153 (.iadd, 1) nE nE) nE))) (nT 1168 (.iload_n 3, 1) (nT 1163 (.invokevirtual 159, 3) (nT 1159 (.goto 4, 3) (nT 1158 (.iconst 1, 1) nE nE) (nT 1162 (.iconst 0, 1) nE nE)) (nT 1167 (.aload_n 0, 1) (nT 1166 (.aload_n 2, 1) nE nE) nE)) (nT 1171 (.iaload, 1) (nT 1170 (.iadd, 1) (nT 1169 (.iconst 1, 1) nE nE) nE) (nT 1173 (.iload_n 3, 1) (nT 1172 (.aload_n 0, 1) nE nE) nE))))) (nT 1213 (.invokevirtual 168, 3) (nT 1198 (.aload_n 1, 1) (nT 1181 (.iaload, 1) (nT 1178 (.iload_n 3, 1) (nT 1176 (.iaload, 1) (nT 1175 (.iadd, 1) nE nE) (nT 1177 (.aload_n 0, 1) nE nE)) (nT 1180 (.iadd, 1) (nT 1179 (.iconst 3, 1) nE nE) nE)) (nT 1189 (.iconst 0, 1) (nT 1185 (.iconst 1, 1) (nT 1182 (.ifCond .eq 7, 3) nE nE) (nT 1186 (.goto 4, 3) nE nE)) (nT 1193 (.if_icmp .eq 209, 3) (nT 1190 (.invokevirtual 163, 3) nE nE) nE))) (nT 1207 (.aload_n 2, 1) (nT 1202 (.iadd, 1) (nT 1200 (.iload_n 3, 1) (nT 1199 (.aload_n 0, 1) nE nE) (nT 1201 (.iconst 1, 1) nE nE)) (nT 1204 (.invokevirtual 164, 3) (nT 1203 (.iaload, 1) nE nE) nE)) (nT 1210 (.iconst 1, 1) (nT 1209 (.iload_n 3, 1) (nT 1208 (.aload_n 0, 1) nE nE) nE) (nT 1212 (.iaload, 1) (nT 1211 (.iadd, 1) nE nE) nE)))) (nT 1234 (.iadd, 1) (nT 1226 (.iaload, 1) (nT 1223 (.iload_n 3, 1) (nT 1221 (.aload_n 1, 1) (nT 1216 (.if_icmp .eq 186, 3) nE nE) (nT 1222 (.aload_n 0, 1) nE nE)) (nT 1225 (.iadd, 1) (nT 1224 (.iconst 1, 1) nE nE) nE)) (nT 1231 (.aload_n 0, 1) (nT 1230 (.aload_n 2, 1) (nT 1227 (.invokevirtual 169, 3) nE nE) nE) (nT 1233 (.iconst 1, 1) (nT 1232 (.iload_n 3, 1) nE nE) nE))) (nT 1247 (.iconst 1, 1) (nT 1244 (.aload_n 1, 1) (nT 1236 (.invokevirtual 172, 3) (nT 1235 (.iaload, 1) nE nE) (nT 1239 (.if_icmp .eq 163, 3) nE nE)) (nT 1246 (.iload_n 3, 1) (nT 1245 (.aload_n 0, 1) nE nE) nE)) (nT 1250 (.invokevirtual 173, 3) (nT 1249 (.iaload, 1) (nT 1248 (.iadd, 1) nE nE) nE) (nT 1254 (.aload_n 0, 1) (nT 1253 (.aload_n 2, 1) nE nE) nE)))))) (nT 1324 (.iaload, 1) (nT 1290 (.iadd, 1) (nT 1275 (.iconst 2, 1) (nT 1268 (.aload_n 0, 1) (nT 1259 (.invokevirtual 176, 3) (nT 1257 (.iadd, 1) (nT 1256 (.iconst 1, 1) nE nE) (nT 1258 (.iaload, 1) nE nE)) (nT 1267 (.aload_n 1, 1) (nT 1262 (.if_icmp .eq 140, 3) nE nE) nE)) (nT 1272 (.iaload, 1) (nT 1270 (.iconst 1, 1) (nT 1269 (.iload_n 3, 1) nE nE) (nT 1271 (.iadd, 1) nE nE)) (nT 1274 (.iload_n 3, 1) (nT 1273 (.aload_n 0, 1) nE nE) nE))) (nT 1284 (.iconst 1, 1) (nT 1281 (.aload_n 2, 1) (nT 1277 (.iaload, 1) (nT 1276 (.iadd, 1) nE nE) (nT 1278 (.invokevirtual 177, 3) nE nE)) (nT 1283 (.iload_n 3, 1) (nT 1282 (.aload_n 0, 1) nE nE) nE)) (nT 1287 (.aload_n 0, 1) (nT 1286 (.iaload, 1) (nT 1285 (.iadd, 1) nE nE) nE) (nT 1289 (.iconst 2, 1) (nT 1288 (.iload_n 3, 1) nE nE) nE)))) (nT 1309 (.iadd, 1) (nT 1303 (.iconst 1, 1) (nT 1300 (.aload_n 1, 1) (nT 1292 (.invokevirtual 180, 3) (nT 1291 (.iaload, 1) nE nE) (nT 1295 (.if_icmp .eq 107, 3) nE nE)) (nT 1302 (.iload_n 3, 1) (nT 1301 (.aload_n 0, 1) nE nE) nE)) (nT 1306 (.aload_n 0, 1) (nT 1305 (.iaload, 1) (nT 1304 (.iadd, 1) nE nE) nE) (nT 1308 (.iconst 2, 1) (nT 1307 (.iload_n 3, 1) nE nE) nE))) (nT 1318 (.iadd, 1) (nT 1315 (.aload_n 0, 1) (nT 1311 (.invokevirtual 181, 3) (nT 1310 (.iaload, 1) nE nE) (nT 1314 (.aload_n 2, 1) nE nE)) (nT 1317 (.iconst 1, 1) (nT 1316 (.iload_n 3, 1) nE nE) nE)) (nT 1321 (.iload_n 3, 1) (nT 1320 (.aload_n 0, 1) (nT 1319 (.iaload, 1) nE nE) nE) (nT 1323 (.iadd, 1) (nT 1322 (.iconst 2, 1) nE nE) nE))))) (nT 1366 (.aload_n 0, 1) (nT 1345 (.iconst 1, 1) (nT 1337 (.iadd, 1) (nT 1334 (.aload_n 0, 1) (nT 1328 (.if_icmp .eq 74, 3) (nT 1325 (.invokevirtual 184, 3) nE nE) (nT 1333 (.aload_n 1, 1) nE nE)) (nT 1336 (.iconst 1, 1) (nT 1335 (.iload_n 3, 1) nE nE) nE)) (nT 1342 (.aload_n 2, 1) (nT 1339 (.invokevirtual 185, 3) (nT 1338 (.iaload, 1) nE nE) nE) (nT 1344 (.iload_n 3, 1) (nT 1343 (.aload_n 0, 1) nE nE) nE))) (nT 1358 (.iload_n 3, 1) (nT 1351 (.if_icmp .eq 51, 3) (nT 1347 (.iaload, 1) (nT 1346 (.iadd, 1) nE nE) (nT 1348 (.invokevirtual 188, 3) nE nE)) (nT 1357 (.aload_n 0, 1) (nT 1356 (.aload_n 1, 1) nE nE) nE)) (nT 1361 (.iaload, 1) (nT 1360 (.iadd, 1) (nT 1359 (.iconst 1, 1) nE nE) nE) (nT 1365 (.aload_n 2, 1) (nT 1362 (.invokevirtual 189, 3) nE nE) nE)))) (nT 1385 (.invokevirtual 193, 3) (nT 1379 (.aload_n 1, 1) (nT 1370 (.iaload, 1) (nT 1368 (.iconst 1, 1) (nT 1367 (.iload_n 3, 1) nE nE) (nT 1369 (.iadd, 1) nE nE)) (nT 1374 (.if_icmp .eq 28, 3) (nT 1371 (.invokevirtual 192, 3) nE nE) nE)) (nT 1382 (.iconst 1, 1) (nT 1381 (.iload_n 3, 1) (nT 1380 (.aload_n 0, 1) nE nE) nE) (nT 1384 (.iaload, 1) (nT 1383 (.iadd, 1) nE nE) nE))) (nT 1394 (.invokevirtual 196, 3) (nT 1391 (.iconst 1, 1) (nT 1389 (.aload_n 0, 1) (nT 1388 (.aload_n 2, 1) nE nE) (nT 1390 (.iload_n 3, 1) nE nE)) (nT 1393 (.iaload, 1) (nT 1392 (.iadd, 1) nE nE) nE)) (nT 1405 (.goto (-1387), 3) (nT 1402 (.iinc 3 6, 3) (nT 1397 (.if_icmp .eq 5, 3) nE nE) nE) (nT 1409 (.ireturn, 1) (nT 1408 (.iconst 1, 1) nE nE) nE)))))))))
def tM : List rM := [(11, prog_1_method_1_code, i_X11_init, 2, none, true, 210, 7126),
  (12, prog_14_method_1_code, i_X12_init, 1, none, true, 38, 7805),
  (11, prog_1_method_2_code, i_X11_feed, 6, some .int, false, 0, 0),
  (12, prog_14_method_134_code, i_X12_feed, 8, some .int, false, 0, 0),
  (11, prog_1_method_3_code, i_X11_end, 2, some .int, false, 0, 0),
  (12, prog_14_method_135_code, i_X12_end, 2, some .int, false, 0, 0),
  (11, prog_1_method_4_code, i_X11_house, 2, some .int, false, 0, 0),
  (12, prog_14_method_18_code, i_X12_house, 2, some .int, false, 0, 0),
  (11, prog_1_method_5_code, i_X11_fault, 2, some .int, false, 0, 0),
  (12, prog_14_method_37_code, i_X12_fault, 2, some .int, false, 0, 0),
  (11, prog_1_method_6_code, i_X11_member, 3, some .int, false, 0, 0),
  (12, prog_14_method_66_code, i_X12_member, 3, some .int, false, 0, 0),
  (11, prog_1_method_7_code, i_X11_bill, 3, some .int, false, 0, 0),
  (12, prog_14_method_68_code, i_X12_bill, 3, some .int, false, 0, 0),
  (11, prog_1_method_8_code, i_X11_vote, 3, some .int, false, 0, 0),
  (12, prog_14_method_74_code, i_X12_vote, 3, some .int, false, 0, 0),
  (11, prog_1_method_9_code, i_X11_shake, 3, some .int, false, 0, 0),
  (12, prog_14_method_76_code, i_X12_shake, 2, some .int, false, 0, 0),
  (11, prog_1_method_10_code, i_X11_shelve, 4, some .int, false, 0, 0),
  (12, prog_14_method_77_code, i_X12_shelve, 4, some .int, false, 0, 0),
  (11, prog_1_method_11_code, i_X11_join, 3, some .int, false, 0, 0),
  (12, prog_14_method_80_code, i_X12_join, 3, some .int, false, 0, 0),
  (11, prog_1_method_12_code, i_X11_day, 5, some .int, false, 0, 0),
  (12, prog_14_method_82_code, i_X12_day, 1, some .int, false, 0, 0),
  (11, prog_1_method_13_code, i_X11_undo, 1, some .boolean, false, 0, 0),
  (12, prog_14_method_83_code, i_X12_undo, 1, some .boolean, false, 0, 0),
  (11, prog_1_method_14_code, i_X11_redo, 1, some .boolean, false, 0, 0),
  (12, prog_14_method_84_code, i_X12_redo, 1, some .boolean, false, 0, 0),
  (11, prog_1_method_15_code, i_X11_will, 3, some .int, false, 0, 0),
  (12, prog_14_method_85_code, i_X12_will, 3, some .int, false, 0, 0),
  (11, prog_1_method_16_code, i_X11_dull, 2, some .int, false, 0, 0),
  (12, prog_14_method_86_code, i_X12_dull, 3, some .int, false, 0, 0),
  (11, prog_1_method_17_code, i_X11_pass, 1, some .int, false, 0, 0),
  (12, prog_14_method_69_code, i_X12_pass, 3, some .int, false, 0, 0),
  (11, prog_1_method_18_code, i_X11_muster, 4, some .int, false, 0, 0),
  (12, prog_14_method_87_code, i_X12_muster, 6, some .int, false, 0, 0),
  (11, prog_1_method_19_code, i_X11_latest, 3, some .int, false, 0, 0),
  (12, prog_14_method_89_code, i_X12_latest, 5, some .int, false, 0, 0),
  (11, prog_1_method_20_code, i_X11_plan, 1, some .int, false, 0, 0),
  (12, prog_14_method_106_code, i_X12_plan, 7, some .int, false, 0, 0),
  (11, prog_1_method_21_code, i_X11_power, 4, some .int, false, 0, 0),
  (12, prog_14_method_109_code, i_X12_power, 6, some .int, false, 0, 0),
  (11, prog_1_method_22_code, i_X11_best, 2, some .int, false, 0, 0),
  (12, prog_14_method_91_code, i_X12_best, 6, some .int, false, 0, 0),
  (11, prog_1_method_23_code, i_X11_joint, 3, some .int, false, 0, 0),
  (12, prog_14_method_98_code, i_X12_joint, 3, some .int, false, 0, 0),
  (11, prog_1_method_24_code, i_X11_law, 2, some .int, false, 0, 0),
  (12, prog_14_method_100_code, i_X12_law, 4, some .int, false, 0, 0),
  (11, prog_1_method_25_code, i_X11_odds, 4, some .int, false, 0, 0),
  (12, prog_14_method_114_code, i_X12_odds, 4, some .int, false, 0, 0),
  (11, prog_1_method_26_code, i_X11_mean, 4, some .int, false, 0, 0),
  (12, prog_14_method_115_code, i_X12_mean, 4, some .int, false, 0, 0),
  (11, prog_1_method_27_code, i_X11_ripe, 5, some .int, false, 0, 0),
  (12, prog_14_method_90_code, i_X12_ripe, 8, some .int, false, 0, 0),
  (11, prog_1_method_28_code, i_X11_queue, 2, some .int, false, 0, 0),
  (12, prog_14_method_118_code, i_X12_queue, 6, some .int, false, 0, 0),
  (11, prog_1_method_29_code, i_X11_spoil, 2, some .int, false, 0, 0),
  (12, prog_14_method_93_code, i_X12_spoil, 3, some .int, false, 0, 0),
  (11, prog_1_method_30_code, i_X11_sabotage, 2, some .int, false, 0, 0),
  (12, prog_14_method_121_code, i_X12_sabotage, 8, some .int, false, 0, 0),
  (11, prog_1_method_31_code, i_X11_wasted, 1, some .int, false, 0, 0),
  (12, prog_14_method_70_code, i_X12_wasted, 3, some .int, false, 0, 0),
  (11, prog_1_method_32_code, i_X11_richest, 1, some .int, false, 0, 0),
  (12, prog_14_method_71_code, i_X12_richest, 3, some .int, false, 0, 0),
  (11, prog_1_method_33_code, i_X11_matches, 1, some .int, false, 0, 0),
  (12, prog_14_method_99_code, i_X12_matches, 4, some .int, false, 0, 0),
  (11, prog_1_method_34_code, i_X11_brittle, 1, some .int, false, 0, 0),
  (12, prog_14_method_94_code, i_X12_brittle, 3, some .int, false, 0, 0),
  (11, prog_1_method_35_code, i_X11_longest, 2, some .int, false, 0, 0),
  (12, prog_14_method_101_code, i_X12_longest, 5, some .int, false, 0, 0),
  (11, prog_1_method_36_code, i_X11_lies, 2, some .int, false, 0, 0),
  (12, prog_14_method_102_code, i_X12_lies, 2, some .int, false, 0, 0),
  (11, prog_1_method_37_code, i_X11_sniffed, 4, some .int, false, 0, 0),
  (12, prog_14_method_122_code, i_X12_sniffed, 4, some .int, false, 0, 0),
  (11, prog_1_method_38_code, i_X11_untell, 2, some .boolean, false, 0, 0),
  (12, prog_14_method_123_code, i_X12_untell, 2, some .boolean, false, 0, 0),
  (11, prog_1_method_39_code, i_X11_later, 2, some .int, false, 0, 0),
  (12, prog_14_method_124_code, i_X12_later, 2, some .int, false, 0, 0),
  (11, prog_1_method_40_code, i_X11_fits, 2, some .int, false, 0, 0),
  (12, prog_14_method_127_code, i_X12_fits, 2, some .int, false, 0, 0),
  (11, prog_1_method_41_code, i_X11_sure, 3, some .int, false, 0, 0),
  (12, prog_14_method_128_code, i_X12_sure, 3, some .int, false, 0, 0),
  (11, prog_1_method_42_code, i_X11_ask, 3, some .int, false, 0, 0),
  (12, prog_14_method_129_code, i_X12_ask, 7, some .int, false, 0, 0),
  (11, prog_1_method_43_code, i_X11_image, 2, some .int, false, 0, 0),
  (12, prog_14_method_130_code, i_X12_image, 3, some .int, false, 0, 0),
  (11, prog_1_method_44_code, i_X11_back, 2, some .int, false, 0, 0),
  (12, prog_14_method_131_code, i_X12_back, 3, some .int, false, 0, 0),
  (11, prog_1_method_45_code, i_X11_about, 2, some .int, false, 0, 0),
  (12, prog_14_method_133_code, i_X12_about, 2, some .int, false, 0, 0),
  (0, prog_2_method_8_code, i_X0_slot, 2, some (.object "AyeJars$Jars"), false, 0, 0),
  (6, prog_8_method_8_code, i_X6_copyFrom, 2, none, false, 0, 0),
  (6, prog_8_method_1_code, i_X6_init, 1, none, true, 1, 30),
  (14, prog_17_method_50_code, i_J9_floorMod_7cf53, 3, some .int, false, 0, 0),
  (5, prog_7_method_7_code, i_X5_breathsOf, 2, some .int, false, 0, 0),
  (14, prog_17_method_69_code, i_J9_min_7cf53, 2, some .int, false, 0, 0),
  (10, prog_12_method_8_code, i_X10_fading, 3, some .int, false, 0, 0),
  (1, prog_3_method_8_code, i_X1_billsOfFate, 4, some .int, false, 0, 0),
  (0, prog_2_method_6_code, i_X0_undoable, 1, some .int, false, 0, 0),
  (0, prog_2_method_7_code, i_X0_redoable, 1, some .int, false, 0, 0),
  (7, prog_9_method_10_code, i_X7_nextToAsk, 10, some .int, false, 0, 0),
  (11, prog_1_method_46_code, i_X11_isBox, 2, some .boolean, false, 0, 0),
  (1, prog_3_method_20_code, i_X1_bestShelf, 5, some .int, false, 0, 0),
  (5, prog_7_method_5_code, i_X5_hasBill, 2, some .boolean, false, 0, 0),
  (1, prog_3_method_27_code, i_X1_brittleBills, 3, some .int, false, 0, 0),
  (0, prog_2_method_3_code, i_X0_keep, 2, none, false, 0, 0),
  (1, prog_3_method_17_code, i_X1_daysTillDull, 3, some .int, false, 0, 0),
  (9, prog_11_method_2_code, i_X9_hasRoom, 2, some .boolean, false, 0, 0),
  (9, prog_11_method_3_code, i_X9_append, 3, none, false, 0, 0),
  (7, prog_9_method_5_code, i_X7_fitting, 5, some .long, false, 0, 0),
  (16, prog_16_method_50_code, i_J13_bitCount_95d88, 2, some .int, false, 0, 0),
  (8, prog_10_method_2_code, i_X8_readHouse, 3, some .boolean, false, 0, 0),
  (5, prog_7_method_3_code, i_X5_copyFrom, 2, none, false, 0, 0),
  (6, prog_8_method_7_code, i_X6_layOut, 3, none, false, 0, 0),
  (0, prog_2_method_2_code, i_X0_begin, 2, none, false, 0, 0),
  (7, prog_9_method_2_code, i_X7_forget, 1, none, false, 0, 0),
  (3, prog_5_method_2_code, i_X3_clear, 1, none, false, 0, 0),
  (9, prog_11_method_1_code, i_X9_init, 1, none, true, 1, 1600),
  (5, prog_7_method_1_code, i_X5_init, 1, none, true, 10, 608),
  (8, prog_10_method_1_code, i_X8_init, 3, none, true, 2, 11),
  (0, prog_2_method_1_code, i_X0_init, 2, none, true, 83, 1435),
  (10, prog_12_method_1_code, i_X10_init, 2, none, true, 0, 0),
  (1, prog_3_method_1_code, i_X1_init, 4, none, true, 0, 0),
  (2, prog_4_method_1_code, i_X2_init, 5, none, true, 0, 0),
  (3, prog_5_method_1_code, i_X3_init, 6, none, true, 14, 1083),
  (7, prog_9_method_1_code, i_X7_init, 3, none, true, 70, 1558),
  (1, prog_3_method_5_code, i_X1_mayJoin, 3, some .boolean, false, 0, 0),
  (1, prog_3_method_19_code, i_X1_latestVote, 6, some .int, false, 0, 0),
  (1, prog_3_method_21_code, i_X1_passingWithNeed, 4, some .int, false, 0, 0),
  (3, prog_5_method_3_code, i_X3_lyingAt, 2, some .int, false, 0, 0),
  (1, prog_3_method_28_code, i_X1_longestLasting, 6, some .int, false, 0, 0),
  (1, prog_3_method_26_code, i_X1_countMatches, 4, some .int, false, 0, 0),
  (2, prog_4_method_6_code, i_X2_weighMean, 4, some .boolean, false, 0, 0),
  (5, prog_7_method_4_code, i_X5_hasMember, 2, some .boolean, false, 0, 0),
  (1, prog_3_method_18_code, i_X1_fewestSaviours, 6, some .int, false, 0, 0),
  (2, prog_4_method_5_code, i_X2_weighOdds, 4, some .boolean, false, 0, 0),
  (1, prog_3_method_15_code, i_X1_passing, 3, some .int, false, 0, 0),
  (3, prog_5_method_5_code, i_X3_choosePlan, 3, some .int, false, 0, 0),
  (2, prog_4_method_3_code, i_X2_weighPower, 6, some .boolean, false, 0, 0),
  (3, prog_5_method_10_code, i_X3_chooseQueue, 3, some .int, false, 0, 0),
  (0, prog_2_method_5_code, i_X0_goOn, 2, some .boolean, false, 0, 0),
  (1, prog_3_method_25_code, i_X1_richestKept, 5, some .int, false, 0, 0),
  (1, prog_3_method_22_code, i_X1_ripestDays, 8, some .int, false, 0, 0),
  (3, prog_5_method_13_code, i_X3_chooseSabotage, 4, some .int, false, 0, 0),
  (6, prog_8_method_2_code, i_X6_get, 3, some .int, false, 0, 0),
  (1, prog_3_method_2_code, i_X1_isKept, 2, some .boolean, false, 0, 0),
  (7, prog_9_method_3_code, i_X7_tell, 5, some .int, false, 0, 0),
  (1, prog_3_method_23_code, i_X1_shakesToSpoil, 3, some .int, false, 0, 0),
  (7, prog_9_method_9_code, i_X7_sureness, 6, some .int, false, 0, 0),
  (0, prog_2_method_4_code, i_X0_goBack, 2, some .boolean, false, 0, 0),
  (7, prog_9_method_4_code, i_X7_takeBack, 3, some .boolean, false, 0, 0),
  (1, prog_3_method_3_code, i_X1_mayVote, 3, some .boolean, false, 0, 0),
  (1, prog_3_method_24_code, i_X1_volumeWasted, 3, some .int, false, 0, 0),
  (1, prog_3_method_16_code, i_X1_volumeBehind, 3, some .int, false, 0, 0),
  (12, prog_14_method_43_code, i_X12_many, 1, some .int, false, 0, 0),
  (12, prog_14_method_132_code, i_X12_thoseThat, 4, some .int, false, 0, 0),
  (12, prog_14_method_38_code, i_X12_isIn, 3, some .boolean, false, 0, 0),
  (12, prog_14_method_126_code, i_X12_layFits, 4, none, false, 0, 0),
  (12, prog_14_method_46_code, i_X12_isLeft, 2, some .boolean, false, 0, 0),
  (12, prog_14_method_45_code, i_X12_isBill, 2, some .boolean, false, 0, 0),
  (12, prog_14_method_72_code, i_X12_keepAct, 2, none, false, 0, 0),
  (12, prog_14_method_81_code, i_X12_goDay, 3, some .int, false, 0, 0),
  (12, prog_14_method_2_code, i_X12_sign, 2, some .int, false, 0, 0),
  (12, prog_14_method_17_code, i_X12_clearBank, 1, none, false, 0, 0),
  (12, prog_14_method_9_code, i_X12_goOn, 3, none, false, 0, 0),
  (12, prog_14_method_6_code, i_X12_isGood, 1, some .boolean, false, 0, 0),
  (12, prog_14_method_53_code, i_X12_startAnew, 2, none, false, 0, 0),
  (12, prog_14_method_78_code, i_X12_canJoin, 3, some .boolean, false, 0, 0),
  (12, prog_14_method_44_code, i_X12_isMember, 2, some .boolean, false, 0, 0),
  (12, prog_14_method_125_code, i_X12_doesFit, 5, some .boolean, false, 0, 0),
  (12, prog_14_method_110_code, i_X12_mayAll, 5, some .boolean, false, 0, 0),
  (12, prog_14_method_103_code, i_X12_times, 4, some .int, false, 0, 0),
  (12, prog_14_method_104_code, i_X12_layChoice, 5, some .int, false, 0, 0),
  (12, prog_14_method_105_code, i_X12_passedByChoice, 5, some .int, false, 0, 0),
  (12, prog_14_method_95_code, i_X12_keepNow, 2, none, false, 0, 0),
  (12, prog_14_method_119_code, i_X12_shakeAll, 7, some .int, false, 0, 0),
  (12, prog_14_method_120_code, i_X12_forced, 3, some .int, false, 0, 0),
  (12, prog_14_method_96_code, i_X12_bringBack, 2, none, false, 0, 0),
  (12, prog_14_method_75_code, i_X12_canShake, 2, some .boolean, false, 0, 0),
  (12, prog_14_method_63_code, i_X12_mayVote, 3, some .boolean, false, 0, 0),
  (5, prog_7_method_10_code, i_X5_opensOf, 2, some .int, false, 0, 0),
  (1, prog_3_method_4_code, i_X1_votersFor, 3, some .int, false, 0, 0),
  (1, prog_3_method_9_code, i_X1_daysLeft, 2, some .int, false, 0, 0),
  (2, prog_4_method_7_code, i_X2_mayAllVote, 4, some .boolean, false, 0, 0),
  (17, prog_22_method_103_code, i_J7_fill_53178, 4, none, false, 0, 0),
  (3, prog_5_method_6_code, i_X3_forcingSets, 6, some .long, false, 0, 0),
  (3, prog_5_method_7_code, i_X3_extendPlan, 4, none, false, 0, 0),
  (3, prog_5_method_14_code, i_X3_fillShaken, 7, none, false, 0, 0),
  (3, prog_5_method_15_code, i_X3_weighSabotage, 7, none, false, 0, 0),
  (3, prog_5_method_8_code, i_X3_weighPlan, 3, none, false, 0, 0),
  (3, prog_5_method_9_code, i_X3_countForced, 3, some .int, false, 0, 0),
  (3, prog_5_method_4_code, i_X3_layTried, 2, none, false, 0, 0),
  (5, prog_7_method_12_code, i_X5_sumOf, 4, some .int, false, 0, 0),
  (4, prog_6_method_2_code, i_X4_clear, 1, none, false, 0, 0),
  (4, prog_6_method_3_code, i_X4_copyFrom, 2, none, false, 0, 0),
  (4, prog_6_method_1_code, i_X4_init, 1, none, true, 4, 574),
  (6, prog_8_method_4_code, i_X6_hasCell, 2, some .boolean, false, 0, 0),
  (5, prog_7_method_11_code, i_X5_shelfOf, 2, some .int, false, 0, 0),
  (6, prog_8_method_3_code, i_X6_put, 4, none, false, 0, 0),
  (10, prog_12_method_5_code, i_X10_startEmpty, 4, none, false, 0, 0),
  (10, prog_12_method_6_code, i_X10_breathe, 2, none, false, 0, 0),
  (10, prog_12_method_9_code, i_X10_rest, 3, none, false, 0, 0),
  (7, prog_9_method_6_code, i_X7_fadeStrangeJars, 3, none, false, 0, 0),
  (7, prog_9_method_7_code, i_X7_agrees, 6, some .boolean, false, 0, 0),
  (5, prog_7_method_2_code, i_X5_clear, 1, none, false, 0, 0),
  (9, prog_11_method_4_code, i_X9_start, 1, none, false, 0, 0),
  (9, prog_11_method_6_code, i_X9_byteAt, 2, some .int, false, 0, 0),
  (9, prog_11_method_5_code, i_X9_advance, 2, none, false, 0, 0)]
noncomputable def mT (k : Nat) : Option rM := rget tM k
def tY : List MethodName := [⟨"AyeJars", "<init>", "()V"⟩,
  ⟨"AyeJarsModel", "<init>", "()V"⟩,
  ⟨"AyeJars", "feed", "(IIIII)I"⟩,
  ⟨"AyeJarsModel", "feed", "(IIIII)I"⟩,
  ⟨"AyeJars", "end", "(I)I"⟩,
  ⟨"AyeJarsModel", "end", "(I)I"⟩,
  ⟨"AyeJars", "house", "()I"⟩,
  ⟨"AyeJarsModel", "house", "()I"⟩,
  ⟨"AyeJars", "fault", "(I)I"⟩,
  ⟨"AyeJarsModel", "fault", "(I)I"⟩,
  ⟨"AyeJars", "member", "(II)I"⟩,
  ⟨"AyeJarsModel", "member", "(II)I"⟩,
  ⟨"AyeJars", "bill", "(II)I"⟩,
  ⟨"AyeJarsModel", "bill", "(II)I"⟩,
  ⟨"AyeJars", "vote", "(II)I"⟩,
  ⟨"AyeJarsModel", "vote", "(II)I"⟩,
  ⟨"AyeJars", "shake", "(I)I"⟩,
  ⟨"AyeJarsModel", "shake", "(I)I"⟩,
  ⟨"AyeJars", "shelve", "(II)I"⟩,
  ⟨"AyeJarsModel", "shelve", "(II)I"⟩,
  ⟨"AyeJars", "join", "(II)I"⟩,
  ⟨"AyeJarsModel", "join", "(II)I"⟩,
  ⟨"AyeJars", "day", "()I"⟩,
  ⟨"AyeJarsModel", "day", "()I"⟩,
  ⟨"AyeJars", "undo", "()Z"⟩,
  ⟨"AyeJarsModel", "undo", "()Z"⟩,
  ⟨"AyeJars", "redo", "()Z"⟩,
  ⟨"AyeJarsModel", "redo", "()Z"⟩,
  ⟨"AyeJars", "will", "(II)I"⟩,
  ⟨"AyeJarsModel", "will", "(II)I"⟩,
  ⟨"AyeJars", "dull", "(I)I"⟩,
  ⟨"AyeJarsModel", "dull", "(I)I"⟩,
  ⟨"AyeJars", "pass", "()I"⟩,
  ⟨"AyeJarsModel", "pass", "()I"⟩,
  ⟨"AyeJars", "muster", "(II)I"⟩,
  ⟨"AyeJarsModel", "muster", "(II)I"⟩,
  ⟨"AyeJars", "latest", "(II)I"⟩,
  ⟨"AyeJarsModel", "latest", "(II)I"⟩,
  ⟨"AyeJars", "plan", "()I"⟩,
  ⟨"AyeJarsModel", "plan", "()I"⟩,
  ⟨"AyeJars", "power", "(III)I"⟩,
  ⟨"AyeJarsModel", "power", "(III)I"⟩,
  ⟨"AyeJars", "best", "(I)I"⟩,
  ⟨"AyeJarsModel", "best", "(I)I"⟩,
  ⟨"AyeJars", "joint", "(II)I"⟩,
  ⟨"AyeJarsModel", "joint", "(II)I"⟩,
  ⟨"AyeJars", "law", "(I)I"⟩,
  ⟨"AyeJarsModel", "law", "(I)I"⟩,
  ⟨"AyeJars", "odds", "(III)I"⟩,
  ⟨"AyeJarsModel", "odds", "(III)I"⟩,
  ⟨"AyeJars", "mean", "(III)I"⟩,
  ⟨"AyeJarsModel", "mean", "(III)I"⟩,
  ⟨"AyeJars", "ripe", "(III)I"⟩,
  ⟨"AyeJarsModel", "ripe", "(III)I"⟩,
  ⟨"AyeJars", "queue", "(I)I"⟩,
  ⟨"AyeJarsModel", "queue", "(I)I"⟩,
  ⟨"AyeJars", "spoil", "(I)I"⟩,
  ⟨"AyeJarsModel", "spoil", "(I)I"⟩,
  ⟨"AyeJars", "sabotage", "(I)I"⟩,
  ⟨"AyeJarsModel", "sabotage", "(I)I"⟩,
  ⟨"AyeJars", "wasted", "()I"⟩,
  ⟨"AyeJarsModel", "wasted", "()I"⟩,
  ⟨"AyeJars", "richest", "()I"⟩,
  ⟨"AyeJarsModel", "richest", "()I"⟩,
  ⟨"AyeJars", "matches", "()I"⟩,
  ⟨"AyeJarsModel", "matches", "()I"⟩,
  ⟨"AyeJars", "brittle", "()I"⟩,
  ⟨"AyeJarsModel", "brittle", "()I"⟩,
  ⟨"AyeJars", "longest", "(I)I"⟩,
  ⟨"AyeJarsModel", "longest", "(I)I"⟩,
  ⟨"AyeJars", "lies", "(I)I"⟩,
  ⟨"AyeJarsModel", "lies", "(I)I"⟩,
  ⟨"AyeJars", "sniffed", "(IIZ)I"⟩,
  ⟨"AyeJarsModel", "sniffed", "(IIZ)I"⟩,
  ⟨"AyeJars", "untell", "(I)Z"⟩,
  ⟨"AyeJarsModel", "untell", "(I)Z"⟩,
  ⟨"AyeJars", "later", "(I)I"⟩,
  ⟨"AyeJarsModel", "later", "(I)I"⟩,
  ⟨"AyeJars", "fits", "(I)I"⟩,
  ⟨"AyeJarsModel", "fits", "(I)I"⟩,
  ⟨"AyeJars", "sure", "(II)I"⟩,
  ⟨"AyeJarsModel", "sure", "(II)I"⟩,
  ⟨"AyeJars", "ask", "(II)I"⟩,
  ⟨"AyeJarsModel", "ask", "(II)I"⟩,
  ⟨"AyeJars", "image", "(I)I"⟩,
  ⟨"AyeJarsModel", "image", "(I)I"⟩,
  ⟨"AyeJars", "back", "(I)I"⟩,
  ⟨"AyeJarsModel", "back", "(I)I"⟩,
  ⟨"AyeJars", "about", "(I)I"⟩,
  ⟨"AyeJarsModel", "about", "(I)I"⟩,
  ⟨"AyeJars$Acts", "slot", "(I)LAyeJars$Jars;"⟩,
  ⟨"AyeJars$Jars", "copyFrom", "(LAyeJars$Jars;)V"⟩,
  ⟨"AyeJars$Jars", "<init>", "()V"⟩,
  ⟨"java/lang/Math", "floorMod", "(II)I"⟩,
  ⟨"AyeJars$House", "breathsOf", "(I)I"⟩,
  ⟨"java/lang/Math", "min", "(II)I"⟩,
  ⟨"AyeJars$Trial", "fading", "()I"⟩,
  ⟨"AyeJars$Ahead", "billsOfFate", "(I)I"⟩,
  ⟨"AyeJars$Acts", "undoable", "()I"⟩,
  ⟨"AyeJars$Acts", "redoable", "()I"⟩,
  ⟨"AyeJars$Nose", "nextToAsk", "(II)I"⟩,
  ⟨"AyeJars", "isBox", "(I)Z"⟩,
  ⟨"AyeJars$Ahead", "bestShelf", "(I)I"⟩,
  ⟨"AyeJars$House", "hasBill", "(I)Z"⟩,
  ⟨"AyeJars$Ahead", "brittleBills", "()I"⟩,
  ⟨"AyeJars$Acts", "keep", "(LAyeJars$Jars;)V"⟩,
  ⟨"AyeJars$Ahead", "daysTillDull", "(I)I"⟩,
  ⟨"AyeJars$Tokens", "hasRoom", "(I)Z"⟩,
  ⟨"AyeJars$Tokens", "append", "(I)V"⟩,
  ⟨"AyeJars$Nose", "fitting", "(I)J"⟩,
  ⟨"java/lang/Long", "bitCount", "(J)I"⟩,
  ⟨"AyeJars$Reader", "readHouse", "()Z"⟩,
  ⟨"AyeJars$House", "copyFrom", "(LAyeJars$House;)V"⟩,
  ⟨"AyeJars$Jars", "layOut", "(LAyeJars$House;)V"⟩,
  ⟨"AyeJars$Acts", "begin", "(LAyeJars$Jars;)V"⟩,
  ⟨"AyeJars$Nose", "forget", "()V"⟩,
  ⟨"AyeJars$Choices", "clear", "()V"⟩,
  ⟨"AyeJars$Tokens", "<init>", "()V"⟩,
  ⟨"AyeJars$House", "<init>", "()V"⟩,
  ⟨"AyeJars$Reader", "<init>", "(LAyeJars$Tokens;LAyeJars$House;)V"⟩,
  ⟨"AyeJars$Acts", "<init>", "()V"⟩,
  ⟨"AyeJars$Trial", "<init>", "(LAyeJars$House;)V"⟩,
  ⟨"AyeJars$Ahead", "<init>", "(LAyeJars$House;LAyeJars$Jars;LAyeJars$Trial;)V"⟩,
  ⟨"AyeJars$Chances", "<init>", "(LAyeJars$House;LAyeJars$Jars;LAyeJars$Trial;LAyeJars$Ahead;)V"⟩,
  ⟨"AyeJars$Choices", "<init>", "(LAyeJars$House;LAyeJars$Jars;LAyeJars$Trial;LAyeJars$Ahead;)V"⟩,
  ⟨"AyeJars$Nose", "<init>", "(LAyeJars$House;LAyeJars$Trial;)V"⟩,
  ⟨"AyeJars$Ahead", "mayJoin", "(II)Z"⟩,
  ⟨"AyeJars$Ahead", "latestVote", "(II)I"⟩,
  ⟨"AyeJars$Ahead", "passingWithNeed", "(I)I"⟩,
  ⟨"AyeJars$Choices", "lyingAt", "(I)I"⟩,
  ⟨"AyeJars$Ahead", "longestLasting", "(I)I"⟩,
  ⟨"AyeJars$Ahead", "countMatches", "()I"⟩,
  ⟨"AyeJars$Chances", "weighMean", "(II)Z"⟩,
  ⟨"AyeJars$House", "hasMember", "(I)Z"⟩,
  ⟨"AyeJars$Ahead", "fewestSaviours", "(I)I"⟩,
  ⟨"AyeJars$Chances", "weighOdds", "(II)Z"⟩,
  ⟨"AyeJars$Ahead", "passing", "()I"⟩,
  ⟨"AyeJars$Choices", "choosePlan", "()I"⟩,
  ⟨"AyeJars$Chances", "weighPower", "(II)Z"⟩,
  ⟨"AyeJars$Choices", "chooseQueue", "(I)I"⟩,
  ⟨"AyeJars$Acts", "goOn", "(LAyeJars$Jars;)Z"⟩,
  ⟨"AyeJars$Ahead", "richestKept", "()I"⟩,
  ⟨"AyeJars$Ahead", "ripestDays", "(II)I"⟩,
  ⟨"AyeJars$Choices", "chooseSabotage", "(I)I"⟩,
  ⟨"AyeJars$Jars", "get", "(II)I"⟩,
  ⟨"AyeJars$Ahead", "isKept", "(I)Z"⟩,
  ⟨"AyeJars$Nose", "tell", "(IIZI)I"⟩,
  ⟨"AyeJars$Ahead", "shakesToSpoil", "(I)I"⟩,
  ⟨"AyeJars$Nose", "sureness", "(II)I"⟩,
  ⟨"AyeJars$Acts", "goBack", "(LAyeJars$Jars;)Z"⟩,
  ⟨"AyeJars$Nose", "takeBack", "(II)Z"⟩,
  ⟨"AyeJars$Ahead", "mayVote", "(II)Z"⟩,
  ⟨"AyeJars$Ahead", "volumeWasted", "()I"⟩,
  ⟨"AyeJars$Ahead", "volumeBehind", "(II)I"⟩,
  ⟨"AyeJarsModel", "many", "()I"⟩,
  ⟨"AyeJarsModel", "thoseThat", "(I)I"⟩,
  ⟨"AyeJarsModel", "isIn", "(III)Z"⟩,
  ⟨"AyeJarsModel", "layFits", "(I)V"⟩,
  ⟨"AyeJarsModel", "isLeft", "(I)Z"⟩,
  ⟨"AyeJarsModel", "isBill", "(I)Z"⟩,
  ⟨"AyeJarsModel", "keepAct", "()V"⟩,
  ⟨"AyeJarsModel", "goDay", "()I"⟩,
  ⟨"AyeJarsModel", "sign", "(I)I"⟩,
  ⟨"AyeJarsModel", "clearBank", "()V"⟩,
  ⟨"AyeJarsModel", "goOn", "()V"⟩,
  ⟨"AyeJarsModel", "isGood", "()Z"⟩,
  ⟨"AyeJarsModel", "startAnew", "()V"⟩,
  ⟨"AyeJarsModel", "canJoin", "(II)Z"⟩,
  ⟨"AyeJarsModel", "isMember", "(I)Z"⟩,
  ⟨"AyeJarsModel", "doesFit", "(II)Z"⟩,
  ⟨"AyeJarsModel", "mayAll", "(III)Z"⟩,
  ⟨"AyeJarsModel", "times", "(II)I"⟩,
  ⟨"AyeJarsModel", "layChoice", "(I)I"⟩,
  ⟨"AyeJarsModel", "passedByChoice", "()I"⟩,
  ⟨"AyeJarsModel", "keepNow", "()V"⟩,
  ⟨"AyeJarsModel", "shakeAll", "(II)I"⟩,
  ⟨"AyeJarsModel", "forced", "()I"⟩,
  ⟨"AyeJarsModel", "bringBack", "()V"⟩,
  ⟨"AyeJarsModel", "canShake", "(I)Z"⟩,
  ⟨"AyeJarsModel", "mayVote", "(II)Z"⟩,
  ⟨"AyeJars$House", "opensOf", "(I)I"⟩,
  ⟨"AyeJars$Ahead", "votersFor", "(I)I"⟩,
  ⟨"AyeJars$Ahead", "daysLeft", "(I)I"⟩,
  ⟨"AyeJars$Chances", "mayAllVote", "(III)Z"⟩,
  ⟨"java/util/Arrays", "fill", "([II)V"⟩,
  ⟨"AyeJars$Choices", "forcingSets", "(I)J"⟩,
  ⟨"AyeJars$Choices", "extendPlan", "(II)V"⟩,
  ⟨"AyeJars$Choices", "fillShaken", "(II)V"⟩,
  ⟨"AyeJars$Choices", "weighSabotage", "(II)V"⟩,
  ⟨"AyeJars$Choices", "weighPlan", "(I)V"⟩,
  ⟨"AyeJars$Choices", "countForced", "()I"⟩,
  ⟨"AyeJars$Choices", "layTried", "(I)V"⟩,
  ⟨"AyeJars$House", "sumOf", "([II)I"⟩,
  ⟨"AyeJars$Formula", "clear", "()V"⟩,
  ⟨"AyeJars$Formula", "copyFrom", "(LAyeJars$Formula;)V"⟩,
  ⟨"AyeJars$Formula", "<init>", "()V"⟩,
  ⟨"AyeJars$Jars", "hasCell", "(II)Z"⟩,
  ⟨"AyeJars$House", "shelfOf", "(I)I"⟩,
  ⟨"AyeJars$Jars", "put", "(III)V"⟩,
  ⟨"AyeJars$Trial", "startEmpty", "(III)V"⟩,
  ⟨"AyeJars$Trial", "breathe", "(I)V"⟩,
  ⟨"AyeJars$Trial", "rest", "(I)V"⟩,
  ⟨"AyeJars$Nose", "fadeStrangeJars", "()V"⟩,
  ⟨"AyeJars$Nose", "agrees", "(II)Z"⟩,
  ⟨"AyeJars$House", "clear", "()V"⟩,
  ⟨"AyeJars$Tokens", "start", "()V"⟩,
  ⟨"AyeJars$Tokens", "byteAt", "(I)I"⟩,
  ⟨"AyeJars$Tokens", "advance", "()V"⟩]
def mL : rM := (13, code, i_L_law, 4, some .boolean, false, 600000, 7302250)
def oN (k : Nat) : String := match k with
  | 0 => "AyeJars$Acts"
  | 1 => "AyeJars$Ahead"
  | 2 => "AyeJars$Chances"
  | 3 => "AyeJars$Choices"
  | 4 => "AyeJars$Formula"
  | 5 => "AyeJars$House"
  | 6 => "AyeJars$Jars"
  | 7 => "AyeJars$Nose"
  | 8 => "AyeJars$Reader"
  | 9 => "AyeJars$Tokens"
  | 10 => "AyeJars$Trial"
  | 11 => "AyeJars"
  | 12 => "AyeJarsModel"
  | 13 => "AyeJarsLaw"
  | 14 => "java/lang/Math"
  | 15 => "java/lang/Integer"
  | 16 => "java/lang/Long"
  | _ => "java/util/Arrays"
end
section
/-! what the plain machine's states mean, and what is said of its steps -/
def TG : List Cond := lw_tbl.filter goodWord
def tys0 (cy : Nat → ClassId) : List (ClassId × FieldType) := [(cy 13, .byte), (cy 14, .int), (cy 15, .long), (cy 16, .boolean), (cy 17, .object "AyeJars$Jars"), (cy 18, .object "AyeJars$Trial"), (cy 19, .array .int)]
def nws : List (String × Nat × MethodName) := [("AyeJars", 9, ⟨"AyeJars$Tokens", "<init>", "()V"⟩), ("AyeJars", 18, ⟨"AyeJars$House", "<init>", "()V"⟩), ("AyeJars$House", 29, ⟨"AyeJars$Formula", "<init>", "()V"⟩), ("AyeJars", 37, ⟨"AyeJars$Jars", "<init>", "()V"⟩), ("AyeJars$Acts", 15, ⟨"AyeJars$Jars", "<init>", "()V"⟩)]
def aoW (U : State) : Prop := va_AO "AyeJars$Jars" U ∧ va_AO "AyeJars$Trial" U ∧ va_Nw (.arrayOver (.array .int)) U
/-- what holds of the state with which a frame begins -/
def SF (dC : Nat → ClassId) (dI : Nat → Nat → Nat) (cy : Nat → ClassId) (b B L : Nat) (xs : Nat → Int32) (U : State) : Prop := va_K (dC, dI) vwCl (tys0 cy) U ∧ aoW U ∧ (∀ q ∈ nws, va_Nw (.methodLinkNest q.1 q.2.1 q.2.2 "AyeJars") U) ∧ va_X b L xs U U.heap ∧ b < B ∧ B ≤ U.heap.size
def FF (p : Program) (s : State) (m : MethodId) (args : Array Value) (meth : Method) (c : Code) (cc : ByteArray) (nL own : Nat) (ini : Bool) (b B L : Nat) (xs : Nat → Int32) (dC : Nat → ClassId) (dI : Nat → Nat → Nat) (cy : Nat → ClassId) : Prop := p.tables.exec = Jvm.exec ∧ c.code = cc ∧ c.maxLocals = nL ∧ s.vm.findClass (oN own) = some m.cls ∧ (∀ w ∈ TG, w.before args s = true) ∧ SF dC dI cy b B L xs s ∧ (ini = true → meth.name = "<init>")
def clv (sg : Nat → Int32) (b B : Nat) (lv : rK) : List (Nat × Value) := lv.map (fun q => (q.1, rv sg b B q.2))
def Wx (p : Program) (l : Launch) (e : Env) (R : Room) (s : State) (m : MethodId) (args : Array Value) (below : List Frame) (meth : Method) (c : Code) (Q : State → Prop) (sg : Nat → Int32) (b B : Nat) (cy : Nat → ClassId) (dC : Nat → ClassId) (dI : Nat → Nat → Nat) (nL : Nat) (x : rX) : Prop :=
  ∀ (aw : List rC) (H : Heap) (locs : List Loc) (ls : Array Slot), rep x.2.2.2.1 aw → va_P (dC, dI) vwCl (rW sg b B cy aw) H → H.size = B + aw.length → va_S (rG B) s.heap H locs → lv_has ls nL (clv sg b B x.2.1) → W p l e R s m args below meth c H locs x.2.2.2.2.1 x.2.2.2.2.2 Q (F0 m x.1 ls (x.2.2.1.map (rv sg b B)))
def SG (sg : Nat → Int32) (L : Nat) (xs : Nat → Int32) : Prop := (∀ j, j < 8 → sg (j + 8) = sg j &&& 63) ∧ (∀ j t, j < 8 → t < 32 → sg (16 + (32 * j + t)) = sg j >>> (nI t &&& 31)) ∧ (∀ u, 16 ≤ u → u < 512 → sg (u + 512) = (sg u).toInt8.toInt32) ∧ (∀ j, j < L → j < 8 → sg j = xs j) ∧ L < 4294967296
def RetOK (cc : ByteArray) (ret : Option FieldType) (mc ms : Nat) (v : Option rV) (x : rX) : Prop := x.2.2.2.2.1 ≤ mc ∧ x.2.2.2.2.2 ≤ ms ∧ x.2.2.1 = v.toList ∧ ((v = none ∧ ret = none ∧ decode cc x.1 = .ok (.return_, 1)) ∨ (∃ n, v = some (.inl n) ∧ ok_rt ret (.inl n) = true ∧ decode cc x.1 = .ok (.ireturn, 1)) ∨ (∃ n, v = some (.inr (.inl n)) ∧ ok_rt ret (.inr (.inl n)) = true ∧ decode cc x.1 = .ok (.lreturn, 1)) ∨ (∃ n, v = some (.inr (.inr (some n))) ∧ ok_rt ret (.inr (.inr (some n))) = true ∧ decode cc x.1 = .ok (.areturn, 1)))
def CallOK (cc : ByteArray) (own mi : Nat) (As r : List rV) (x : rX) : Prop := csum r ≤ 8 ∧ ∃ (i k np rc : Nat), kf tA own i = some (k, mi, np, rc) ∧ ((k = 0 ∧ ∃ (j : Nat) (q : rC) (As' : List rV), As = .inr (.inr (some (j + 1))) :: As' ∧ x.2.2.1 = As'.reverse ++ .inr (.inr (some (j + 1))) :: r ∧ As'.length = np ∧ wget x.2.2.2.1 j = some q ∧ q.1 = rc ∧ decode cc x.1 = .ok (.invokevirtual i, 3)) ∨ (k = 1 ∧ x.2.2.1 = As.reverse ++ r ∧ As.length = np ∧ decode cc x.1 = .ok (.invokestatic i, 3)) ∨ (k ≠ 0 ∧ k ≠ 1 ∧ k ≠ 4 ∧ k ≠ 5 ∧ ∃ (j : Nat) (As' : List rV), As = .inr (.inr (some j)) :: As' ∧ x.2.2.1 = As'.reverse ++ .inr (.inr (some j)) :: r ∧ As'.length = np ∧ decode cc x.1 = .ok (.invokespecial i, 3)))
def Sem (p : Program) (l : Launch) (e : Env) (R : Room) (s : State) (m : MethodId) (args : Array Value) (below : List Frame) (meth : Method) (c : Code) (Q : State → Prop) (sg : Nat → Int32) (b B : Nat) (cy : Nat → ClassId) (dC : Nat → ClassId) (dI : Nat → Nat → Nat) (nL : Nat) (cc : ByteArray) (own : Nat) (ret : Option FieldType) (mc ms : Nat) (o : rO) (x : rX) : Prop := match o with
  | .inl x' => Wx p l e R s m args below meth c Q sg b B cy dC dI nL x' → Wx p l e R s m args below meth c Q sg b B cy dC dI nL x
  | .inr (.inl _) => True
  | .inr (.inr (.inl q)) => Wx p l e R s m args below meth c Q sg b B cy dC dI nL q.1 → Wx p l e R s m args below meth c Q sg b B cy dC dI nL q.2 → Wx p l e R s m args below meth c Q sg b B cy dC dI nL x
  | .inr (.inr (.inr (.inl v))) => RetOK cc ret mc ms v x
  | .inr (.inr (.inr (.inr q))) => CallOK cc own q.1 q.2.1 q.2.2 x
/-! what is to be known of the tables -/
def OKCl : Prop := ∀ (ci : Nat) (C : String) (T : u_T) (N : Nat), vwCl[ci]? = some (C, T, N) → (∀ w ∈ u_ws C T N, w ∈ TG) ∧ (∀ k, k < N → parseFieldDescriptor (T k).2.2.1 = some (fty ci k)) ∧ (∀ a, a < N → ∀ b, b < N → a ≠ b → (T a).2.1 ≠ (T b).2.1) ∧ Cond.instantiable C N ∈ TG ∧ Cond.initialized C ∈ TG ∧ N = fnn ci ∧ ci < 13 ∧ (∀ k, k < N → fk (fty ci k) ≠ 4)
def OKF : Prop := ∀ (own i ci k fi kd : Nat), ((own, i), (ci, k, fi, kd)) ∈ tF → ∃ (C : String) (T : u_T) (N : Nat), vwCl[ci]? = some (C, T, N) ∧ k < N ∧ Cond.fieldLink (oN own) i (T k).1 (T k).2.1 (T k).2.2.1 ∈ TG ∧ fk (fty ci k) = kd ∧ ((fi = 0 ∧ (T k).2.2.2 = false) ∨ (fi = 1 ∧ (T k).2.2.2 = true ∧ (T k).1 = oN own) ∨ fi = 2)
def OKC : Prop := ∀ (own i ci : Nat), ((own, i), ci) ∈ tC → (ci < 13 → ∃ (C : String) (T : u_T) (N : Nat), vwCl[ci]? = some (C, T, N) ∧ Cond.classLink (oN own) i C ∈ TG) ∧ (ci = 19 → Cond.classLink (oN own) i "[[I" ∈ TG)
def OKK : Prop := ∀ (own i n : Nat), ((own, i), n) ∈ tK → (own < 100 → Cond.constant (oN own) i (nI n) ∈ TG) ∧ (100 ≤ own → Cond.constantLong (oN (own - 100)) i (lN n) ∈ TG)
def OKA4 : Prop := ∀ (own i mi np rc : Nat), ((own, i), (4, mi, np, rc)) ∈ tA → Cond.methodLink (oN own) i Lib.objectInit ∈ TG
def OKA5 : Prop := ∀ (own i mi np rc : Nat), ((own, i), (5, mi, np, rc)) ∈ tA → Cond.methodLink (oN own) i arraycopyName ∈ TG
def OKW : Prop := Cond.instanceMethod Lib.objectInit ∈ TG ∧ Cond.code Lib.objectInit ⟨#[0xb1]⟩ 1 none ∈ TG ∧ Cond.native arraycopyName ∈ TG ∧ Cond.static arraycopyName ∈ TG ∧ Cond.initialized "java/lang/System" ∈ TG ∧ Cond.arrayClass .byte ∈ TG ∧ Cond.arrayClass .int ∈ TG ∧ Cond.arrayClass .long ∈ TG ∧ Cond.arrayClass .boolean ∈ TG
def OT : Prop := OKCl ∧ OKF ∧ OKC ∧ OKK ∧ OKA4 ∧ OKA5 ∧ OKW
/-! locals -/
theorem clv_mem {sg : Nat → Int32} {b B : Nat} {lv : rK} {i : Nat} {v : rV} (h : lget lv i = some v) : (i, rv sg b B v) ∈ clv sg b B lv := List.mem_map.mpr ⟨(i, v), lget_mem h, rfl⟩
theorem clv_at {sg : Nat → Int32} {b B : Nat} {lv : rK} {i nL : Nat} {v : rV} {ls : Array Slot} (hl : lv_has ls nL (clv sg b B lv)) (h : lget lv i = some v) : ls[i]? = some (.val (rv sg b B v)) := hl.2.2 (i, rv sg b B v) (clv_mem h)
theorem nbeq (a b : Nat) : (a == b) = Nat.beq a b := by
  cases h : Nat.beq a b with
  | true => rw [Nat.eq_of_beq_eq_true h]; exact beq_self_eq_true b
  | false =>
    cases h2 : (a == b) with
    | false => rfl
    | true =>
      have := eq_of_beq h2
      subst this
      rw [Nat.beq_refl] at h
      cases h
theorem clv_filter {sg : Nat → Int32} {b B : Nat} (lv : rK) (i : Nat) : (clv sg b B lv).filter (fun q => !(q.1 == i) && !(q.1 + 1 == i && q.2.category == 2)) = clv sg b B (lv.filter (fun q => !(Nat.beq q.1 i) && !(Nat.beq (Nat.succ q.1) i && Nat.beq (ct q.2) 2))) := by
  unfold clv
  rw [List.filter_map]
  congr 1
  apply List.filter_congr
  intro q _
  show (!(q.1 == i) && !(q.1 + 1 == i && (rv sg b B q.2).category == 2)) = _
  rw [ct_eq, nbeq, nbeq, nbeq]
theorem clv_filter2 {sg : Nat → Int32} {b B : Nat} (lv : rK) (i : Nat) : (clv sg b B lv).filter (fun q => !(q.1 == i) && (!(q.1 == i + 1) && !(q.1 + 1 == i && q.2.category == 2))) = clv sg b B (lv.filter (fun q => !(Nat.beq q.1 i) && (!(Nat.beq q.1 (Nat.succ i)) && !(Nat.beq (Nat.succ q.1) i && Nat.beq (ct q.2) 2)))) := by
  unfold clv
  rw [List.filter_map]
  congr 1
  apply List.filter_congr
  intro q _
  show (!(q.1 == i) && (!(q.1 == i + 1) && !(q.1 + 1 == i && (rv sg b B q.2).category == 2))) = _
  rw [ct_eq, nbeq, nbeq, nbeq, nbeq]
theorem lput_eq {β : Type} (lv : rK) (i : Nat) (v : rV) (k : rK → β) : lput lv i v k = k ((i, v) :: lv.filter (fun q => !(Nat.beq q.1 i) && !(Nat.beq (Nat.succ q.1) i && Nat.beq (ct q.2) 2))) := by
  unfold lput
  generalize hk : (fun t => k ((i, v) :: t)) = k'
  have : k ((i, v) :: lv.filter (fun q => !(Nat.beq q.1 i) && !(Nat.beq (Nat.succ q.1) i && Nat.beq (ct q.2) 2))) = k' (lv.filter (fun q => !(Nat.beq q.1 i) && !(Nat.beq (Nat.succ q.1) i && Nat.beq (ct q.2) 2))) := by rw [← hk]
  rw [this]
  clear this hk
  induction lv generalizing k' with
  | nil => rfl
  | cons q t ih =>
    rw [List.filter_cons]
    cases hb : (!(Nat.beq q.1 i) && !(Nat.beq (Nat.succ q.1) i && Nat.beq (ct q.2) 2)) with
    | true =>
      show (bif (!(Nat.beq q.1 i) && !(Nat.beq (Nat.succ q.1) i && Nat.beq (ct q.2) 2)) then _ else _) = _
      rw [hb]
      exact ih (fun t => k' (q :: t))
    | false =>
      show (bif (!(Nat.beq q.1 i) && !(Nat.beq (Nat.succ q.1) i && Nat.beq (ct q.2) 2)) then _ else _) = _
      rw [hb]
      exact ih k'
theorem lput2_eq {β : Type} (lv : rK) (i : Nat) (v : rV) (k : rK → β) : lput2 lv i v k = k ((i, v) :: lv.filter (fun q => !(Nat.beq q.1 i) && (!(Nat.beq q.1 (Nat.succ i)) && !(Nat.beq (Nat.succ q.1) i && Nat.beq (ct q.2) 2)))) := by
  unfold lput2
  generalize hk : (fun t => k ((i, v) :: t)) = k'
  have : k ((i, v) :: lv.filter (fun q => !(Nat.beq q.1 i) && (!(Nat.beq q.1 (Nat.succ i)) && !(Nat.beq (Nat.succ q.1) i && Nat.beq (ct q.2) 2)))) = k' (lv.filter (fun q => !(Nat.beq q.1 i) && (!(Nat.beq q.1 (Nat.succ i)) && !(Nat.beq (Nat.succ q.1) i && Nat.beq (ct q.2) 2)))) := by rw [← hk]
  rw [this]
  clear this hk
  induction lv generalizing k' with
  | nil => rfl
  | cons q t ih =>
    rw [List.filter_cons]
    cases hb : (!(Nat.beq q.1 i) && (!(Nat.beq q.1 (Nat.succ i)) && !(Nat.beq (Nat.succ q.1) i && Nat.beq (ct q.2) 2))) with
    | true =>
      show (bif (!(Nat.beq q.1 i) && (!(Nat.beq q.1 (Nat.succ i)) && !(Nat.beq (Nat.succ q.1) i && Nat.beq (ct q.2) 2))) then _ else _) = _
      rw [hb]
      exact ih (fun t => k' (q :: t))
    | false =>
      show (bif (!(Nat.beq q.1 i) && (!(Nat.beq q.1 (Nat.succ i)) && !(Nat.beq (Nat.succ q.1) i && Nat.beq (ct q.2) 2))) then _ else _) = _
      rw [hb]
      exact ih k'
end
section
/-! rules: locals, constants, the stack, arithmetic, branches -/
theorem s_ildI {p : Program} {l : Launch} {e : Env} {R : Room} {s : State} {m : MethodId} {args : Array Value} {below : List Frame} {meth : Method} {c : Code} {Q : State → Prop} {sg : Nat → Int32} {b B L : Nat} {dC : Nat → ClassId} {dI : Nat → Nat → Nat} {cy : Nat → ClassId} {cc : ByteArray} {nL own : Nat} {ini : Bool} {ret : Option FieldType} {mc ms : Nat} {E : rE} {pc : Nat} {lv : rK} {st : List rV} {aw : rD} {cn z : Nat} {o : rO} {i w : Nat} (hrow : ∀ (x : Int32) (H : Heap) (locs : List Loc) (cn z : Nat) (ls : Array Slot) (rest : List Value), ls[i]? = some (.val (.int x)) → W p l e R s m args below meth c H locs cn z Q (F0 m (pc + w) ls (.int x :: rest)) → W p l e R s m args below meth c H locs cn z Q (F0 m pc ls rest)) (h : h_ildI i w tT own ret ini mc ms L E pc lv st aw cn z = some o) : Sem p l e R s m args below meth c Q sg b B cy dC dI nL cc own ret mc ms o (pc, lv, st, aw, cn, z) := by
  unfold h_ildI at h
  split at h
  · next v hv =>
    cases h
    intro k aw' H locs ls hr hP hH hS hl
    exact hrow _ H locs _ _ ls _ (clv_at hl hv) (k aw' H locs ls hr hP hH hS hl)
  · cases h
theorem s_ildA {p : Program} {l : Launch} {e : Env} {R : Room} {s : State} {m : MethodId} {args : Array Value} {below : List Frame} {meth : Method} {c : Code} {Q : State → Prop} {sg : Nat → Int32} {b B L : Nat} {dC : Nat → ClassId} {dI : Nat → Nat → Nat} {cy : Nat → ClassId} {cc : ByteArray} {nL own : Nat} {ini : Bool} {ret : Option FieldType} {mc ms : Nat} {E : rE} {pc : Nat} {lv : rK} {st : List rV} {aw : rD} {cn z : Nat} {o : rO} {i w : Nat} (hrow : ∀ (x : Nat) (H : Heap) (locs : List Loc) (cn z : Nat) (ls : Array Slot) (rest : List Value), ls[i]? = some (.val (.ref x)) → W p l e R s m args below meth c H locs cn z Q (F0 m (pc + w) ls (.ref x :: rest)) → W p l e R s m args below meth c H locs cn z Q (F0 m pc ls rest)) (h : h_ildA i w tT own ret ini mc ms L E pc lv st aw cn z = some o) : Sem p l e R s m args below meth c Q sg b B cy dC dI nL cc own ret mc ms o (pc, lv, st, aw, cn, z) := by
  unfold h_ildA at h
  split at h
  · next v hv =>
    cases h
    intro k aw' H locs ls hr hP hH hS hl
    exact hrow _ H locs _ _ ls _ (clv_at hl hv) (k aw' H locs ls hr hP hH hS hl)
  · cases h
theorem s_ildL {p : Program} {l : Launch} {e : Env} {R : Room} {s : State} {m : MethodId} {args : Array Value} {below : List Frame} {meth : Method} {c : Code} {Q : State → Prop} {sg : Nat → Int32} {b B L : Nat} {dC : Nat → ClassId} {dI : Nat → Nat → Nat} {cy : Nat → ClassId} {cc : ByteArray} {nL own : Nat} {ini : Bool} {ret : Option FieldType} {mc ms : Nat} {E : rE} {pc : Nat} {lv : rK} {st : List rV} {aw : rD} {cn z : Nat} {o : rO} {i w : Nat} (hrow : ∀ (x : Int64) (H : Heap) (locs : List Loc) (cn z : Nat) (ls : Array Slot) (rest : List Value), ls[i]? = some (.val (.long x)) → W p l e R s m args below meth c H locs cn z Q (F0 m (pc + w) ls (.long x :: rest)) → W p l e R s m args below meth c H locs cn z Q (F0 m pc ls rest)) (h : h_ildL i w tT own ret ini mc ms L E pc lv st aw cn z = some o) : Sem p l e R s m args below meth c Q sg b B cy dC dI nL cc own ret mc ms o (pc, lv, st, aw, cn, z) := by
  unfold h_ildL at h
  split at h
  · next v hv =>
    cases h
    intro k aw' H locs ls hr hP hH hS hl
    exact hrow _ H locs _ _ ls _ (clv_at hl hv) (k aw' H locs ls hr hP hH hS hl)
  · cases h
theorem s_istI {p : Program} {l : Launch} {e : Env} {R : Room} {s : State} {m : MethodId} {args : Array Value} {below : List Frame} {meth : Method} {c : Code} {Q : State → Prop} {sg : Nat → Int32} {b B L : Nat} {dC : Nat → ClassId} {dI : Nat → Nat → Nat} {cy : Nat → ClassId} {cc : ByteArray} {nL own : Nat} {ini : Bool} {ret : Option FieldType} {mc ms : Nat} {E : rE} {pc : Nat} {lv : rK} {st : List rV} {aw : rD} {cn z : Nat} {o : rO} {i w : Nat} (hrow : ∀ (x : Int32) (H : Heap) (locs : List Loc) (cn z : Nat) (ls : Array Slot) (rest : List Value) (lv lv' : List (Nat × Value)), lv_has ls nL lv → (i, Value.int x) :: lv.filter (fun q => !(q.1 == i) && !(q.1 + 1 == i && q.2.category == 2)) = lv' → (∀ ls' : Array Slot, lv_has ls' nL lv' → W p l e R s m args below meth c H locs cn z Q (F0 m (pc + w) ls' rest)) → W p l e R s m args below meth c H locs cn z Q (F0 m pc ls (.int x :: rest))) (h : h_istI i w tT own ret ini mc ms L E pc lv st aw cn z = some o) : Sem p l e R s m args below meth c Q sg b B cy dC dI nL cc own ret mc ms o (pc, lv, st, aw, cn, z) := by
  unfold h_istI at h
  split at h
  · next v r =>
    rw [lput_eq] at h
    cases h
    intro k aw' H locs ls hr hP hH hS hl
    exact hrow _ H locs _ _ ls _ _ _ hl (by rw [clv_filter]; rfl) (fun ls' hl' => k aw' H locs ls' hr hP hH hS hl')
  · cases h
theorem s_istA {p : Program} {l : Launch} {e : Env} {R : Room} {s : State} {m : MethodId} {args : Array Value} {below : List Frame} {meth : Method} {c : Code} {Q : State → Prop} {sg : Nat → Int32} {b B L : Nat} {dC : Nat → ClassId} {dI : Nat → Nat → Nat} {cy : Nat → ClassId} {cc : ByteArray} {nL own : Nat} {ini : Bool} {ret : Option FieldType} {mc ms : Nat} {E : rE} {pc : Nat} {lv : rK} {st : List rV} {aw : rD} {cn z : Nat} {o : rO} {i w : Nat} (hrow : ∀ (x : Nat) (H : Heap) (locs : List Loc) (cn z : Nat) (ls : Array Slot) (rest : List Value) (lv lv' : List (Nat × Value)), lv_has ls nL lv → (i, Value.ref x) :: lv.filter (fun q => !(q.1 == i) && !(q.1 + 1 == i && q.2.category == 2)) = lv' → (∀ ls' : Array Slot, lv_has ls' nL lv' → W p l e R s m args below meth c H locs cn z Q (F0 m (pc + w) ls' rest)) → W p l e R s m args below meth c H locs cn z Q (F0 m pc ls (.ref x :: rest))) (h : h_istA i w tT own ret ini mc ms L E pc lv st aw cn z = some o) : Sem p l e R s m args below meth c Q sg b B cy dC dI nL cc own ret mc ms o (pc, lv, st, aw, cn, z) := by
  unfold h_istA at h
  split at h
  · next v r =>
    rw [lput_eq] at h
    cases h
    intro k aw' H locs ls hr hP hH hS hl
    exact hrow _ H locs _ _ ls _ _ _ hl (by rw [clv_filter]; rfl) (fun ls' hl' => k aw' H locs ls' hr hP hH hS hl')
  · cases h
theorem s_istL {p : Program} {l : Launch} {e : Env} {R : Room} {s : State} {m : MethodId} {args : Array Value} {below : List Frame} {meth : Method} {c : Code} {Q : State → Prop} {sg : Nat → Int32} {b B L : Nat} {dC : Nat → ClassId} {dI : Nat → Nat → Nat} {cy : Nat → ClassId} {cc : ByteArray} {nL own : Nat} {ini : Bool} {ret : Option FieldType} {mc ms : Nat} {E : rE} {pc : Nat} {lv : rK} {st : List rV} {aw : rD} {cn z : Nat} {o : rO} {i w : Nat} (hrow : ∀ (x : Int64) (H : Heap) (locs : List Loc) (cn z : Nat) (ls : Array Slot) (rest : List Value) (lv lv' : List (Nat × Value)), lv_has ls nL lv → (i, Value.long x) :: lv.filter (fun q => !(q.1 == i) && (!(q.1 == i + 1) && !(q.1 + 1 == i && q.2.category == 2))) = lv' → (∀ ls' : Array Slot, lv_has ls' nL lv' → W p l e R s m args below meth c H locs cn z Q (F0 m (pc + w) ls' rest)) → W p l e R s m args below meth c H locs cn z Q (F0 m pc ls (.long x :: rest))) (h : h_istL i w tT own ret ini mc ms L E pc lv st aw cn z = some o) : Sem p l e R s m args below meth c Q sg b B cy dC dI nL cc own ret mc ms o (pc, lv, st, aw, cn, z) := by
  unfold h_istL at h
  split at h
  · next v r =>
    rw [lput2_eq] at h
    cases h
    intro k aw' H locs ls hr hP hH hS hl
    exact hrow _ H locs _ _ ls _ _ _ hl (by rw [clv_filter2]; rfl) (fun ls' hl' => k aw' H locs ls' hr hP hH hS hl')
  · cases h
theorem s_con {p : Program} {l : Launch} {e : Env} {R : Room} {s : State} {m : MethodId} {args : Array Value} {below : List Frame} {meth : Method} {c : Code} {Q : State → Prop} {sg : Nat → Int32} {b B L : Nat} {dC : Nat → ClassId} {dI : Nat → Nat → Nat} {cy : Nat → ClassId} {cc : ByteArray} {nL own : Nat} {ini : Bool} {ret : Option FieldType} {mc ms : Nat} {E : rE} {pc : Nat} {lv : rK} {st : List rV} {aw : rD} {cn z : Nat} {o : rO} {n w : Nat} {x : Int32} (hx : ri sg n = x) (hrow : ∀ (H : Heap) (locs : List Loc) (cn z : Nat) (ls : Array Slot) (rest : List Value), W p l e R s m args below meth c H locs cn z Q (F0 m (pc + w) ls (.int x :: rest)) → W p l e R s m args below meth c H locs cn z Q (F0 m pc ls rest)) (h : h_con n w tT own ret ini mc ms L E pc lv st aw cn z = some o) : Sem p l e R s m args below meth c Q sg b B cy dC dI nL cc own ret mc ms o (pc, lv, st, aw, cn, z) := by
  unfold h_con at h
  cases h
  intro k aw' H locs ls hr hP hH hS hl
  refine hrow H locs _ _ ls _ ?_
  have := k aw' H locs ls hr hP hH hS hl
  rw [← hx]
  exact this
theorem s_conL {p : Program} {l : Launch} {e : Env} {R : Room} {s : State} {m : MethodId} {args : Array Value} {below : List Frame} {meth : Method} {c : Code} {Q : State → Prop} {sg : Nat → Int32} {b B L : Nat} {dC : Nat → ClassId} {dI : Nat → Nat → Nat} {cy : Nat → ClassId} {cc : ByteArray} {nL own : Nat} {ini : Bool} {ret : Option FieldType} {mc ms : Nat} {E : rE} {pc : Nat} {lv : rK} {st : List rV} {aw : rD} {cn z : Nat} {o : rO} {n w : Nat} {x : Int64} (hx : lN n = x) (hrow : ∀ (H : Heap) (locs : List Loc) (cn z : Nat) (ls : Array Slot) (rest : List Value), W p l e R s m args below meth c H locs cn z Q (F0 m (pc + w) ls (.long x :: rest)) → W p l e R s m args below meth c H locs cn z Q (F0 m pc ls rest)) (h : h_conL n w tT own ret ini mc ms L E pc lv st aw cn z = some o) : Sem p l e R s m args below meth c Q sg b B cy dC dI nL cc own ret mc ms o (pc, lv, st, aw, cn, z) := by
  unfold h_conL at h
  cases h
  intro k aw' H locs ls hr hP hH hS hl
  refine hrow H locs _ _ ls _ ?_
  have := k aw' H locs ls hr hP hH hS hl
  rw [← hx]
  exact this
theorem s_ldcw {p : Program} {l : Launch} {e : Env} {R : Room} {s : State} {m : MethodId} {args : Array Value} {below : List Frame} {meth : Method} {c : Code} {Q : State → Prop} {sg : Nat → Int32} {b B L : Nat} {xs : Nat → Int32} {dC : Nat → ClassId} {dI : Nat → Nat → Nat} {cy : Nat → ClassId} {cc : ByteArray} {nL own : Nat} {ini : Bool} {ret : Option FieldType} {mc ms : Nat} {E : rE} {pc : Nat} {lv : rK} {st : List rV} {aw : rD} {cn z : Nat} {o : rO} {i : Nat} (F : FF p s m args meth c cc nL own ini b B L xs dC dI cy) (hO : OT) (hdg : decode cc pc = .ok (.ldc_w i, 3)) (hown : own < 100) (h : h_ldcw i tT own ret ini mc ms L E pc lv st aw cn z = some o) : Sem p l e R s m args below meth c Q sg b B cy dC dI nL cc own ret mc ms o (pc, lv, st, aw, cn, z) := by
  obtain ⟨hx, hb, hml, ho, hts, hsf, hin⟩ := F
  unfold h_ldcw at h
  split at h
  · next n hn =>
    cases hbb : Nat.ble n 4294967295 with
    | false => rw [hbb] at h; cases h
    | true =>
      rw [hbb, cond_true] at h
      cases h
      intro k aw' H locs ls hr hP hH hS hl
      refine lv_ldcw hx hb ho (hts _ ((hO.2.2.2.1 own i n (kf_mem hn)).1 hown)) hdg ?_
      have := k aw' H locs ls hr hP hH hS hl
      have e : ri sg n = nI n := ri_c (Nat.lt_succ_of_le (Nat.le_of_ble_eq_true hbb))
      rw [← e]
      exact this
  · cases h
theorem s_ldc2 {p : Program} {l : Launch} {e : Env} {R : Room} {s : State} {m : MethodId} {args : Array Value} {below : List Frame} {meth : Method} {c : Code} {Q : State → Prop} {sg : Nat → Int32} {b B L : Nat} {xs : Nat → Int32} {dC : Nat → ClassId} {dI : Nat → Nat → Nat} {cy : Nat → ClassId} {cc : ByteArray} {nL own : Nat} {ini : Bool} {ret : Option FieldType} {mc ms : Nat} {E : rE} {pc : Nat} {lv : rK} {st : List rV} {aw : rD} {cn z : Nat} {o : rO} {i : Nat} (F : FF p s m args meth c cc nL own ini b B L xs dC dI cy) (hO : OT) (hdg : decode cc pc = .ok (.ldc2_w i, 3)) (h : h_ldc2 i tT own ret ini mc ms L E pc lv st aw cn z = some o) : Sem p l e R s m args below meth c Q sg b B cy dC dI nL cc own ret mc ms o (pc, lv, st, aw, cn, z) := by
  obtain ⟨hx, hb, hml, ho, hts, hsf, hin⟩ := F
  unfold h_ldc2 at h
  split at h
  · next n hn =>
    cases h
    intro k aw' H locs ls hr hP hH hS hl
    have h1 := (hO.2.2.2.1 (Nat.add 100 own) i n (kf_mem hn)).2 (Nat.le_add_right 100 own)
    have e : Nat.add 100 own - 100 = own := Nat.add_sub_cancel_left 100 own
    rw [e] at h1
    exact lv_ldc2 hx hb ho (hts _ h1) hdg (k aw' H locs ls hr hP hH hS hl)
  · cases h
theorem s_iinc {p : Program} {l : Launch} {e : Env} {R : Room} {s : State} {m : MethodId} {args : Array Value} {below : List Frame} {meth : Method} {c : Code} {Q : State → Prop} {sg : Nat → Int32} {b B L : Nat} {xs : Nat → Int32} {dC : Nat → ClassId} {dI : Nat → Nat → Nat} {cy : Nat → ClassId} {cc : ByteArray} {nL own : Nat} {ini : Bool} {ret : Option FieldType} {mc ms : Nat} {E : rE} {pc : Nat} {lv : rK} {st : List rV} {aw : rD} {cn z : Nat} {o : rO} {i : Nat} {n : Int} (F : FF p s m args meth c cc nL own ini b B L xs dC dI cy) (hE : eOK sg E) (hdg : decode cc pc = .ok (.iinc i n, 3)) (hi : i < nL) (h : h_iinc i n tT own ret ini mc ms L E pc lv st aw cn z = some o) : Sem p l e R s m args below meth c Q sg b B cy dC dI nL cc own ret mc ms o (pc, lv, st, aw, cn, z) := by
  obtain ⟨hx, hb, hml, ho, hts, hsf, hin⟩ := F
  unfold h_iinc at h
  split at h
  · next v hv =>
    split at h
    · next a ha =>
      rw [fN_eq, lput_eq] at h
      cases h
      intro k aw' H locs ls hr hP hH hS hl
      have hmem := clv_mem (sg := sg) (b := b) (B := B) hv
      obtain ⟨q, hq⟩ := List.getElem?_of_mem hmem
      refine lv_iinc (v := nI a + Int32.ofInt n) hx hb hdg hl (k := q) hq ?_ hi (by rw [clv_filter]) (fun ls' hl' => k aw' H locs ls' hr hP hH hS ?_)
      · rw [(nd_ok hE ha).2]
      · have e : ri sg (cN (nI a + Int32.ofInt n)) = nI a + Int32.ofInt n := ri_cN _
        show lv_has ls' nL ((i, Value.int (ri sg (cN (nI a + Int32.ofInt n)))) :: _)
        rw [e]
        exact hl'
    · cases h
  · cases h
theorem tg_ok {pc t : Nat} {off : Int} (h : tg pc off = some t) : (pc : Int) + off = (t : Int) := by
  unfold tg at h
  split at h
  · next t' ht => cases h; exact ht
  · cases h
theorem s_goto {p : Program} {l : Launch} {e : Env} {R : Room} {s : State} {m : MethodId} {args : Array Value} {below : List Frame} {meth : Method} {c : Code} {Q : State → Prop} {sg : Nat → Int32} {b B L : Nat} {xs : Nat → Int32} {dC : Nat → ClassId} {dI : Nat → Nat → Nat} {cy : Nat → ClassId} {cc : ByteArray} {nL own : Nat} {ini : Bool} {ret : Option FieldType} {mc ms : Nat} {E : rE} {pc : Nat} {lv : rK} {st : List rV} {aw : rD} {cn z : Nat} {o : rO} {off : Int} (F : FF p s m args meth c cc nL own ini b B L xs dC dI cy) (hdg : decode cc pc = .ok (.goto off, 3)) (h : h_goto off tT own ret ini mc ms L E pc lv st aw cn z = some o) : Sem p l e R s m args below meth c Q sg b B cy dC dI nL cc own ret mc ms o (pc, lv, st, aw, cn, z) := by
  obtain ⟨hx, hb, hml, ho, hts, hsf, hin⟩ := F
  unfold h_goto at h
  split at h
  · next t ht =>
    cases h
    intro k aw' H locs ls hr hP hH hS hl
    exact lv_goto hx hb hdg (tg_ok ht) (k aw' H locs ls hr hP hH hS hl)
  · cases h
theorem s_dup {p : Program} {l : Launch} {e : Env} {R : Room} {s : State} {m : MethodId} {args : Array Value} {below : List Frame} {meth : Method} {c : Code} {Q : State → Prop} {sg : Nat → Int32} {b B L : Nat} {xs : Nat → Int32} {dC : Nat → ClassId} {dI : Nat → Nat → Nat} {cy : Nat → ClassId} {cc : ByteArray} {nL own : Nat} {ini : Bool} {ret : Option FieldType} {mc ms : Nat} {E : rE} {pc : Nat} {lv : rK} {st : List rV} {aw : rD} {cn z : Nat} {o : rO} (F : FF p s m args meth c cc nL own ini b B L xs dC dI cy) (hdg : decode cc pc = .ok (.dup, 1)) (h : h_dup tT own ret ini mc ms L E pc lv st aw cn z = some o) : Sem p l e R s m args below meth c Q sg b B cy dC dI nL cc own ret mc ms o (pc, lv, st, aw, cn, z) := by
  obtain ⟨hx, hb, hml, ho, hts, hsf, hin⟩ := F
  unfold h_dup at h
  split at h
  · next v r =>
    cases hc : Nat.beq (ct v) 1 with
    | false => rw [hc] at h; cases h
    | true =>
      rw [hc, cond_true] at h
      cases h
      intro k aw' H locs ls hr hP hH hS hl
      exact lv_dup hx hb hdg (by rw [ct_eq]; exact Nat.eq_of_beq_eq_true hc) (k aw' H locs ls hr hP hH hS hl)
  · cases h
theorem s_dup2 {p : Program} {l : Launch} {e : Env} {R : Room} {s : State} {m : MethodId} {args : Array Value} {below : List Frame} {meth : Method} {c : Code} {Q : State → Prop} {sg : Nat → Int32} {b B L : Nat} {xs : Nat → Int32} {dC : Nat → ClassId} {dI : Nat → Nat → Nat} {cy : Nat → ClassId} {cc : ByteArray} {nL own : Nat} {ini : Bool} {ret : Option FieldType} {mc ms : Nat} {E : rE} {pc : Nat} {lv : rK} {st : List rV} {aw : rD} {cn z : Nat} {o : rO} (F : FF p s m args meth c cc nL own ini b B L xs dC dI cy) (hdg : decode cc pc = .ok (.dup2, 1)) (h : h_dup2 tT own ret ini mc ms L E pc lv st aw cn z = some o) : Sem p l e R s m args below meth c Q sg b B cy dC dI nL cc own ret mc ms o (pc, lv, st, aw, cn, z) := by
  obtain ⟨hx, hb, hml, ho, hts, hsf, hin⟩ := F
  unfold h_dup2 at h
  split at h
  · next v w r =>
    cases hc : (Nat.beq (ct v) 1 && Nat.beq (ct w) 1) with
    | false => rw [hc] at h; cases h
    | true =>
      rw [hc, cond_true] at h
      cases h
      rw [Bool.and_eq_true] at hc
      intro k aw' H locs ls hr hP hH hS hl
      exact lv_dup2_11 hx hb hdg (by rw [ct_eq]; exact Nat.eq_of_beq_eq_true hc.1) (by rw [ct_eq]; exact Nat.eq_of_beq_eq_true hc.2) (k aw' H locs ls hr hP hH hS hl)
  · cases h
/-! arithmetic -/
theorem shr0 (y : Int32) : (0 : Int32) >>> y = 0 := by
  apply Int32.toBitVec_inj.mp
  simp
theorem sp_ok {sg : Nat → Int32} {L : Nat} {xs : Nat → Int32} (hs : SG sg L xs) {k x y n : Nat} (h : sp k x y = some n) : ri sg n = op k (ri sg x) (ri sg y) := by
  unfold sp at h
  split at h
  · cases h1 : Nat.beq x 0 with
    | true =>
      rw [h1, cond_true] at h
      cases h
      rw [Nat.eq_of_beq_eq_true h1]
      show ri sg y = nI 0 + ri sg y
      rw [nI_0]
      simp
    | false =>
      rw [h1, cond_false] at h
      cases h2 : Nat.beq y 0 with
      | false => rw [h2] at h; cases h
      | true =>
        rw [h2, cond_true] at h
        cases h
        rw [Nat.eq_of_beq_eq_true h2]
        show ri sg x = ri sg x + nI 0
        rw [nI_0]
        simp
  · cases h1 : (Nat.beq y 63 && (Nat.ble 4294967296 x && Nat.ble x 4294967303)) with
    | false => rw [h1] at h; cases h
    | true =>
      rw [h1, cond_true] at h
      cases h
      rw [Bool.and_eq_true, Bool.and_eq_true] at h1
      obtain ⟨h2, h3, h4⟩ := h1
      have h2 := Nat.eq_of_beq_eq_true h2
      have h3 := Nat.le_of_ble_eq_true h3
      have h4 := Nat.le_of_ble_eq_true h4
      obtain ⟨j, rfl⟩ : ∃ j, x = 4294967296 + j := ⟨x - 4294967296, by omega⟩
      subst h2
      have e : Nat.add (4294967296 + j) 8 = 4294967296 + (j + 8) := by show 4294967296 + j + 8 = _; omega
      rw [e, ri_u, ri_u, hs.1 j (by omega)]
      rfl
  · cases h1 : Nat.beq x 0 with
    | true =>
      rw [h1, cond_true] at h
      cases h
      rw [Nat.eq_of_beq_eq_true h1]
      show nI 0 = nI 0 >>> (ri sg y &&& 31)
      rw [nI_0, shr0]
    | false =>
      rw [h1, cond_false] at h
      cases h2 : (Nat.ble 4294967296 x && (Nat.ble x 4294967303 && Nat.ble y 31)) with
      | false => rw [h2] at h; cases h
      | true =>
        rw [h2, cond_true] at h
        cases h
        rw [Bool.and_eq_true, Bool.and_eq_true] at h2
        obtain ⟨h3, h4, h5⟩ := h2
        have h3 := Nat.le_of_ble_eq_true h3
        have h4 := Nat.le_of_ble_eq_true h4
        have h5 := Nat.le_of_ble_eq_true h5
        obtain ⟨j, rfl⟩ : ∃ j, x = 4294967296 + j := ⟨x - 4294967296, by omega⟩
        have e : Nat.add 4294967312 (Nat.add (Nat.mul 32 (Nat.sub (4294967296 + j) 4294967296)) y) = 4294967296 + (16 + (32 * j + y)) := by
          show 4294967312 + (32 * (4294967296 + j - 4294967296) + y) = _
          omega
        rw [e, ri_u, ri_u, hs.2.1 j y (by omega) (by omega)]
        show _ = sg j >>> (ri sg y &&& 31)
        rw [ri_c (by omega)]
  · cases h
theorem s_aop {p : Program} {l : Launch} {e : Env} {R : Room} {s : State} {m : MethodId} {args : Array Value} {below : List Frame} {meth : Method} {c : Code} {Q : State → Prop} {sg : Nat → Int32} {b B L : Nat} {xs : Nat → Int32} {dC : Nat → ClassId} {dI : Nat → Nat → Nat} {cy : Nat → ClassId} {cc : ByteArray} {nL own : Nat} {ini : Bool} {ret : Option FieldType} {mc ms : Nat} {E : rE} {pc : Nat} {lv : rK} {st : List rV} {aw : rD} {cn z : Nat} {o : rO} {k : Nat} (hs : SG sg L xs) (hE : eOK sg E) (hrow : ∀ (x y : Int32) (H : Heap) (locs : List Loc) (cn z : Nat) (ls : Array Slot) (rest : List Value), (8 ≤ k → ¬ y = 0) → W p l e R s m args below meth c H locs cn z Q (F0 m (pc + 1) ls (.int (op k x y) :: rest)) → W p l e R s m args below meth c H locs cn z Q (F0 m pc ls (.int y :: .int x :: rest))) (hk : 8 ≤ k → ∀ x y, sp k x y = none) (h : h_aop k tT own ret ini mc ms L E pc lv st aw cn z = some o) : Sem p l e R s m args below meth c Q sg b B cy dC dI nL cc own ret mc ms o (pc, lv, st, aw, cn, z) := by
  unfold h_aop aop at h
  have fin : ∀ (x y n : Nat) (r : List rV), ri sg n = op k (ri sg x) (ri sg y) → (8 ≤ k → ¬ ri sg y = 0) → Wx p l e R s m args below meth c Q sg b B cy dC dI nL (Nat.add pc 1, lv, .inl n :: r, aw, cn, z) → Wx p l e R s m args below meth c Q sg b B cy dC dI nL (pc, lv, .inl y :: .inl x :: r, aw, cn, z) := by
    intro x y n r e h8 kk aw' H locs ls hr hP hH hS hl
    refine hrow (ri sg x) (ri sg y) H locs _ _ ls _ h8 ?_
    rw [← e]
    exact kk aw' H locs ls hr hP hH hS hl
  have spz : ∀ (x : Nat) (q : rO), spl E x = some q → Sem p l e R s m args below meth c Q sg b B cy dC dI nL cc own ret mc ms q (pc, lv, st, aw, cn, z) := by
    intro x q hq
    unfold spl at hq
    cases hb : (Nat.ble 4294967296 x && Nat.ble (Nat.sub (iv E x).2 (iv E x).1) 64) with
    | false => rw [hb] at hq; cases hq
    | true => rw [hb, cond_true] at hq; cases hq; exact True.intro
  split at h
  · next y x r =>
    split at h
    · next a ha =>
      split at h
      · next d hd =>
        cases hz : (Nat.ble 8 k && Nat.beq d 0) with
        | true => rw [hz] at h; cases h
        | false =>
          rw [hz, cond_false, fN_eq] at h
          cases h
          refine fin x y _ r ?_ ?_
          · rw [ri_cN, (nd_ok hE ha).2, (nd_ok hE hd).2]
          · intro h8 h0
            rw [Bool.and_eq_false_iff] at hz
            rcases hz with hz | hz
            · rw [Nat.ble_eq_true_of_le h8] at hz
              cases hz
            · rw [(nd_ok hE hd).2] at h0
              have e0 : nI d = nI 0 := h0
              have e1 := congrArg bz e0
              rw [bz_nI (nd_ok hE hd).1, bz_nI (by decide)] at e1
              have e2 := congrArg un e1
              rw [un_un (nd_ok hE hd).1, un_un (by decide)] at e2
              subst e2
              cases hz
      · split at h
        · next n hn =>
          cases h
          refine fin x y n r (sp_ok hs hn) (fun h8 => ?_)
          rw [hk h8] at hn
          cases hn
        · exact spz y o h
    · split at h
      · next n hn =>
        cases h
        refine fin x y n r (sp_ok hs hn) (fun h8 => ?_)
        rw [hk h8] at hn
        cases hn
      · exact spz x o h
  · cases h
theorem s_aopL {p : Program} {l : Launch} {e : Env} {R : Room} {s : State} {m : MethodId} {args : Array Value} {below : List Frame} {meth : Method} {c : Code} {Q : State → Prop} {sg : Nat → Int32} {b B L : Nat} {dC : Nat → ClassId} {dI : Nat → Nat → Nat} {cy : Nat → ClassId} {cc : ByteArray} {nL own : Nat} {ini : Bool} {ret : Option FieldType} {mc ms : Nat} {E : rE} {pc : Nat} {lv : rK} {st : List rV} {aw : rD} {cn z : Nat} {o : rO} {k : Nat} (hrow : ∀ (x y : Int64) (H : Heap) (locs : List Loc) (cn z : Nat) (ls : Array Slot) (rest : List Value), W p l e R s m args below meth c H locs cn z Q (F0 m (pc + 1) ls (.long (opL k x y) :: rest)) → W p l e R s m args below meth c H locs cn z Q (F0 m pc ls (.long y :: .long x :: rest))) (h : h_aopL k tT own ret ini mc ms L E pc lv st aw cn z = some o) : Sem p l e R s m args below meth c Q sg b B cy dC dI nL cc own ret mc ms o (pc, lv, st, aw, cn, z) := by
  unfold h_aopL aopL at h
  split at h
  · next y x r =>
    rw [fN_eq] at h
    cases h
    intro kk aw' H locs ls hr hP hH hS hl
    refine hrow (lN x) (lN y) H locs _ _ ls _ ?_
    rw [← lN_cL (opL k (lN x) (lN y))]
    exact kk aw' H locs ls hr hP hH hS hl
  · cases h
theorem s_aopS {p : Program} {l : Launch} {e : Env} {R : Room} {s : State} {m : MethodId} {args : Array Value} {below : List Frame} {meth : Method} {c : Code} {Q : State → Prop} {sg : Nat → Int32} {b B L : Nat} {dC : Nat → ClassId} {dI : Nat → Nat → Nat} {cy : Nat → ClassId} {cc : ByteArray} {nL own : Nat} {ini : Bool} {ret : Option FieldType} {mc ms : Nat} {E : rE} {pc : Nat} {lv : rK} {st : List rV} {aw : rD} {cn z : Nat} {o : rO} {k : Nat} (hE : eOK sg E) (hrow : ∀ (x : Int64) (y : Int32) (H : Heap) (locs : List Loc) (cn z : Nat) (ls : Array Slot) (rest : List Value), W p l e R s m args below meth c H locs cn z Q (F0 m (pc + 1) ls (.long (opS k x y) :: rest)) → W p l e R s m args below meth c H locs cn z Q (F0 m pc ls (.int y :: .long x :: rest))) (h : h_aopS k tT own ret ini mc ms L E pc lv st aw cn z = some o) : Sem p l e R s m args below meth c Q sg b B cy dC dI nL cc own ret mc ms o (pc, lv, st, aw, cn, z) := by
  unfold h_aopS aopS at h
  split at h
  · next y x r =>
    split at h
    · next d hd =>
      rw [fN_eq] at h
      cases h
      intro kk aw' H locs ls hr hP hH hS hl
      refine hrow (lN x) (ri sg y) H locs _ _ ls _ ?_
      rw [(nd_ok hE hd).2, ← lN_cL (opS k (lN x) (nI d))]
      exact kk aw' H locs ls hr hP hH hS hl
    · cases h
  · cases h
theorem s_lcmp {p : Program} {l : Launch} {e : Env} {R : Room} {s : State} {m : MethodId} {args : Array Value} {below : List Frame} {meth : Method} {c : Code} {Q : State → Prop} {sg : Nat → Int32} {b B L : Nat} {xs : Nat → Int32} {dC : Nat → ClassId} {dI : Nat → Nat → Nat} {cy : Nat → ClassId} {cc : ByteArray} {nL own : Nat} {ini : Bool} {ret : Option FieldType} {mc ms : Nat} {E : rE} {pc : Nat} {lv : rK} {st : List rV} {aw : rD} {cn z : Nat} {o : rO} (F : FF p s m args meth c cc nL own ini b B L xs dC dI cy) (hdg : decode cc pc = .ok (.lcmp, 1)) (h : h_lcmp tT own ret ini mc ms L E pc lv st aw cn z = some o) : Sem p l e R s m args below meth c Q sg b B cy dC dI nL cc own ret mc ms o (pc, lv, st, aw, cn, z) := by
  obtain ⟨hx, hb, hml, ho, hts, hsf, hin⟩ := F
  unfold h_lcmp at h
  split at h
  · next y x r =>
    rw [fN_eq] at h
    cases h
    intro kk aw' H locs ls hr hP hH hS hl
    refine W.lcmp hx hb hdg ?_
    rw [← ri_cN (sg := sg) (lg_cmp (lN x) (lN y))]
    exact kk aw' H locs ls hr hP hH hS hl
  · cases h
theorem s_l2i {p : Program} {l : Launch} {e : Env} {R : Room} {s : State} {m : MethodId} {args : Array Value} {below : List Frame} {meth : Method} {c : Code} {Q : State → Prop} {sg : Nat → Int32} {b B L : Nat} {xs : Nat → Int32} {dC : Nat → ClassId} {dI : Nat → Nat → Nat} {cy : Nat → ClassId} {cc : ByteArray} {nL own : Nat} {ini : Bool} {ret : Option FieldType} {mc ms : Nat} {E : rE} {pc : Nat} {lv : rK} {st : List rV} {aw : rD} {cn z : Nat} {o : rO} (F : FF p s m args meth c cc nL own ini b B L xs dC dI cy) (hdg : decode cc pc = .ok (.l2i, 1)) (h : h_l2i tT own ret ini mc ms L E pc lv st aw cn z = some o) : Sem p l e R s m args below meth c Q sg b B cy dC dI nL cc own ret mc ms o (pc, lv, st, aw, cn, z) := by
  obtain ⟨hx, hb, hml, ho, hts, hsf, hin⟩ := F
  unfold h_l2i at h
  split at h
  · next x r =>
    rw [fN_eq] at h
    cases h
    intro kk aw' H locs ls hr hP hH hS hl
    refine lv_l2i hx hb hdg rfl ?_
    rw [← ri_cN (sg := sg) ((lN x).toInt32)]
    exact kk aw' H locs ls hr hP hH hS hl
  · cases h
theorem s_i2b {p : Program} {l : Launch} {e : Env} {R : Room} {s : State} {m : MethodId} {args : Array Value} {below : List Frame} {meth : Method} {c : Code} {Q : State → Prop} {sg : Nat → Int32} {b B L : Nat} {xs : Nat → Int32} {dC : Nat → ClassId} {dI : Nat → Nat → Nat} {cy : Nat → ClassId} {cc : ByteArray} {nL own : Nat} {ini : Bool} {ret : Option FieldType} {mc ms : Nat} {E : rE} {pc : Nat} {lv : rK} {st : List rV} {aw : rD} {cn z : Nat} {o : rO} (F : FF p s m args meth c cc nL own ini b B L xs dC dI cy) (hs : SG sg L xs) (hdg : decode cc pc = .ok (.i2b, 1)) (h : h_i2b tT own ret ini mc ms L E pc lv st aw cn z = some o) : Sem p l e R s m args below meth c Q sg b B cy dC dI nL cc own ret mc ms o (pc, lv, st, aw, cn, z) := by
  obtain ⟨hx, hb, hml, ho, hts, hsf, hin⟩ := F
  unfold h_i2b at h
  split at h
  · next x r =>
    cases h1 : (Nat.ble 4294967312 x && Nat.ble x 4294967807) with
    | false => rw [h1] at h; cases h
    | true =>
      rw [h1, cond_true] at h
      cases h
      rw [Bool.and_eq_true] at h1
      have h3 := Nat.le_of_ble_eq_true h1.1
      have h4 := Nat.le_of_ble_eq_true h1.2
      obtain ⟨j, rfl⟩ : ∃ j, x = 4294967296 + j := ⟨x - 4294967296, by omega⟩
      intro kk aw' H locs ls hr hP hH hS hl
      refine lv_i2b hx hb hdg rfl ?_
      have e : Nat.add (4294967296 + j) 512 = 4294967296 + (j + 512) := by show 4294967296 + j + 512 = _; omega
      have e2 : ri sg (Nat.add (4294967296 + j) 512) = (ri sg (4294967296 + j)).toInt8.toInt32 := by
        rw [e, ri_u, ri_u, hs.2.2.1 j (by omega) (by omega)]
      rw [← e2]
      exact kk aw' H locs ls hr hP hH hS hl
  · cases h
end
section
/-! rules: branches, switches, the ends -/
theorem ltD_ok {sg : Nat → Int32} {E : rE} (hE : eOK sg E) {x y : Nat} {w : Bool} (h : ltD E x y = some (.inl w)) : (ri sg x < ri sg y ↔ w = true) := by
  have h1 := iv_ok hE x
  have h2 := iv_ok hE y
  rw [bz_lt]
  unfold ltD at h
  cases c1 : Nat.blt (iv E x).2 (iv E y).1 with
  | true =>
    rw [c1, cond_true] at h
    cases h
    have : (iv E x).2 < (iv E y).1 := Nat.le_of_ble_eq_true c1
    exact ⟨fun _ => rfl, fun _ => by omega⟩
  | false =>
    rw [c1, cond_false] at h
    cases c2 : Nat.ble (iv E y).2 (iv E x).1 with
    | true =>
      rw [c2, cond_true] at h
      cases h
      have : (iv E y).2 ≤ (iv E x).1 := Nat.le_of_ble_eq_true c2
      exact ⟨fun q => by omega, fun q => by cases q⟩
    | false =>
      rw [c2, cond_false] at h
      cases c3 : (Nat.beq (iv E y).1 (iv E y).2 && Nat.ble 4294967296 x) with
      | true => rw [c3, cond_true] at h; cases h
      | false =>
        rw [c3, cond_false] at h
        cases c4 : (Nat.beq (iv E x).1 (iv E x).2 && Nat.ble 4294967296 y) with
        | true => rw [c4, cond_true] at h; cases h
        | false => rw [c4, cond_false] at h; cases h
theorem eqD_ok {sg : Nat → Int32} {E : rE} (hE : eOK sg E) {x y : Nat} {w : Bool} (h : eqD E x y = some (.inl w)) : (ri sg x = ri sg y ↔ w = true) := by
  have h1 := iv_ok hE x
  have h2 := iv_ok hE y
  rw [bz_eq]
  unfold eqD at h
  cases c1 : Nat.blt (iv E x).2 (iv E y).1 with
  | true =>
    rw [c1, cond_true] at h
    cases h
    have : (iv E x).2 < (iv E y).1 := Nat.le_of_ble_eq_true c1
    exact ⟨fun q => by omega, fun q => by cases q⟩
  | false =>
    rw [c1, cond_false] at h
    cases c2 : Nat.blt (iv E y).2 (iv E x).1 with
    | true =>
      rw [c2, cond_true] at h
      cases h
      have : (iv E y).2 < (iv E x).1 := Nat.le_of_ble_eq_true c2
      exact ⟨fun q => by omega, fun q => by cases q⟩
    | false =>
      rw [c2, cond_false] at h
      cases c5 : (Nat.ble (iv E x).2 (iv E y).1 && Nat.ble (iv E y).2 (iv E x).1) with
      | true =>
        rw [c5, cond_true] at h
        cases h
        rw [Bool.and_eq_true] at c5
        have g1 := Nat.le_of_ble_eq_true c5.1
        have g2 := Nat.le_of_ble_eq_true c5.2
        exact ⟨fun _ => rfl, fun _ => by omega⟩
      | false =>
        rw [c5, cond_false] at h
        cases c3 : (Nat.beq (iv E y).1 (iv E y).2 && Nat.ble 4294967296 x) with
        | true => rw [c3, cond_true] at h; cases h
        | false =>
          rw [c3, cond_false] at h
          cases c4 : (Nat.beq (iv E x).1 (iv E x).2 && Nat.ble 4294967296 y) with
          | true => rw [c4, cond_true] at h; cases h
          | false => rw [c4, cond_false] at h; cases h
/-- the condition of a branch -/
def cnd (q : ClassFile.Cond) (x y : Int32) : Prop := match q with
  | .eq => x = y
  | .ne => ¬ x = y
  | .lt => x < y
  | .ge => ¬ x < y
  | .gt => y < x
  | .le => ¬ y < x
theorem cmpD_ok {sg : Nat → Int32} {E : rE} (hE : eOK sg E) {q : ClassFile.Cond} {x y : Nat} {w : Bool} (h : cmpD E q x y = some (.inl w)) : (cnd q (ri sg x) (ri sg y) ↔ Bool.xor w (neg q) = true) := by
  cases q with
  | eq => rw [show cnd .eq (ri sg x) (ri sg y) = (ri sg x = ri sg y) from rfl, eqD_ok hE h]; simp [neg]
  | ne => rw [show cnd .ne (ri sg x) (ri sg y) = (¬ ri sg x = ri sg y) from rfl, eqD_ok hE h]; simp [neg]
  | lt => rw [show cnd .lt (ri sg x) (ri sg y) = (ri sg x < ri sg y) from rfl, ltD_ok hE h]; simp [neg]
  | ge => rw [show cnd .ge (ri sg x) (ri sg y) = (¬ ri sg x < ri sg y) from rfl, ltD_ok hE h]; simp [neg]
  | gt => rw [show cnd .gt (ri sg x) (ri sg y) = (ri sg y < ri sg x) from rfl, ltD_ok hE h]; simp [neg]
  | le => rw [show cnd .le (ri sg x) (ri sg y) = (¬ ri sg y < ri sg x) from rfl, ltD_ok hE h]; simp [neg]
theorem nlt_le {x y : Int32} : (¬ x < y) ↔ y ≤ x := by
  rw [bz_lt, bz_le]
  omega
theorem r_icmp {p : Program} {l : Launch} {e : Env} {R : Room} {s : State} {m : MethodId} {args : Array Value} {below : List Frame} {meth : Method} {c : Code} {Q : State → Prop} {cc : ByteArray} {pc : Nat} {q : ClassFile.Cond} {off : Int} {tgt : Nat} (hx : p.tables.exec = Jvm.exec) (hb : c.code = cc) (hdg : decode cc pc = .ok (.if_icmp q off, 3)) (ht : (pc : Int) + off = (tgt : Int)) {x y : Int32} {H : Heap} {locs : List Loc} {cn z : Nat} {ls : Array Slot} {rest : List Value} (kt : cnd q x y → W p l e R s m args below meth c H locs cn z Q (F0 m tgt ls rest)) (kf : ¬ cnd q x y → W p l e R s m args below meth c H locs cn z Q (F0 m (pc + 3) ls rest)) : W p l e R s m args below meth c H locs cn z Q (F0 m pc ls (.int y :: .int x :: rest)) := by
  cases q with
  | eq => exact lv_icmp_eq hx hb hdg ht (fun h => kt h) (fun h => kf h)
  | ne => exact lv_icmp_ne hx hb hdg ht (fun h => kt h) (fun h => kf (fun g => g h))
  | lt => exact lv_icmp_lt hx hb hdg ht (fun h => kt h) (fun h => kf h)
  | ge => exact lv_icmp_ge hx hb hdg ht (fun h => kt (nlt_le.mpr h)) (fun h => kf (fun g => h (nlt_le.mp g)))
  | gt => exact lv_icmp_gt hx hb hdg ht (fun h => kt h) (fun h => kf h)
  | le => exact lv_icmp_le hx hb hdg ht (fun h => kt (nlt_le.mpr h)) (fun h => kf (fun g => h (nlt_le.mp g)))
theorem r_if {p : Program} {l : Launch} {e : Env} {R : Room} {s : State} {m : MethodId} {args : Array Value} {below : List Frame} {meth : Method} {c : Code} {Q : State → Prop} {cc : ByteArray} {pc : Nat} {q : ClassFile.Cond} {off : Int} {tgt : Nat} (hx : p.tables.exec = Jvm.exec) (hb : c.code = cc) (hdg : decode cc pc = .ok (.ifCond q off, 3)) (ht : (pc : Int) + off = (tgt : Int)) {x : Int32} {H : Heap} {locs : List Loc} {cn z : Nat} {ls : Array Slot} {rest : List Value} (kt : cnd q x 0 → W p l e R s m args below meth c H locs cn z Q (F0 m tgt ls rest)) (kf : ¬ cnd q x 0 → W p l e R s m args below meth c H locs cn z Q (F0 m (pc + 3) ls rest)) : W p l e R s m args below meth c H locs cn z Q (F0 m pc ls (.int x :: rest)) := by
  cases q with
  | eq => exact lv_if_eq hx hb hdg ht (fun h => kt h) (fun h => kf h)
  | ne => exact lv_if_ne hx hb hdg ht (fun h => kt h) (fun h => kf (fun g => g h))
  | lt => exact lv_if_lt hx hb hdg ht (fun h => kt h) (fun h => kf h)
  | ge => exact lv_if_ge hx hb hdg ht (fun h => kt (nlt_le.mpr h)) (fun h => kf (fun g => h (nlt_le.mp g)))
  | gt => exact lv_if_gt hx hb hdg ht (fun h => kt h) (fun h => kf h)
  | le => exact lv_if_le hx hb hdg ht (fun h => kt (nlt_le.mpr h)) (fun h => kf (fun g => h (nlt_le.mp g)))
theorem s_abr {p : Program} {l : Launch} {e : Env} {R : Room} {s : State} {m : MethodId} {args : Array Value} {below : List Frame} {meth : Method} {c : Code} {Q : State → Prop} {sg : Nat → Int32} {b B : Nat} {dC : Nat → ClassId} {dI : Nat → Nat → Nat} {cy : Nat → ClassId} {cc : ByteArray} {nL own : Nat} {ret : Option FieldType} {mc ms : Nat} {E : rE} {pc : Nat} {lv : rK} {aw : rD} {cn z : Nat} {o : rO} {q : ClassFile.Cond} {off : Int} {x y : Nat} {r st0 : List rV} (hE : eOK sg E) (hrow : ∀ (tgt : Nat) (H : Heap) (locs : List Loc) (ls : Array Slot), (pc : Int) + off = (tgt : Int) → (cnd q (ri sg x) (ri sg y) → W p l e R s m args below meth c H locs cn z Q (F0 m tgt ls (r.map (rv sg b B)))) → (¬ cnd q (ri sg x) (ri sg y) → W p l e R s m args below meth c H locs cn z Q (F0 m (pc + 3) ls (r.map (rv sg b B)))) → W p l e R s m args below meth c H locs cn z Q (F0 m pc ls (st0.map (rv sg b B)))) (h : abr E q x y off pc lv r aw cn z = some o) : Sem p l e R s m args below meth c Q sg b B cy dC dI nL cc own ret mc ms o (pc, lv, st0, aw, cn, z) := by
  unfold abr at h
  split at h
  · cases h
  · next t ht =>
    split at h
    · next w hw =>
      have hc := cmpD_ok hE hw
      cases hz : Bool.xor w (neg q) with
      | true =>
        rw [hz, cond_true] at h
        cases h
        intro k aw' H locs ls hr hP hH hS hl
        exact hrow t H locs ls (tg_ok ht) (fun _ => k aw' H locs ls hr hP hH hS hl) (fun g => absurd (hc.mpr hz) g)
      | false =>
        rw [hz, cond_false] at h
        cases h
        intro k aw' H locs ls hr hP hH hS hl
        exact hrow t H locs ls (tg_ok ht) (fun g => absurd (hc.mp g) (by rw [hz]; decide)) (fun _ => k aw' H locs ls hr hP hH hS hl)
    · next s' _ => cases h; exact True.intro
    · cases h
      intro k1 k2 aw' H locs ls hr hP hH hS hl
      exact hrow t H locs ls (tg_ok ht) (fun _ => k1 aw' H locs ls hr hP hH hS hl) (fun _ => k2 aw' H locs ls hr hP hH hS hl)
theorem s_if2 {p : Program} {l : Launch} {e : Env} {R : Room} {s : State} {m : MethodId} {args : Array Value} {below : List Frame} {meth : Method} {c : Code} {Q : State → Prop} {sg : Nat → Int32} {b B L : Nat} {xs : Nat → Int32} {dC : Nat → ClassId} {dI : Nat → Nat → Nat} {cy : Nat → ClassId} {cc : ByteArray} {nL own : Nat} {ini : Bool} {ret : Option FieldType} {mc ms : Nat} {E : rE} {pc : Nat} {lv : rK} {st : List rV} {aw : rD} {cn z : Nat} {o : rO} {q : ClassFile.Cond} {off : Int} (F : FF p s m args meth c cc nL own ini b B L xs dC dI cy) (hE : eOK sg E) (hdg : decode cc pc = .ok (.if_icmp q off, 3)) (h : h_if2 q off tT own ret ini mc ms L E pc lv st aw cn z = some o) : Sem p l e R s m args below meth c Q sg b B cy dC dI nL cc own ret mc ms o (pc, lv, st, aw, cn, z) := by
  obtain ⟨hx, hb, hml, ho, hts, hsf, hin⟩ := F
  unfold h_if2 at h
  split at h
  · next y x r => exact s_abr hE (fun tgt H locs ls ht kt kf => r_icmp hx hb hdg ht kt kf) h
  · cases h
theorem s_if1 {p : Program} {l : Launch} {e : Env} {R : Room} {s : State} {m : MethodId} {args : Array Value} {below : List Frame} {meth : Method} {c : Code} {Q : State → Prop} {sg : Nat → Int32} {b B L : Nat} {xs : Nat → Int32} {dC : Nat → ClassId} {dI : Nat → Nat → Nat} {cy : Nat → ClassId} {cc : ByteArray} {nL own : Nat} {ini : Bool} {ret : Option FieldType} {mc ms : Nat} {E : rE} {pc : Nat} {lv : rK} {st : List rV} {aw : rD} {cn z : Nat} {o : rO} {q : ClassFile.Cond} {off : Int} (F : FF p s m args meth c cc nL own ini b B L xs dC dI cy) (hE : eOK sg E) (hdg : decode cc pc = .ok (.ifCond q off, 3)) (h : h_if1 q off tT own ret ini mc ms L E pc lv st aw cn z = some o) : Sem p l e R s m args below meth c Q sg b B cy dC dI nL cc own ret mc ms o (pc, lv, st, aw, cn, z) := by
  obtain ⟨hx, hb, hml, ho, hts, hsf, hin⟩ := F
  unfold h_if1 at h
  split at h
  · next x r => exact s_abr (x := x) (y := 0) hE (fun tgt H locs ls ht kt kf => r_if hx hb hdg ht kt kf) h
  · cases h
theorem spl_ok {p : Program} {l : Launch} {e : Env} {R : Room} {s : State} {m : MethodId} {args : Array Value} {below : List Frame} {meth : Method} {c : Code} {Q : State → Prop} {sg : Nat → Int32} {b B : Nat} {dC : Nat → ClassId} {dI : Nat → Nat → Nat} {cy : Nat → ClassId} {cc : ByteArray} {nL own : Nat} {ret : Option FieldType} {mc ms : Nat} {E : rE} {pc : Nat} {lv : rK} {st : List rV} {aw : rD} {cn z : Nat} {o : rO} {n : Nat} (h : spl E n = some o) : Sem p l e R s m args below meth c Q sg b B cy dC dI nL cc own ret mc ms o (pc, lv, st, aw, cn, z) := by
  unfold spl at h
  cases hb : (Nat.ble 4294967296 n && Nat.ble (Nat.sub (iv E n).2 (iv E n).1) 64) with
  | false => rw [hb] at h; cases h
  | true => rw [hb, cond_true] at h; cases h; exact True.intro
theorem s_tsw {p : Program} {l : Launch} {e : Env} {R : Room} {s : State} {m : MethodId} {args : Array Value} {below : List Frame} {meth : Method} {c : Code} {Q : State → Prop} {sg : Nat → Int32} {b B L : Nat} {xs : Nat → Int32} {dC : Nat → ClassId} {dI : Nat → Nat → Nat} {cy : Nat → ClassId} {cc : ByteArray} {nL own : Nat} {ini : Bool} {ret : Option FieldType} {mc ms : Nat} {E : rE} {pc : Nat} {lv : rK} {st : List rV} {aw : rD} {cn z : Nat} {o : rO} {d lo hi : Int} {offs : Array Int} {len : Nat} (F : FF p s m args meth c cc nL own ini b B L xs dC dI cy) (hE : eOK sg E) (hdg : decode cc pc = .ok (.tableswitch d lo hi offs, len)) (h : h_tsw d lo hi offs tT own ret ini mc ms L E pc lv st aw cn z = some o) : Sem p l e R s m args below meth c Q sg b B cy dC dI nL cc own ret mc ms o (pc, lv, st, aw, cn, z) := by
  obtain ⟨hx, hb, hml, ho, hts, hsf, hin⟩ := F
  unfold h_tsw at h
  split at h
  · next x r =>
    have hv := iv_ok hE x
    cases h1 : (Nat.blt (iv E x).2 (bz (Int32.ofInt lo)) || Nat.blt (bz (Int32.ofInt hi)) (iv E x).1) with
    | true =>
      rw [h1, cond_true] at h
      split at h
      · next t ht =>
        cases h2 : (decide ((Int32.ofInt lo).toInt = lo) && decide ((Int32.ofInt hi).toInt = hi)) with
        | false => rw [h2] at h; cases h
        | true =>
          rw [h2, cond_true] at h
          cases h
          rw [Bool.and_eq_true, decide_eq_true_eq, decide_eq_true_eq] at h2
          intro k aw' H locs ls hr hP hH hS hl
          refine lv_tableOut hx hb hdg ?_ (tg_ok ht) (k aw' H locs ls hr hP hH hS hl)
          have b1 := bz_in (ri sg x)
          have b2 := bz_in (Int32.ofInt lo)
          have b3 := bz_in (Int32.ofInt hi)
          rw [Bool.or_eq_true] at h1
          rcases h1 with h1 | h1
          · have : (iv E x).2 < bz (Int32.ofInt lo) := Nat.le_of_ble_eq_true h1
            exact Or.inl (by omega)
          · have : bz (Int32.ofInt hi) < (iv E x).1 := Nat.le_of_ble_eq_true h1
            exact Or.inr (by omega)
      · cases h
    | false =>
      rw [h1, cond_false] at h
      split at h
      · next n hn =>
        split at h
        · next off hoff =>
          split at h
          · next t ht =>
            cases h2 : (decide (lo ≤ (nI n).toInt) && decide ((nI n).toInt ≤ hi)) with
            | false => rw [h2] at h; cases h
            | true =>
              rw [h2, cond_true] at h
              cases h
              rw [Bool.and_eq_true, decide_eq_true_eq, decide_eq_true_eq] at h2
              intro k aw' H locs ls hr hP hH hS hl
              have e := (nd_ok hE hn).2
              refine lv_tableIn (x := ri sg x) hx hb hdg (by rw [e]; omega) (by rw [e]; omega) (by rw [e]; exact hoff) (tg_ok ht) (k aw' H locs ls hr hP hH hS hl)
          · cases h
        · cases h
      · cases h3 : Nat.blt (iv E x).1 (bz (Int32.ofInt lo)) with
        | true => rw [h3, cond_true] at h; cases h; exact True.intro
        | false =>
          rw [h3, cond_false] at h
          cases h4 : Nat.blt (bz (Int32.ofInt hi)) (iv E x).2 with
          | true => rw [h4, cond_true] at h; cases h; exact True.intro
          | false => rw [h4, cond_false] at h; exact spl_ok h
  · cases h
theorem lkS_none {E : rE} {x : Nat} {ps : List (Int × Int)} (h : lkS E x ps = none) : ∀ q ∈ ps, ¬ ((iv E x).1 ≤ bz (Int32.ofInt q.1) ∧ bz (Int32.ofInt q.1) ≤ (iv E x).2) := by
  induction ps with
  | nil => intro q hq; cases hq
  | cons a t ih =>
    have h' : (bif (Nat.ble (iv E x).1 (bz (Int32.ofInt a.1)) && Nat.ble (bz (Int32.ofInt a.1)) (iv E x).2) then some (Nat.sub x 4294967296, bif Nat.blt (iv E x).1 (bz (Int32.ofInt a.1)) then bz (Int32.ofInt a.1) else Nat.succ (iv E x).1) else lkS E x t) = none := h
    cases hb : (Nat.ble (iv E x).1 (bz (Int32.ofInt a.1)) && Nat.ble (bz (Int32.ofInt a.1)) (iv E x).2) with
    | true => rw [hb] at h'; cases h'
    | false =>
      rw [hb, cond_false] at h'
      intro q hq
      rcases List.mem_cons.mp hq with rfl | hq
      · rintro ⟨g1, g2⟩
        rw [Nat.ble_eq_true_of_le g1, Nat.ble_eq_true_of_le g2] at hb
        cases hb
      · exact ih h' q hq
theorem lk_dflt {ps : List (Int × Int)} {d v : Int} (h : ∀ q ∈ ps, q.1 ≠ v) : Op.lookupswitch.offset ps d v = d := by
  induction ps with
  | nil => rfl
  | cons a t ih =>
    obtain ⟨a1, a2⟩ := a
    show (if a1 = v then a2 else Op.lookupswitch.offset t d v) = d
    rw [if_neg (h (a1, a2) List.mem_cons_self)]
    exact ih (fun q hq => h q (List.mem_cons_of_mem _ hq))
theorem s_lsw {p : Program} {l : Launch} {e : Env} {R : Room} {s : State} {m : MethodId} {args : Array Value} {below : List Frame} {meth : Method} {c : Code} {Q : State → Prop} {sg : Nat → Int32} {b B L : Nat} {xs : Nat → Int32} {dC : Nat → ClassId} {dI : Nat → Nat → Nat} {cy : Nat → ClassId} {cc : ByteArray} {nL own : Nat} {ini : Bool} {ret : Option FieldType} {mc ms : Nat} {E : rE} {pc : Nat} {lv : rK} {st : List rV} {aw : rD} {cn z : Nat} {o : rO} {d : Int} {ps : Array (Int × Int)} {len : Nat} (F : FF p s m args meth c cc nL own ini b B L xs dC dI cy) (hE : eOK sg E) (hdg : decode cc pc = .ok (.lookupswitch d ps, len)) (h : h_lsw d ps tT own ret ini mc ms L E pc lv st aw cn z = some o) : Sem p l e R s m args below meth c Q sg b B cy dC dI nL cc own ret mc ms o (pc, lv, st, aw, cn, z) := by
  obtain ⟨hx, hb, hml, ho, hts, hsf, hin⟩ := F
  unfold h_lsw at h
  split at h
  · next x r =>
    have hv := iv_ok hE x
    cases h1 : ((ps.toList.zip (ps.toList.drop 1)).all (fun (a, next) => a.1 < next.1)) with
    | false => rw [h1] at h; cases h
    | true =>
      rw [h1, cond_true] at h
      split at h
      · next n hn =>
        split at h
        · next t ht =>
          cases h
          intro k aw' H locs ls hr hP hH hS hl
          exact lv_lookup (x := ri sg x) hx hb hdg h1 (by rw [(nd_ok hE hn).2]) (tg_ok ht) (k aw' H locs ls hr hP hH hS hl)
        · cases h
      · split at h
        · cases h; exact True.intro
        · next hno =>
          cases h2 : (ps.toList.all (fun q => decide ((Int32.ofInt q.1).toInt = q.1))) with
          | false => rw [h2] at h; cases h
          | true =>
            rw [h2, cond_true] at h
            split at h
            · next t ht =>
              cases h
              intro k aw' H locs ls hr hP hH hS hl
              refine lv_lookup (x := ri sg x) hx hb hdg h1 (lk_dflt (fun q hq e => ?_)) (tg_ok ht) (k aw' H locs ls hr hP hH hS hl)
              have g1 := lkS_none hno q hq
              have g2 := List.all_eq_true.mp h2 q hq
              rw [decide_eq_true_eq] at g2
              have b1 := bz_in (ri sg x)
              have b2 := bz_in (Int32.ofInt q.1)
              exact g1 ⟨by omega, by omega⟩
            · cases h
  · cases h
theorem s_retI {p : Program} {l : Launch} {e : Env} {R : Room} {s : State} {m : MethodId} {args : Array Value} {below : List Frame} {meth : Method} {c : Code} {Q : State → Prop} {sg : Nat → Int32} {b B L : Nat} {dC : Nat → ClassId} {dI : Nat → Nat → Nat} {cy : Nat → ClassId} {cc : ByteArray} {nL own : Nat} {ini : Bool} {ret : Option FieldType} {mc ms : Nat} {E : rE} {pc : Nat} {lv : rK} {st : List rV} {aw : rD} {cn z : Nat} {o : rO} (hdg : decode cc pc = .ok (.ireturn, 1)) (h : h_retI tT own ret ini mc ms L E pc lv st aw cn z = some o) : Sem p l e R s m args below meth c Q sg b B cy dC dI nL cc own ret mc ms o (pc, lv, st, aw, cn, z) := by
  unfold h_retI at h
  split at h
  · next v =>
    cases hb : (ok_rt ret (.inl v) && (Nat.ble cn mc && Nat.ble z ms)) with
    | false => rw [hb] at h; cases h
    | true =>
      rw [hb, cond_true] at h
      cases h
      rw [Bool.and_eq_true, Bool.and_eq_true] at hb
      exact ⟨Nat.le_of_ble_eq_true hb.2.1, Nat.le_of_ble_eq_true hb.2.2, rfl, Or.inr (Or.inl ⟨v, rfl, hb.1, hdg⟩)⟩
  · cases h
theorem s_retL {p : Program} {l : Launch} {e : Env} {R : Room} {s : State} {m : MethodId} {args : Array Value} {below : List Frame} {meth : Method} {c : Code} {Q : State → Prop} {sg : Nat → Int32} {b B L : Nat} {dC : Nat → ClassId} {dI : Nat → Nat → Nat} {cy : Nat → ClassId} {cc : ByteArray} {nL own : Nat} {ini : Bool} {ret : Option FieldType} {mc ms : Nat} {E : rE} {pc : Nat} {lv : rK} {st : List rV} {aw : rD} {cn z : Nat} {o : rO} (hdg : decode cc pc = .ok (.lreturn, 1)) (h : h_retL tT own ret ini mc ms L E pc lv st aw cn z = some o) : Sem p l e R s m args below meth c Q sg b B cy dC dI nL cc own ret mc ms o (pc, lv, st, aw, cn, z) := by
  unfold h_retL at h
  split at h
  · next v =>
    cases hb : (ok_rt ret (.inr (.inl v)) && (Nat.ble cn mc && Nat.ble z ms)) with
    | false => rw [hb] at h; cases h
    | true =>
      rw [hb, cond_true] at h
      cases h
      rw [Bool.and_eq_true, Bool.and_eq_true] at hb
      exact ⟨Nat.le_of_ble_eq_true hb.2.1, Nat.le_of_ble_eq_true hb.2.2, rfl, Or.inr (Or.inr (Or.inl ⟨v, rfl, hb.1, hdg⟩))⟩
  · cases h
theorem s_retA {p : Program} {l : Launch} {e : Env} {R : Room} {s : State} {m : MethodId} {args : Array Value} {below : List Frame} {meth : Method} {c : Code} {Q : State → Prop} {sg : Nat → Int32} {b B L : Nat} {dC : Nat → ClassId} {dI : Nat → Nat → Nat} {cy : Nat → ClassId} {cc : ByteArray} {nL own : Nat} {ini : Bool} {ret : Option FieldType} {mc ms : Nat} {E : rE} {pc : Nat} {lv : rK} {st : List rV} {aw : rD} {cn z : Nat} {o : rO} (hdg : decode cc pc = .ok (.areturn, 1)) (h : h_retA tT own ret ini mc ms L E pc lv st aw cn z = some o) : Sem p l e R s m args below meth c Q sg b B cy dC dI nL cc own ret mc ms o (pc, lv, st, aw, cn, z) := by
  unfold h_retA at h
  split at h
  · next v =>
    cases hb : (ok_rt ret (.inr (.inr (some v))) && (Nat.ble cn mc && Nat.ble z ms)) with
    | false => rw [hb] at h; cases h
    | true =>
      rw [hb, cond_true] at h
      cases h
      rw [Bool.and_eq_true, Bool.and_eq_true] at hb
      exact ⟨Nat.le_of_ble_eq_true hb.2.1, Nat.le_of_ble_eq_true hb.2.2, rfl, Or.inr (Or.inr (Or.inr ⟨v, rfl, hb.1, hdg⟩))⟩
  · cases h
theorem s_retV {p : Program} {l : Launch} {e : Env} {R : Room} {s : State} {m : MethodId} {args : Array Value} {below : List Frame} {meth : Method} {c : Code} {Q : State → Prop} {sg : Nat → Int32} {b B L : Nat} {dC : Nat → ClassId} {dI : Nat → Nat → Nat} {cy : Nat → ClassId} {cc : ByteArray} {nL own : Nat} {ini : Bool} {ret : Option FieldType} {mc ms : Nat} {E : rE} {pc : Nat} {lv : rK} {st : List rV} {aw : rD} {cn z : Nat} {o : rO} (hdg : decode cc pc = .ok (.return_, 1)) (h : h_retV tT own ret ini mc ms L E pc lv st aw cn z = some o) : Sem p l e R s m args below meth c Q sg b B cy dC dI nL cc own ret mc ms o (pc, lv, st, aw, cn, z) := by
  unfold h_retV at h
  split at h
  · cases hb : (no_rt ret && (Nat.ble cn mc && Nat.ble z ms)) with
    | false => rw [hb] at h; cases h
    | true =>
      rw [hb, cond_true] at h
      cases h
      rw [Bool.and_eq_true, Bool.and_eq_true] at hb
      refine ⟨Nat.le_of_ble_eq_true hb.2.1, Nat.le_of_ble_eq_true hb.2.2, rfl, Or.inl ⟨rfl, ?_, hdg⟩⟩
      cases ret with
      | none => rfl
      | some t => cases hb.1
  · cases h
end
section
/-! rules: fields and arrays -/
def aV (sg : Nat → Int32) (b B t : Nat) (v : rV) : Value := if t = 15 then .long (rL v) else if t < 17 then .int (rI sg v) else va_rf (rR b B v)
theorem rA_cell {sg : Nat → Int32} {b B : Nat} (cA : ClassId) (t : Nat) (l : List rV) : vp_cell cA (rA sg b B t l) = arrV cA l.length (fun j => aV sg b B t (l.getD j rd)) := by
  unfold rA aV
  by_cases h1 : t = 15
  · simp only [h1, if_true]; rfl
  · by_cases h2 : t < 17
    · simp only [h1, h2, if_true, if_false]; rfl
    · simp only [h1, h2, if_false]; rfl
theorem rce_arr {sg : Nat → Int32} {b B : Nat} {cy : Nat → ClassId} {q : rC} (h : 13 ≤ q.1) : rce sg b B cy q = .inl (cy q.1, rA sg b B q.1 q.2) := if_neg (Nat.not_lt.mpr h)
theorem rce_obj {sg : Nat → Int32} {b B : Nat} {cy : Nat → ClassId} {q : rC} (h : q.1 < 13) : rce sg b B cy q = .inr (q.1, q.2.map (rv sg b B)) := if_pos h
theorem at_arr {sg : Nat → Int32} {b B : Nat} {cy : Nat → ClassId} {D : va_G} {aw : List rC} {H : Heap} {k : Nat} {q : rC} (hP : va_P D vwCl (rW sg b B cy aw) H) (hk : aw[k]? = some q) (h : 13 ≤ q.1) : H[B + k]? = some (arrV (cy q.1) q.2.length (fun j => aV sg b B q.1 (q.2.getD j rd))) := by
  have h1 := hP k _ (rW_get hk)
  rw [rce_arr h] at h1
  have h2 : H[B + k]? = some (vp_cell (cy q.1) (rA sg b B q.1 q.2)) := h1
  rw [rA_cell] at h2
  exact h2
theorem vt_ok {sg : Nat → Int32} {b B t : Nat} {v : rV} (h13 : 13 ≤ t) (h : vt t v = true) : aV sg b B t v = rv sg b B v := by
  unfold aV
  match v, h with
  | .inl n, h =>
    have h' : (Nat.ble t 14 || Nat.beq t 16) = true := h
    rw [Bool.or_eq_true] at h'
    have : t ≠ 15 ∧ t < 17 := by
      rcases h' with g | g
      · have := Nat.le_of_ble_eq_true g; omega
      · have := Nat.eq_of_beq_eq_true g; omega
    rw [if_neg this.1, if_pos this.2]
    rfl
  | .inr (.inl n), h =>
    have := Nat.eq_of_beq_eq_true (show Nat.beq t 15 = true from h)
    rw [if_pos this]
    rfl
  | .inr (.inr none), h =>
    have := Nat.le_of_ble_eq_true (show Nat.ble 17 t = true from h)
    rw [if_neg (by omega), if_neg (by omega)]
    rfl
  | .inr (.inr (some n)), h =>
    have := Nat.le_of_ble_eq_true (show Nat.ble 17 t = true from h)
    rw [if_neg (by omega), if_neg (by omega)]
    rfl
theorem ix_ok {n N : Nat} (h : n < N) (h2 : n ≤ 2147483647) : ¬ (nI n < 0 ∨ N ≤ (nI n).toNatClampNeg) := by
  rintro (g | g)
  · exact nI_pos (by omega) g
  · rw [nI_clamp (by omega)] at g
    omega
def tyA (t : Nat) : FieldType := match t with
  | 13 => .byte
  | 14 => .int
  | 15 => .long
  | 16 => .boolean
  | 17 => .object "AyeJars$Jars"
  | 18 => .object "AyeJars$Trial"
  | _ => .array .int
theorem tyA_at {cy : Nat → ClassId} {t : Nat} (h1 : 13 ≤ t) (h2 : t ≤ 19) : (tys0 cy)[t - 13]? = some (cy t, tyA t) := by
  have : t = 13 ∨ t = 14 ∨ t = 15 ∨ t = 16 ∨ t = 17 ∨ t = 18 ∨ t = 19 := by omega
  rcases this with rfl | rfl | rfl | rfl | rfl | rfl | rfl <;> rfl
theorem isA {dC : Nat → ClassId} {dI : Nat → Nat → Nat} {cy : Nat → ClassId} {s : State} (hK : va_K (dC, dI) vwCl (tys0 cy) s) {t : Nat} (h1 : 13 ≤ t) (h2 : t ≤ 19) (n : Nat) (f : Nat → Value) : s.isArrayOf (arrV (cy t) n f) (tyA t) := (hK.2 (t - 13) _ (tyA_at h1 h2)).1 n f
/-- a cell is written -/
theorem fin_st {sg : Nat → Int32} {b B : Nat} {cy : Nat → ClassId} {D : va_G} {aw : List rC} {H H1 H0 : Heap} {locs : List Loc} {k i : Nat} {q q' : rC} (hP : va_P D vwCl (rW sg b B cy aw) H) (hH : H.size = B + aw.length) (hS : va_S (rG B) H0 H locs) (hk : aw[k]? = some q) (he : va_at D vwCl (B + k, rce sg b B cy q') H1) (z : H1.size = H.size) (oq : ∀ q : Nat, q ≠ B + k → H1[q]? = H[q]?) : va_P D vwCl (rW sg b B cy (aw.set k q')) H1 ∧ H1.size = B + (aw.set k q').length ∧ va_S (rG B) H0 H1 (locs ++ [⟨B + k, i⟩]) := by
  refine ⟨?_, by rw [List.length_set, z, hH], hS.put z oq (Nat.le_add_right B k)⟩
  rw [← rW_set]
  exact hP.set (rW_D aw) (rW_get hk) he oq
theorem at_st {sg : Nat → Int32} {b B : Nat} {cy : Nat → ClassId} {D : va_G} {H1 : Heap} {k n t : Nat} {l : List rV} {v : rV} {w : Value} (h13 : 13 ≤ t) (hn : n < l.length) (hw : w = aV sg b B t v) (e : H1[B + k]? = some ((arrV (cy t) l.length (fun j => aV sg b B t (l.getD j rd))).setSlot n w)) : va_at D vwCl (B + k, rce sg b B cy (t, l.set n v)) H1 := by
  rw [rce_arr (q := (t, l.set n v)) h13]
  show H1[B + k]? = some (vp_cell (cy t) (rA sg b B t (l.set n v)))
  rw [rA_cell, e, arrV_store, List.length_set]
  congr 2
  funext j
  unfold updV
  by_cases hj : j = n
  · subst hj
    rw [if_pos rfl, hw]
    simp [List.getD_eq_getElem?_getD, hn]
  · rw [if_neg hj]
    simp [List.getD_eq_getElem?_getD, List.getElem?_set, Ne.symm hj]
theorem wset_k {β : Type} (v : rC) (D : rD) (k : Nat) (K : rD → β) : wset v D k K = K (wset v D k (fun d => d)) := by
  unfold wset
  split
  · rw [rset_eq, rset_eq, rset_eq, rset_eq]
  · rfl
theorem wset_rep {D : rD} {aw : List rC} (h : rep D aw) {k : Nat} {q : rC} (hk : aw[k]? = some q) (v : rC) : rep (wset v D k (fun d => d)) (aw.set k v) := by
  obtain ⟨D', h1, h2⟩ := rep_set (β := rD) h (List.getElem?_eq_some_iff.mp hk).1 v
  rw [h2]
  exact h1
theorem s_ald {p : Program} {l : Launch} {e : Env} {R : Room} {s : State} {m : MethodId} {args : Array Value} {below : List Frame} {meth : Method} {c : Code} {Q : State → Prop} {sg : Nat → Int32} {b B L : Nat} {xs : Nat → Int32} {dC : Nat → ClassId} {dI : Nat → Nat → Nat} {cy : Nat → ClassId} {cc : ByteArray} {nL own : Nat} {ini : Bool} {ret : Option FieldType} {mc ms : Nat} {E : rE} {pc : Nat} {lv : rK} {st : List rV} {aw : rD} {cn z : Nat} {o : rO} {t1 t2 : Nat} (F : FF p s m args meth c cc nL own ini b B L xs dC dI cy) (hs : SG sg L xs) (hE : eOK sg E) (hsc : t1 = 14 → decode cc pc = .ok (.iaload, 1)) (h13 : 13 ≤ t1 ∧ t1 ≤ 19 ∧ 13 ≤ t2 ∧ t2 ≤ 19) (hrow : ∀ (t k n : Nat) (la : List rV) (v : Value) (H : Heap) (locs : List Loc) (ls : Array Slot) (rest : List Value), (t = t1 ∨ t = t2) → H[B + k]? = some (arrV (cy t) la.length (fun j => aV sg b B t (la.getD j rd))) → ¬ (nI n < 0 ∨ la.length ≤ (nI n).toNatClampNeg) → (arrV (cy t) la.length (fun j => aV sg b B t (la.getD j rd))).slots[(nI n).toNatClampNeg]? = some v → W p l e R s m args below meth c H locs cn z Q (F0 m (pc + 1) ls (v :: rest)) → W p l e R s m args below meth c H locs cn z Q (F0 m pc ls (.int (nI n) :: .ref (B + k) :: rest))) (h : ald t1 t2 L E pc lv st aw cn z = some o) : Sem p l e R s m args below meth c Q sg b B cy dC dI nL cc own ret mc ms o (pc, lv, st, aw, cn, z) := by
  obtain ⟨hx, hb, hml, ho, hts, hsf, hin⟩ := F
  unfold ald at h
  split at h
  · next i k r =>
    split at h
    · next n hn =>
      have en := nd_ok hE hn
      split at h
      · next =>
        cases h1 : (Nat.beq t1 14 && (Nat.blt n L && Nat.ble n 7)) with
        | false => rw [h1] at h; cases h
        | true =>
          rw [h1, cond_true] at h
          cases h
          rw [Bool.and_eq_true, Bool.and_eq_true] at h1
          have g1 := Nat.eq_of_beq_eq_true h1.1
          have g2 : n < L := Nat.le_of_ble_eq_true h1.2.1
          have g3 : n ≤ 7 := Nat.le_of_ble_eq_true h1.2.2
          intro kk aw' H locs ls hr hP hH hS hl
          have hX := hsf.2.2.2.1
          have hbB := hsf.2.2.2.2.1
          have hBs := hsf.2.2.2.2.2
          refine va_sld (i := ri sg i) hx hb hX (by omega) (show ¬ B ≤ b by omega) hS ?_ (hsc g1) ?_
          · rw [en.2]
            exact ix_ok g2 (by omega)
          · have e1 : xs (ri sg i).toNatClampNeg = ri sg (Nat.add 4294967296 n) := by
              rw [en.2, nI_clamp (by omega), show Nat.add 4294967296 n = 4294967296 + n from rfl, ri_u, hs.2.2.2.1 n g2 (by omega)]
            rw [e1]
            exact kk aw' H locs ls hr hP hH hS hl
      · next k =>
        split at h
        · next q hq =>
          cases h2 : (Nat.beq q.1 t1 || Nat.beq q.1 t2) with
          | false => rw [h2] at h; cases h
          | true =>
            rw [h2, cond_true] at h
            split at h
            · next v hv =>
              cases h3 : (Nat.ble n 2147483647 && vt q.1 v) with
              | false => rw [h3] at h; cases h
              | true =>
                rw [h3, cond_true] at h
                cases h
                rw [Bool.and_eq_true] at h3
                rw [Bool.or_eq_true] at h2
                have ht : q.1 = t1 ∨ q.1 = t2 := h2.imp Nat.eq_of_beq_eq_true Nat.eq_of_beq_eq_true
                have ht13 : 13 ≤ q.1 ∧ q.1 ≤ 19 := by omega
                rw [rget_eq] at hv
                have hlt : n < q.2.length := (List.getElem?_eq_some_iff.mp hv).1
                have hn31 := Nat.le_of_ble_eq_true h3.1
                intro kk aw' H locs ls hr hP hH hS hl
                have hq' := rep_get hr hq
                have hc := at_arr hP hq' ht13.1
                have key := hrow q.1 k n q.2 (rv sg b B v) H locs ls (r.map (rv sg b B)) ht hc (ix_ok hlt hn31) (by
                  rw [nI_clamp (by omega), arrV_read _ _ hlt]
                  rw [List.getD_eq_getElem?_getD, hv]
                  exact congrArg some (vt_ok ht13.1 h3.2)) (kk aw' H locs ls hr hP hH hS hl)
                rw [← en.2] at key
                exact key
            · cases h
        · cases h
    · exact spl_ok h
  · cases h
theorem cyq {cy : Nat → ClassId} {sg : Nat → Int32} {b B t : Nat} {l : List rV} : (arrV (cy t) l.length (fun j => aV sg b B t (l.getD j rd))).vm ≠ .unknown := fun q => by cases q
theorem s_iald {p : Program} {l : Launch} {e : Env} {R : Room} {s : State} {m : MethodId} {args : Array Value} {below : List Frame} {meth : Method} {c : Code} {Q : State → Prop} {sg : Nat → Int32} {b B L : Nat} {xs : Nat → Int32} {dC : Nat → ClassId} {dI : Nat → Nat → Nat} {cy : Nat → ClassId} {cc : ByteArray} {nL own : Nat} {ini : Bool} {ret : Option FieldType} {mc ms : Nat} {E : rE} {pc : Nat} {lv : rK} {st : List rV} {aw : rD} {cn z : Nat} {o : rO} (F : FF p s m args meth c cc nL own ini b B L xs dC dI cy) (hs : SG sg L xs) (hE : eOK sg E) (hdg : decode cc pc = .ok (.iaload, 1)) (h : h_ald 14 14 tT own ret ini mc ms L E pc lv st aw cn z = some o) : Sem p l e R s m args below meth c Q sg b B cy dC dI nL cc own ret mc ms o (pc, lv, st, aw, cn, z) := by
  refine s_ald F hs hE (fun _ => hdg) (by decide) ?_ h
  intro t k n l v H locs ls rest ht hc hin hv kk
  obtain ⟨hx, hb, hml, ho, hts, hsf, -⟩ := F
  have e : t = 14 := by omega
  subst e
  exact W.iald hx hb hc (isA hsf.1 (by decide) (by decide) _ _) cyq (by rw [arrV_size]; exact hin) hv rfl rfl hdg kk
theorem s_lald {p : Program} {l : Launch} {e : Env} {R : Room} {s : State} {m : MethodId} {args : Array Value} {below : List Frame} {meth : Method} {c : Code} {Q : State → Prop} {sg : Nat → Int32} {b B L : Nat} {xs : Nat → Int32} {dC : Nat → ClassId} {dI : Nat → Nat → Nat} {cy : Nat → ClassId} {cc : ByteArray} {nL own : Nat} {ini : Bool} {ret : Option FieldType} {mc ms : Nat} {E : rE} {pc : Nat} {lv : rK} {st : List rV} {aw : rD} {cn z : Nat} {o : rO} (F : FF p s m args meth c cc nL own ini b B L xs dC dI cy) (hs : SG sg L xs) (hE : eOK sg E) (hdg : decode cc pc = .ok (.laload, 1)) (h : h_ald 15 15 tT own ret ini mc ms L E pc lv st aw cn z = some o) : Sem p l e R s m args below meth c Q sg b B cy dC dI nL cc own ret mc ms o (pc, lv, st, aw, cn, z) := by
  refine s_ald F hs hE (fun q => by cases q) (by decide) ?_ h
  intro t k n l v H locs ls rest ht hc hin hv kk
  obtain ⟨hx, hb, hml, ho, hts, hsf, -⟩ := F
  have e : t = 15 := by omega
  subst e
  exact W.lald hx hb hc (isA hsf.1 (by decide) (by decide) _ _) cyq (by rw [arrV_size]; exact hin) hv rfl rfl hdg kk
theorem s_bald {p : Program} {l : Launch} {e : Env} {R : Room} {s : State} {m : MethodId} {args : Array Value} {below : List Frame} {meth : Method} {c : Code} {Q : State → Prop} {sg : Nat → Int32} {b B L : Nat} {xs : Nat → Int32} {dC : Nat → ClassId} {dI : Nat → Nat → Nat} {cy : Nat → ClassId} {cc : ByteArray} {nL own : Nat} {ini : Bool} {ret : Option FieldType} {mc ms : Nat} {E : rE} {pc : Nat} {lv : rK} {st : List rV} {aw : rD} {cn z : Nat} {o : rO} (F : FF p s m args meth c cc nL own ini b B L xs dC dI cy) (hs : SG sg L xs) (hE : eOK sg E) (hdg : decode cc pc = .ok (.baload, 1)) (h : h_ald 13 16 tT own ret ini mc ms L E pc lv st aw cn z = some o) : Sem p l e R s m args below meth c Q sg b B cy dC dI nL cc own ret mc ms o (pc, lv, st, aw, cn, z) := by
  refine s_ald F hs hE (fun q => by cases q) (by decide) ?_ h
  intro t k n l v H locs ls rest ht hc hin hv kk
  obtain ⟨hx, hb, hml, ho, hts, hsf, -⟩ := F
  rcases ht with rfl | rfl
  · exact W.bald hx hb hc (isA hsf.1 (by decide) (by decide) _ _) cyq (by rw [arrV_size]; exact hin) hv rfl rfl hdg kk
  · exact W.zald hx hb hc (isA hsf.1 (by decide) (by decide) _ _) cyq (by rw [arrV_size]; exact hin) hv rfl rfl hdg kk
theorem s_aald {p : Program} {l : Launch} {e : Env} {R : Room} {s : State} {m : MethodId} {args : Array Value} {below : List Frame} {meth : Method} {c : Code} {Q : State → Prop} {sg : Nat → Int32} {b B L : Nat} {xs : Nat → Int32} {dC : Nat → ClassId} {dI : Nat → Nat → Nat} {cy : Nat → ClassId} {cc : ByteArray} {nL own : Nat} {ini : Bool} {ret : Option FieldType} {mc ms : Nat} {E : rE} {pc : Nat} {lv : rK} {st : List rV} {aw : rD} {cn z : Nat} {o : rO} (F : FF p s m args meth c cc nL own ini b B L xs dC dI cy) (hs : SG sg L xs) (hE : eOK sg E) (hdg : decode cc pc = .ok (.aaload, 1)) (h : h_aald tT own ret ini mc ms L E pc lv st aw cn z = some o) : Sem p l e R s m args below meth c Q sg b B cy dC dI nL cc own ret mc ms o (pc, lv, st, aw, cn, z) := by
  have main : ∀ o', ald 17 19 L E pc lv st aw cn z = some o' → Sem p l e R s m args below meth c Q sg b B cy dC dI nL cc own ret mc ms o' (pc, lv, st, aw, cn, z) := by
    intro o' h'
    refine s_ald F hs hE (fun q => by cases q) (by decide) ?_ h'
    intro t k n l v H locs ls rest ht hc hin hv kk
    obtain ⟨hx, hb, hml, ho, hts, hsf, -⟩ := F
    rcases ht with rfl | rfl
    · exact W.aald hx hb hc (isA hsf.1 (by decide) (by decide) _ _) rfl cyq (by rw [arrV_size]; exact hin) hv rfl rfl hdg kk
    · exact W.aald hx hb hc (isA hsf.1 (by decide) (by decide) _ _) rfl cyq (by rw [arrV_size]; exact hin) hv rfl rfl hdg kk
  unfold h_aald at h
  split at h
  · next h' => cases h; exact main _ h'
  · next h' => cases h; exact main _ h'
  · cases h
theorem el_ok {sg : Nat → Int32} {L : Nat} {xs : Nat → Int32} (hs : SG sg L xs) {b B n : Nat} {t : Nat} (h : ok_el t (.inl n) = true) : (t = 14 ∨ (t = 16 ∧ narrow .boolean (.int (ri sg n)) = .int (ri sg n)) ∨ (t = 13 ∧ narrow .byte (.int (ri sg n)) = .int (ri sg n))) := by
  have h' : (Nat.beq t 14 || (Nat.beq t 16 && Nat.ble n 1) || (Nat.beq t 13 && (Nat.ble 4294967824 n && Nat.ble n 4294968319))) = true := h
  rw [Bool.or_eq_true, Bool.or_eq_true, Bool.and_eq_true, Bool.and_eq_true, Bool.and_eq_true] at h'
  rcases h' with (g | ⟨g1, g2⟩) | ⟨g1, g2, g3⟩
  · exact Or.inl (Nat.eq_of_beq_eq_true g)
  · refine Or.inr (Or.inl ⟨Nat.eq_of_beq_eq_true g1, ?_⟩)
    have g2 := Nat.le_of_ble_eq_true g2
    have : n = 0 ∨ n = 1 := by omega
    rcases this with rfl | rfl
    · rw [ri_c (by decide)]; decide
    · rw [ri_c (by decide)]; decide
  · refine Or.inr (Or.inr ⟨Nat.eq_of_beq_eq_true g1, ?_⟩)
    have g2 := Nat.le_of_ble_eq_true g2
    have g3 := Nat.le_of_ble_eq_true g3
    obtain ⟨j, rfl⟩ : ∃ j, n = 4294967296 + (j + 512) := ⟨n - 4294967808, by omega⟩
    rw [ri_u, hs.2.2.1 j (by omega) (by omega)]
    exact pk_nb _
end
section
/-! rules: writes, fields, new cells -/
theorem ast_inv {t1 t2 : Nat} {E : rE} {pc : Nat} {lv : rK} {st : List rV} {aw : rD} {cn z : Nat} {o : rO} (h : ast t1 t2 E pc lv st aw cn z = some o) : (∃ s', o = .inr (.inl s')) ∨ ∃ (v : rV) (i k n : Nat) (r : List rV) (q : rC), st = v :: .inl i :: .inr (.inr (some (k + 1))) :: r ∧ nd E i = some n ∧ wget aw k = some q ∧ (q.1 = t1 ∨ q.1 = t2) ∧ ok_el q.1 v = true ∧ n < q.2.length ∧ n ≤ 2147483647 ∧ o = .inl (Nat.add pc 1, lv, r, wset (q.1, q.2.set n v) aw k (fun d => d), cn, z) := by
  unfold ast at h
  split at h
  · next v i k r =>
    split at h
    · next n hn =>
      split at h
      · next q hq =>
        cases h1 : ((Nat.beq q.1 t1 || Nat.beq q.1 t2) && (ok_el q.1 v && (Nat.blt n q.2.length && Nat.ble n 2147483647))) with
        | false => rw [h1] at h; cases h
        | true =>
          rw [h1, cond_true, rset_eq, wset_k] at h
          cases h
          rw [Bool.and_eq_true, Bool.and_eq_true, Bool.and_eq_true, Bool.or_eq_true] at h1
          exact Or.inr ⟨v, i, k, n, r, q, rfl, hn, hq, h1.1.imp Nat.eq_of_beq_eq_true Nat.eq_of_beq_eq_true, h1.2.1, Nat.le_of_ble_eq_true h1.2.2.1, Nat.le_of_ble_eq_true h1.2.2.2, rfl⟩
      · cases h
    · unfold spl at h
      cases hb : (Nat.ble 4294967296 i && Nat.ble (Nat.sub (iv E i).2 (iv E i).1) 64) with
      | false => rw [hb] at h; cases h
      | true => rw [hb, cond_true] at h; cases h; exact Or.inl ⟨_, rfl⟩
  · cases h
theorem s_ast {p : Program} {l : Launch} {e : Env} {R : Room} {s : State} {m : MethodId} {args : Array Value} {below : List Frame} {meth : Method} {c : Code} {Q : State → Prop} {sg : Nat → Int32} {b B L : Nat} {xs : Nat → Int32} {dC : Nat → ClassId} {dI : Nat → Nat → Nat} {cy : Nat → ClassId} {cc : ByteArray} {nL own : Nat} {ini : Bool} {ret : Option FieldType} {mc ms : Nat} {E : rE} {pc : Nat} {lv : rK} {st : List rV} {aw : rD} {cn z : Nat} {o : rO} {t1 t2 : Nat} (F : FF p s m args meth c cc nL own ini b B L xs dC dI cy) (hE : eOK sg E) (h13 : 13 ≤ t1 ∧ t1 ≤ 19 ∧ 13 ≤ t2 ∧ t2 ≤ 19) (hrow : ∀ (t k n : Nat) (la : List rV) (v : rV) (H : Heap) (locs : List Loc) (ls : Array Slot) (rest : List Value), (t = t1 ∨ t = t2) → ok_el t v = true → H[B + k]? = some (arrV (cy t) la.length (fun j => aV sg b B t (la.getD j rd))) → ¬ (nI n < 0 ∨ la.length ≤ (nI n).toNatClampNeg) → (∀ (H1 : Heap) (w : Value), w = aV sg b B t v → H1[B + k]? = some ((arrV (cy t) la.length (fun j => aV sg b B t (la.getD j rd))).setSlot (nI n).toNatClampNeg w) → H1.size = H.size → (∀ q, q ≠ B + k → H1[q]? = H[q]?) → W p l e R s m args below meth c H1 (locs ++ [⟨B + k, (nI n).toNatClampNeg⟩]) cn z Q (F0 m (pc + 1) ls rest)) → W p l e R s m args below meth c H locs cn z Q (F0 m pc ls (rv sg b B v :: .int (nI n) :: .ref (B + k) :: rest))) (h : ast t1 t2 E pc lv st aw cn z = some o) : Sem p l e R s m args below meth c Q sg b B cy dC dI nL cc own ret mc ms o (pc, lv, st, aw, cn, z) := by
  obtain ⟨hx, hb, hml, ho, hts, hsf, hin⟩ := F
  rcases ast_inv h with ⟨s', rfl⟩ | ⟨v, i, k, n, r, q, rfl, hn, hq, ht, hv, hlt, hn31, rfl⟩
  · exact True.intro
  · have en := nd_ok hE hn
    have ht13 : 13 ≤ q.1 ∧ q.1 ≤ 19 := by omega
    intro kk aw' H locs ls hr hP hH hS hl
    have hq' := rep_get hr hq
    have hc := at_arr hP hq' ht13.1
    have key := hrow q.1 k n q.2 v H locs ls (r.map (rv sg b B)) ht hv hc (ix_ok hlt hn31) (fun H1 w hw e z' oq => by
      rw [nI_clamp (by omega)] at e ⊢
      obtain ⟨p1, p2, p3⟩ := fin_st (i := n) hP hH hS hq' (at_st ht13.1 hlt hw e) z' oq
      exact kk (aw'.set k (q.1, q.2.set n v)) H1 _ ls (wset_rep hr hq' _) p1 p2 p3 hl)
    rw [← en.2] at key
    exact key
theorem s_iast {p : Program} {l : Launch} {e : Env} {R : Room} {s : State} {m : MethodId} {args : Array Value} {below : List Frame} {meth : Method} {c : Code} {Q : State → Prop} {sg : Nat → Int32} {b B L : Nat} {xs : Nat → Int32} {dC : Nat → ClassId} {dI : Nat → Nat → Nat} {cy : Nat → ClassId} {cc : ByteArray} {nL own : Nat} {ini : Bool} {ret : Option FieldType} {mc ms : Nat} {E : rE} {pc : Nat} {lv : rK} {st : List rV} {aw : rD} {cn z : Nat} {o : rO} (F : FF p s m args meth c cc nL own ini b B L xs dC dI cy) (hs : SG sg L xs) (hE : eOK sg E) (hdg : decode cc pc = .ok (.iastore, 1)) (h : h_ast 14 14 tT own ret ini mc ms L E pc lv st aw cn z = some o) : Sem p l e R s m args below meth c Q sg b B cy dC dI nL cc own ret mc ms o (pc, lv, st, aw, cn, z) := by
  refine s_ast F hE (by decide) ?_ h
  intro t k n la v H locs ls rest ht hv hc hin kk
  obtain ⟨hx, hb, hml, ho, hts, hsf, -⟩ := F
  have e : t = 14 := by omega
  subst e
  match v, hv with
  | .inl a, hv => exact W.iast hx hb hc (isA hsf.1 (by decide) (by decide) _ _) cyq (by rw [arrV_size]; exact hin) rfl rfl hdg (fun H1 e z' oq => kk H1 _ rfl e z' oq)
  | .inr (.inl a), hv => cases hv
  | .inr (.inr a), hv => cases hv
theorem s_last {p : Program} {l : Launch} {e : Env} {R : Room} {s : State} {m : MethodId} {args : Array Value} {below : List Frame} {meth : Method} {c : Code} {Q : State → Prop} {sg : Nat → Int32} {b B L : Nat} {xs : Nat → Int32} {dC : Nat → ClassId} {dI : Nat → Nat → Nat} {cy : Nat → ClassId} {cc : ByteArray} {nL own : Nat} {ini : Bool} {ret : Option FieldType} {mc ms : Nat} {E : rE} {pc : Nat} {lv : rK} {st : List rV} {aw : rD} {cn z : Nat} {o : rO} (F : FF p s m args meth c cc nL own ini b B L xs dC dI cy) (hs : SG sg L xs) (hE : eOK sg E) (hdg : decode cc pc = .ok (.lastore, 1)) (h : h_ast 15 15 tT own ret ini mc ms L E pc lv st aw cn z = some o) : Sem p l e R s m args below meth c Q sg b B cy dC dI nL cc own ret mc ms o (pc, lv, st, aw, cn, z) := by
  refine s_ast F hE (by decide) ?_ h
  intro t k n la v H locs ls rest ht hv hc hin kk
  obtain ⟨hx, hb, hml, ho, hts, hsf, -⟩ := F
  have e : t = 15 := by omega
  subst e
  match v, hv with
  | .inl a, hv => exact absurd (el_ok (b := b) (B := B) hs hv) (by omega)
  | .inr (.inl a), hv => exact W.last hx hb hc (isA hsf.1 (by decide) (by decide) _ _) cyq (by rw [arrV_size]; exact hin) rfl rfl hdg (fun H1 e z' oq => kk H1 _ rfl e z' oq)
  | .inr (.inr a), hv => cases hv
theorem s_bast {p : Program} {l : Launch} {e : Env} {R : Room} {s : State} {m : MethodId} {args : Array Value} {below : List Frame} {meth : Method} {c : Code} {Q : State → Prop} {sg : Nat → Int32} {b B L : Nat} {xs : Nat → Int32} {dC : Nat → ClassId} {dI : Nat → Nat → Nat} {cy : Nat → ClassId} {cc : ByteArray} {nL own : Nat} {ini : Bool} {ret : Option FieldType} {mc ms : Nat} {E : rE} {pc : Nat} {lv : rK} {st : List rV} {aw : rD} {cn z : Nat} {o : rO} (F : FF p s m args meth c cc nL own ini b B L xs dC dI cy) (hs : SG sg L xs) (hE : eOK sg E) (hdg : decode cc pc = .ok (.bastore, 1)) (h : h_ast 13 16 tT own ret ini mc ms L E pc lv st aw cn z = some o) : Sem p l e R s m args below meth c Q sg b B cy dC dI nL cc own ret mc ms o (pc, lv, st, aw, cn, z) := by
  refine s_ast F hE (by decide) ?_ h
  intro t k n la v H locs ls rest ht hv hc hin kk
  obtain ⟨hx, hb, hml, ho, hts, hsf, -⟩ := F
  match v, hv with
  | .inl a, hv =>
    rcases el_ok (b := b) (B := B) hs hv with g | ⟨g, hg⟩ | ⟨g, hg⟩
    · omega
    · subst g
      exact W.zast hx hb hc (isA hsf.1 (by decide) (by decide) _ _) cyq (by rw [arrV_size]; exact hin) rfl rfl hdg (fun H1 e z' oq => kk H1 _ hg e z' oq)
    · subst g
      exact W.bast hx hb hc (isA hsf.1 (by decide) (by decide) _ _) cyq (by rw [arrV_size]; exact hin) rfl rfl hdg (fun H1 e z' oq => kk H1 _ hg e z' oq)
  | .inr (.inl a), hv =>
    have := Nat.eq_of_beq_eq_true (show Nat.beq t 15 = true from hv)
    omega
  | .inr (.inr a), hv => cases hv
theorem s_aasr {p : Program} {l : Launch} {e : Env} {R : Room} {s : State} {m : MethodId} {args : Array Value} {below : List Frame} {meth : Method} {c : Code} {Q : State → Prop} {sg : Nat → Int32} {b B L : Nat} {xs : Nat → Int32} {dC : Nat → ClassId} {dI : Nat → Nat → Nat} {cy : Nat → ClassId} {cc : ByteArray} {nL own : Nat} {ini : Bool} {ret : Option FieldType} {mc ms : Nat} {E : rE} {pc : Nat} {lv : rK} {st : List rV} {aw : rD} {cn z : Nat} {o : rO} (F : FF p s m args meth c cc nL own ini b B L xs dC dI cy) (hE : eOK sg E) (hdg : decode cc pc = .ok (.aastore, 1)) (h : h_aasr tT own ret ini mc ms L E pc lv st aw cn z = some o) : Sem p l e R s m args below meth c Q sg b B cy dC dI nL cc own ret mc ms o (pc, lv, st, aw, cn, z) := by
  obtain ⟨hx, hb, hml, ho, hts, hsf, hin⟩ := F
  unfold h_aasr aasr at h
  split at h
  · next j i k r =>
    split at h
    · next n hn =>
      split at h
      · next q hq =>
        split at h
        · next w hw =>
          cases h1 : (((Nat.beq q.1 17 && Nat.beq w.1 6) || (Nat.beq q.1 18 && Nat.beq w.1 10)) && (Nat.blt n q.2.length && Nat.ble n 2147483647)) with
          | false => rw [h1] at h; cases h
          | true =>
            rw [h1, cond_true, rset_eq, wset_k] at h
            cases h
            rw [Bool.and_eq_true, Bool.and_eq_true, Bool.or_eq_true, Bool.and_eq_true, Bool.and_eq_true] at h1
            have hlt : n < q.2.length := Nat.le_of_ble_eq_true h1.2.1
            have hn31 := Nat.le_of_ble_eq_true h1.2.2
            have en := nd_ok hE hn
            obtain ⟨C, T, N, ht13, ht18, hc, hty⟩ : ∃ (C : String) (T : u_T) (N : Nat), 13 ≤ q.1 ∧ (q.1 = 17 ∨ q.1 = 18) ∧ vwCl[w.1]? = some (C, T, N) ∧ tyA q.1 = .object C := by
              rcases h1.1 with ⟨g1, g2⟩ | ⟨g1, g2⟩
              · have g1 := Nat.eq_of_beq_eq_true g1
                have g2 := Nat.eq_of_beq_eq_true g2
                rw [g1, g2]
                exact ⟨_, _, _, by decide, Or.inl rfl, rfl, rfl⟩
              · have g1 := Nat.eq_of_beq_eq_true g1
                have g2 := Nat.eq_of_beq_eq_true g2
                rw [g1, g2]
                exact ⟨_, _, _, by decide, Or.inr rfl, rfl, rfl⟩
            have hw13 : w.1 < 13 := by
              rcases h1.1 with ⟨g1, g2⟩ | ⟨g1, g2⟩
              · have g2 := Nat.eq_of_beq_eq_true g2; omega
              · have g2 := Nat.eq_of_beq_eq_true g2; omega
            intro kk aw' H locs ls hr hP hH hS hl
            have hq' := rep_get hr hq
            have hw' := rep_get hr hw
            have hcell := at_arr hP hq' ht13
            have hobj := hP j _ (rW_get hw')
            rw [rce_obj hw13] at hobj
            obtain ⟨r', hr', cellV, g1, g2, g3, -⟩ := hobj
            have hcls := (hsf.1.1 w.1 _ hc).2
            have hRA := (hsf.1.2 (q.1 - 13) _ (tyA_at ht13 (by omega))).2
            rw [hty] at hRA
            obtain ⟨kA, comp, k1, k2, k3, -⟩ := hRA
            have hcomp : comp = dC w.1 := Option.some.inj (k3.symm.trans hcls.1)
            subst hcomp
            obtain ⟨kC, hkC, -⟩ := hcls.2
            have key : W p l e R s m args below meth c H locs cn z Q (F0 m pc ls (.ref (B + j) :: .int (nI n) :: .ref (B + k) :: r.map (rv sg b B))) := by
              refine W.aast hx hb hcell (fun q h => by cases h) (fun h => by cases h) k1 k2 rfl hkC ⟨nI_pos (by omega), by rw [arrV_size, nI_clamp (by omega)]; exact hlt⟩ g1 (fun q h => by rw [g3] at h; cases h) (by rw [g2]; exact hkC) (by rw [g2]; exact va_assign hcls) rfl rfl hdg fun H1 e z' oq => ?_
              rw [nI_clamp (by omega)] at e ⊢
              obtain ⟨p1, p2, p3⟩ := fin_st (i := n) (q' := (q.1, q.2.set n (.inr (.inr (some (j + 1)))))) hP hH hS hq' (at_st ht13 hlt (by
                unfold aV
                rw [if_neg (by omega), if_neg (by omega)]
                rfl) e) z' oq
              exact kk _ H1 _ ls (wset_rep hr hq' _) p1 p2 p3 hl
            rw [← en.2] at key
            exact key
        · cases h
      · cases h
    · exact spl_ok h
  · cases h
theorem s_alen {p : Program} {l : Launch} {e : Env} {R : Room} {s : State} {m : MethodId} {args : Array Value} {below : List Frame} {meth : Method} {c : Code} {Q : State → Prop} {sg : Nat → Int32} {b B L : Nat} {xs : Nat → Int32} {dC : Nat → ClassId} {dI : Nat → Nat → Nat} {cy : Nat → ClassId} {cc : ByteArray} {nL own : Nat} {ini : Bool} {ret : Option FieldType} {mc ms : Nat} {E : rE} {pc : Nat} {lv : rK} {st : List rV} {aw : rD} {cn z : Nat} {o : rO} (F : FF p s m args meth c cc nL own ini b B L xs dC dI cy) (hs : SG sg L xs) (hdg : decode cc pc = .ok (.arraylength, 1)) (h : h_alen tT own ret ini mc ms L E pc lv st aw cn z = some o) : Sem p l e R s m args below meth c Q sg b B cy dC dI nL cc own ret mc ms o (pc, lv, st, aw, cn, z) := by
  obtain ⟨hx, hb, hml, ho, hts, hsf, hin⟩ := F
  unfold h_alen at h
  split at h
  · next k r =>
    split at h
    · cases h
      intro kk aw' H locs ls hr hP hH hS hl
      have hbB := hsf.2.2.2.2.1
      have hBs := hsf.2.2.2.2.2
      refine va_slen (b := b) hx hb hsf.2.2.2.1 (by omega) (show ¬ B ≤ b by omega) hS hdg ?_
      have e : ri sg L = Int32.ofNat L := ri_c hs.2.2.2.2
      rw [← e]
      exact kk aw' H locs ls hr hP hH hS hl
    · next k =>
      split at h
      · next q hq =>
        cases h1 : (Nat.ble 13 q.1 && (Nat.ble q.1 19 && Nat.ble q.2.length 4294967295)) with
        | false => rw [h1] at h; cases h
        | true =>
          rw [h1, cond_true, fN_eq] at h
          cases h
          rw [Bool.and_eq_true, Bool.and_eq_true] at h1
          have g1 := Nat.le_of_ble_eq_true h1.1
          have g2 := Nat.le_of_ble_eq_true h1.2.1
          have g3 := Nat.le_of_ble_eq_true h1.2.2
          intro kk aw' H locs ls hr hP hH hS hl
          have hq' := rep_get hr hq
          refine W.alen (n := nI q.2.length) hx hb (at_arr hP hq' g1) (isA hsf.1 g1 g2 _ _) (by rw [arrV_size]; rfl) rfl rfl hdg ?_
          have e : ri sg q.2.length = nI q.2.length := ri_c (Nat.lt_succ_of_le g3)
          rw [← e]
          exact kk aw' H locs ls hr hP hH hS hl
      · cases h
  · cases h
theorem s_getf {p : Program} {l : Launch} {e : Env} {R : Room} {s : State} {m : MethodId} {args : Array Value} {below : List Frame} {meth : Method} {c : Code} {Q : State → Prop} {sg : Nat → Int32} {b B L : Nat} {xs : Nat → Int32} {dC : Nat → ClassId} {dI : Nat → Nat → Nat} {cy : Nat → ClassId} {cc : ByteArray} {nL own : Nat} {ini : Bool} {ret : Option FieldType} {mc ms : Nat} {E : rE} {pc : Nat} {lv : rK} {st : List rV} {aw : rD} {cn z : Nat} {o : rO} {i : Nat} (F : FF p s m args meth c cc nL own ini b B L xs dC dI cy) (hO : OT) (hdg : decode cc pc = .ok (.getfield i, 3)) (h : h_getf i tT own ret ini mc ms L E pc lv st aw cn z = some o) : Sem p l e R s m args below meth c Q sg b B cy dC dI nL cc own ret mc ms o (pc, lv, st, aw, cn, z) := by
  obtain ⟨hx, hb, hml, ho, hts, hsf, hin⟩ := F
  unfold h_getf at h
  split at h
  · next j r =>
    split at h
    · next ci k w hk =>
      split at h
      · next q hq =>
        cases h1 : Nat.beq q.1 ci with
        | false => rw [h1] at h; cases h
        | true =>
          rw [h1, cond_true] at h
          split at h
          · next v hv =>
            cases h
            have g1 := Nat.eq_of_beq_eq_true h1
            obtain ⟨fi, kd⟩ := w
            obtain ⟨C, T, N, hc, hkN, hlink, hkd, hfin⟩ := hO.2.1 own i ci k fi kd (kf_mem hk)
            obtain ⟨c1, c2, c3, c4, c5, c6, c7, c8⟩ := hO.1 ci C T N hc
            intro kk aw' H locs ls hr hP hH hS hl
            have hq' := rep_get hr hq
            have he := rW_get (sg := sg) (b := b) (B := B) (cy := cy) hq'
            rw [rce_obj (by rw [g1]; exact c7), g1] at he
            rw [rget_eq] at hv
            exact va_get (v := rv sg b B v) hx hb hts c1 ho hsf.1 hP j he hc k hkN (hts _ hlink) (fun _ h9 => h9) (by rw [List.getElem?_map, hv]; rfl) hdg (kk aw' H locs ls hr hP hH hS hl)
          · cases h
      · cases h
    · cases h
  · cases h
theorem fi_ok {sg : Nat → Int32} {b B kd : Nat} {ty : FieldType} {v : rV} (hk : fk ty = kd) (h : ok_fi kd v = true) : narrow ty (rv sg b B v) = rv sg b B v ∧ fits ty (rv sg b B v) = true := by
  subst hk
  match v, h with
  | .inl n, h =>
    have h' : (Nat.beq (fk ty) 0 || (Nat.beq (fk ty) 1 && Nat.ble n 1)) = true := h
    rw [Bool.or_eq_true, Bool.and_eq_true] at h'
    rcases h' with g | ⟨g1, g2⟩
    · have g := Nat.eq_of_beq_eq_true g
      cases ty <;> first | exact ⟨rfl, rfl⟩ | cases g
    · have g1 := Nat.eq_of_beq_eq_true g1
      have g2 := Nat.le_of_ble_eq_true g2
      cases ty <;> first | (cases g1; done) | skip
      have : n = 0 ∨ n = 1 := by omega
      show narrow .boolean (.int (ri sg n)) = .int (ri sg n) ∧ fits .boolean (.int (ri sg n)) = true
      rcases this with rfl | rfl
      · rw [ri_c (by decide)]; decide
      · rw [ri_c (by decide)]; decide
  | .inr (.inl n), h =>
    have g := Nat.eq_of_beq_eq_true (show Nat.beq (fk ty) 2 = true from h)
    cases ty <;> first | exact ⟨rfl, rfl⟩ | cases g
  | .inr (.inr (some n)), h =>
    have g := Nat.eq_of_beq_eq_true (show Nat.beq (fk ty) 3 = true from h)
    cases ty <;> first | exact ⟨rfl, rfl⟩ | cases g
  | .inr (.inr none), h => cases h
theorem s_putf {p : Program} {l : Launch} {e : Env} {R : Room} {s : State} {m : MethodId} {args : Array Value} {below : List Frame} {meth : Method} {c : Code} {Q : State → Prop} {sg : Nat → Int32} {b B L : Nat} {xs : Nat → Int32} {dC : Nat → ClassId} {dI : Nat → Nat → Nat} {cy : Nat → ClassId} {cc : ByteArray} {nL own : Nat} {ini : Bool} {ret : Option FieldType} {mc ms : Nat} {E : rE} {pc : Nat} {lv : rK} {st : List rV} {aw : rD} {cn z : Nat} {o : rO} {i : Nat} (F : FF p s m args meth c cc nL own ini b B L xs dC dI cy) (hO : OT) (hdg : decode cc pc = .ok (.putfield i, 3)) (h : h_putf i tT own ret ini mc ms L E pc lv st aw cn z = some o) : Sem p l e R s m args below meth c Q sg b B cy dC dI nL cc own ret mc ms o (pc, lv, st, aw, cn, z) := by
  obtain ⟨hx, hb, hml, ho, hts, hsf, hini⟩ := F
  unfold h_putf at h
  split at h
  · next v j r =>
    split at h
    · next ci k fi kd hk =>
      split at h
      · next q hq =>
        cases h1 : (Nat.beq q.1 ci && (ok_fi kd v && (Nat.blt k q.2.length && (Nat.beq fi 0 || (Nat.beq fi 1 && ini))))) with
        | false => rw [h1] at h; cases h
        | true =>
          rw [h1, cond_true, rset_eq, wset_k] at h
          cases h
          rw [Bool.and_eq_true, Bool.and_eq_true, Bool.and_eq_true, Bool.or_eq_true, Bool.and_eq_true] at h1
          have g1 := Nat.eq_of_beq_eq_true h1.1
          have g2 := h1.2.1
          have hl0 : k < q.2.length := Nat.le_of_ble_eq_true h1.2.2.1
          obtain ⟨C, T, N, hc, hkN, hlink, hkd, hfin⟩ := hO.2.1 own i ci k fi kd (kf_mem hk)
          obtain ⟨c1, c2, c3, c4, c5, c6, c7, c8⟩ := hO.1 ci C T N hc
          have hvf := fi_ok (sg := sg) (b := b) (B := B) hkd g2
          intro kk aw' H locs ls hr hP hH hS hl
          have hq' := rep_get hr hq
          have he := rW_get (sg := sg) (b := b) (B := B) (cy := cy) hq'
          rw [rce_obj (by rw [g1]; exact c7), g1] at he
          have hap := va_apart (own := oN own) hts c1 (fty ci) c2 c3 hsf.1 hc
          obtain ⟨r0, hr0, cell, q1, q2, q3, q4⟩ := hP j _ he
          have hr1 : r0 = (C, T, N) := Option.some.inj (hr0.symm.trans hc)
          subst hr1
          obtain ⟨hSl, hfc, kC, hkC, hkind⟩ := hsf.1.1 ci _ hc
          obtain ⟨cf, kf0, fi0, f, hi, hsl⟩ := hSl k hkN
          have hst := (u_facts hfc hkC (u_lays hts c1 hkN) hi).1
          have hlay := hts _ (c1 _ (u_in_lay hkN))
          unfold u_lay at hlay
          have fin : ∀ H' : Heap, H'[B + j]? = some (cell.setSlot f.slot (rv sg b B v)) → H'.size = H.size → (∀ q, q ≠ B + j → H'[q]? = H[q]?) → W p l e R s m args below meth c H' (locs ++ [⟨B + j, f.slot⟩]) cn z Q (F0 m (pc + 3) ls (r.map (rv sg b B))) := by
            intro H' e1 e2 e3
            rw [hsl] at e1 ⊢
            obtain ⟨p1, p2, p3⟩ := fin_st (i := dI ci k) (q' := (q.1, q.2.set k v)) hP hH hS hq' (by
              rw [rce_obj (q := (q.1, q.2.set k v)) (by rw [g1]; exact c7)]
              show va_at (dC, dI) vwCl (B + j, .inr (q.1, (q.2.set k v).map (rv sg b B))) H'
              rw [g1, List.map_set]
              exact ⟨_, hc, t_OB.to (V := updV (vp_V (q.2.map (rv sg b B))) k (rv sg b B v)) ⟨_, e1, q2, q3, t_set q4 hap hkN _⟩ (fun j' _ => vp_updV_set (by rw [List.length_map]; exact hl0) _ j')⟩) e2 e3
            exact kk _ H' _ ls (wset_rep hr hq' _) p1 p2 p3 hl
          rcases hfin with ⟨f0, f1⟩ | ⟨f0, f1, f2⟩ | f0
          · rw [if_neg (by rw [f1]; decide)] at hlay
            have h6 := u_store hfc hkC hkind hlay hi (c2 k hkN) hvf.1 hvf.2
            exact W.putK hx hb (f := f) ⟨ho, hts _ hlink, ⟨_, _, _, hi⟩, hst⟩ (by rw [q2]; exact h6) q1 q3 (by rw [hsl]; exact k2_hasslot (q4 k hkN)) rfl rfl hdg fin
          · rw [if_pos f1] at hlay
            have hi1 : ini = true := by
              rcases h1.2.2.2 with g | g
              · rw [f0] at g; cases g
              · exact g.2
            have hcf : m.cls = cf := by
              obtain ⟨_, _, c', _, _, _, -, -, hf', -, -, -, hown2, -⟩ := Cond.laysFinal_spec hlay
              have e1 : c' = cf := by have := hi.symm.trans hf'; simp at this; exact this.1.symm
              rw [f2] at hown2
              rw [← e1]; exact Option.some.inj (ho.symm.trans hown2)
            have h6 := u_fits hfc hkC hkind (Or.inr hlay) hi (c2 k hkN) hvf.1 hvf.2
            exact W.putFinK hx hb ho (hts _ hlink) hi hst hcf (hini hi1) (by rw [q2]; exact h6) q1 q3 (by rw [hsl]; exact k2_hasslot (q4 k hkN)) rfl rfl hdg fin
          · rcases h1.2.2.2 with g | g
            · rw [f0] at g; cases g
            · rw [f0] at g; cases g.1
      · cases h
    · cases h
  · cases h
end
section
/-! rules: new cells, copies, Object's constructor -/
theorem wsnoc_k {β : Type} (v : rC) (D : rD) (K : rD → β) : wsnoc v D K = K (wsnoc v D (fun d => d)) := by
  unfold wsnoc
  rw [fN_eq, fN_eq]
  split
  · rw [rsnoc_eq, rset_eq, rsnoc_eq, rset_eq]
  · rw [rsnoc_eq, rsnoc_eq]
theorem wsnoc_rep {D : rD} {aw : List rC} (h : rep D aw) (v : rC) : rep (wsnoc v D (fun d => d)) (aw ++ [v]) := by
  obtain ⟨D', h1, h2⟩ := rep_snoc (β := rD) h v
  rw [h2]
  exact h1
/-- a cell is made -/
theorem fin_new {sg : Nat → Int32} {b B : Nat} {cy : Nat → ClassId} {D : va_G} {aw : List rC} {H H1 H0 : Heap} {locs : List Loc} {q' : rC} (hP : va_P D vwCl (rW sg b B cy aw) H) (hH : H.size = B + aw.length) (hS : va_S (rG B) H0 H locs) (he : va_at D vwCl (B + aw.length, rce sg b B cy q') H1) (z : H1.size = H.size + 1) (oq : ∀ q : Nat, q < H.size → H1[q]? = H[q]?) : va_P D vwCl (rW sg b B cy (aw ++ [q'])) H1 ∧ H1.size = B + (aw ++ [q']).length ∧ va_S (rG B) H0 H1 locs := by
  refine ⟨?_, by rw [List.length_append, z, hH]; rfl, ⟨Nat.le_trans hS.1 (by omega), fun x h1 h2 => (oq x (Nat.lt_of_lt_of_le h1 hS.1)).trans (hS.2.1 x h1 h2), hS.2.2⟩⟩
  rw [rW_app]
  refine va_P.app (hP.kept (fun k x hx => oq x.1 ((hP k x hx).lt))) (fun k x hx => ?_)
  have hz : k < 1 := (List.getElem?_eq_some_iff.mp hx).1
  rw [show k = 0 by omega] at hx
  cases hx
  exact he
theorem fd_ok {sg : Nat → Int32} {b B : Nat} {ty : FieldType} (h : fk ty ≠ 4) : defaultValue ty = rv sg b B (fd (fk ty)) := by
  cases ty <;> first | rfl | exact absurd rfl h
theorem s_new {p : Program} {l : Launch} {e : Env} {R : Room} {s : State} {m : MethodId} {args : Array Value} {below : List Frame} {meth : Method} {c : Code} {Q : State → Prop} {sg : Nat → Int32} {b B L : Nat} {xs : Nat → Int32} {dC : Nat → ClassId} {dI : Nat → Nat → Nat} {cy : Nat → ClassId} {cc : ByteArray} {nL own : Nat} {ini : Bool} {ret : Option FieldType} {mc ms : Nat} {E : rE} {pc : Nat} {lv : rK} {st : List rV} {aw : rD} {cn z : Nat} {o : rO} {i : Nat} (hR : R.cells = mc ∧ R.slots = ms) (F : FF p s m args meth c cc nL own ini b B L xs dC dI cy) (hO : OT) (hdg : decode cc pc = .ok (.new i, 3)) (h : h_new i tT own ret ini mc ms L E pc lv st aw cn z = some o) : Sem p l e R s m args below meth c Q sg b B cy dC dI nL cc own ret mc ms o (pc, lv, st, aw, cn, z) := by
  obtain ⟨hx, hb, hml, ho, hts, hsf, hini⟩ := F
  unfold h_new at h
  split at h
  · next ci hk =>
    cases h1 : (Nat.blt ci 13 && (Nat.ble (Nat.add cn 1) mc && Nat.ble (Nat.add z (fnn ci)) ms)) with
    | false => rw [h1] at h; cases h
    | true =>
      rw [h1, cond_true, wsnoc_k] at h
      cases h
      rw [Bool.and_eq_true, Bool.and_eq_true] at h1
      have g1 : ci < 13 := Nat.le_of_ble_eq_true h1.1
      have g2 : cn + 1 ≤ mc := Nat.le_of_ble_eq_true h1.2.1
      have g3 : z + fnn ci ≤ ms := Nat.le_of_ble_eq_true h1.2.2
      obtain ⟨C, T, N, hc, hlink⟩ := (hO.2.2.1 own i ci (kf_mem hk)).1 g1
      obtain ⟨c1, c2, c3, c4, c5, c6, c7, c8⟩ := hO.1 ci C T N hc
      intro kk aw' H locs ls hr hP hH hS hl
      have hKn := hsf.1.1 ci _ hc
      refine W.newcK hx hb ho (hts _ hlink) (hts _ c4) (hts _ c5) rfl hdg (by rw [hR.1]; exact g2) (by rw [hR.2, c6]; exact g3) hKn.2.1 rfl fun H1 kC hkC e1 z1 o1 => ?_
      have hat : va_at (dC, dI) vwCl (B + aw'.length, rce sg b B cy (ci, blank_ ci)) H1 := by
        rw [rce_obj (q := (ci, blank_ ci)) c7, ← hH]
        refine ⟨_, hc, (u_born (fty ci) hts c1 hKn hkC e1 c2).to (fun j hj => ?_)⟩
        show defaultValue (fty ci j) = ((blank_ ci).map (rv sg b B)).getD j .null
        unfold blank_
        rw [List.getD_eq_getElem?_getD, List.getElem?_map, List.getElem?_map, ← c6, List.getElem?_range hj]
        exact fd_ok (c8 j hj)
      obtain ⟨p1, p2, p3⟩ := fin_new hP hH hS hat z1 o1
      have key := kk (aw' ++ [(ci, blank_ ci)]) H1 locs ls (wsnoc_rep hr _) p1 p2 p3 hl
      have er : rv sg b B (.inr (.inr (some (Nat.succ aw.1)))) = .ref H.size := by
        show Value.ref (B + aw.1) = _
        rw [hH]
        congr 2
        exact hr.1
      rw [c6]
      rw [← er]
      exact key
  · cases h
theorem z_def {sg : Nat → Int32} {b B : Nat} {t : ArrayType} (h : 13 ≤ ztag t) : newarray.typeOf t = tyA (ztag t) ∧ ztag t ≤ 19 ∧ aV sg b B (ztag t) (zval (ztag t)) = defaultValue (newarray.typeOf t) ∧ componentBytes (newarray.typeOf t) ≤ 8 := by
  cases t <;> first | exact ⟨rfl, by decide, rfl, by decide⟩ | (exfalso; revert h; decide)
theorem s_newa {p : Program} {l : Launch} {e : Env} {R : Room} {s : State} {m : MethodId} {args : Array Value} {below : List Frame} {meth : Method} {c : Code} {Q : State → Prop} {sg : Nat → Int32} {b B L : Nat} {xs : Nat → Int32} {dC : Nat → ClassId} {dI : Nat → Nat → Nat} {cy : Nat → ClassId} {cc : ByteArray} {nL own : Nat} {ini : Bool} {ret : Option FieldType} {mc ms : Nat} {E : rE} {pc : Nat} {lv : rK} {st : List rV} {aw : rD} {cn z : Nat} {o : rO} {t : ArrayType} (hR : R.cells = mc ∧ R.slots = ms) (F : FF p s m args meth c cc nL own ini b B L xs dC dI cy) (hO : OT) (hE : eOK sg E) (hdg : decode cc pc = .ok (.newarray t, 2)) (h : h_newa t tT own ret ini mc ms L E pc lv st aw cn z = some o) : Sem p l e R s m args below meth c Q sg b B cy dC dI nL cc own ret mc ms o (pc, lv, st, aw, cn, z) := by
  obtain ⟨hx, hb, hml, ho, hts, hsf, hini⟩ := F
  unfold h_newa at h
  split at h
  · next x r =>
    split at h
    · next n hn =>
      cases h1 : (Nat.ble 13 (ztag t) && (Nat.ble n 100000 && (Nat.ble (Nat.add cn 1) mc && Nat.ble (Nat.add z n) ms))) with
      | false => rw [h1] at h; cases h
      | true =>
        rw [h1, cond_true, wsnoc_k] at h
        cases h
        rw [Bool.and_eq_true, Bool.and_eq_true, Bool.and_eq_true] at h1
        have g0 := Nat.le_of_ble_eq_true h1.1
        have g1 := Nat.le_of_ble_eq_true h1.2.1
        have g2 : cn + 1 ≤ mc := Nat.le_of_ble_eq_true h1.2.2.1
        have g3 : z + n ≤ ms := Nat.le_of_ble_eq_true h1.2.2.2
        obtain ⟨z1, z2, z3, z4⟩ := z_def (sg := sg) (b := b) (B := B) g0
        have en := nd_ok hE hn
        have harr : (Cond.arrayClass (newarray.typeOf t)).before args s = true := by
          obtain ⟨-, -, -, -, -, -, -, -, -, -, -, a1, a2, a3, a4⟩ := hO
          cases t <;> first | exact hts _ a1 | exact hts _ a2 | exact hts _ a3 | exact hts _ a4 | (exfalso; revert g0; decide)
        intro kk aw' H locs ls hr hP hH hS hl
        have key : W p l e R s m args below meth c H locs cn z Q (F0 m pc ls (.int (nI n) :: r.map (rv sg b B))) := by
          have hbytes : n * componentBytes (newarray.typeOf t) ≤ 536870912 := Nat.le_trans (Nat.mul_le_mul g1 z4) (by decide)
          refine va_newaK hx hb harr rfl hdg rfl (nI_pos (by omega)) (nI_clamp (by omega)) hbytes (by rw [hR.1]; exact g2) (by rw [hR.2]; exact g3) rfl fun H1 cA e1 z1' o1 hAr hNm => ?_
          have hcA : cA = cy (ztag t) := by
            have hRA := (hsf.1.2 (ztag t - 13) _ (tyA_at g0 z2)).2
            have : s.vm.findClass ("[" ++ (tyA (ztag t)).toString) = some (cy (ztag t)) := by
              cases t <;> first | exact hRA | (exfalso; revert g0; decide)
            rw [← z1] at this
            exact Option.some.inj (hNm.symm.trans this)
          subst hcA
          have hat : va_at (dC, dI) vwCl (B + aw'.length, rce sg b B cy (ztag t, List.replicate n (zval (ztag t)))) H1 := by
            rw [rce_arr (q := (ztag t, List.replicate n (zval (ztag t)))) g0]
            show H1[B + aw'.length]? = some (vp_cell _ _)
            rw [rA_cell, ← hH, e1, List.length_replicate]
            have hcong : ∀ f g : Nat → Value, (∀ j, j < n → f j = g j) → arrV (cy (ztag t)) n f = arrV (cy (ztag t)) n g := by
              intro f g hfg
              unfold arrV
              congr 2
              funext j
              exact hfg j.1 j.2
            congr 1
            apply hcong
            intro j hj
            rw [List.getD_eq_getElem?_getD, List.getElem?_replicate, if_pos hj]
            exact z3.symm
          obtain ⟨p1, p2, p3⟩ := fin_new hP hH hS hat z1' o1
          have key := kk (aw' ++ [(ztag t, List.replicate n (zval (ztag t)))]) H1 locs ls (wsnoc_rep hr _) p1 p2 p3 hl
          have er : rv sg b B (.inr (.inr (some (Nat.succ aw.1)))) = .ref H.size := by
            show Value.ref (B + aw.1) = _
            rw [hH]
            congr 2
            exact hr.1
          rw [← er]
          exact key
        rw [← en.2] at key
        exact key
    · cases h
  · cases h
theorem arr_cong {cA : ClassId} {n : Nat} (f g : Nat → Value) (hfg : ∀ j, j < n → f j = g j) : arrV cA n f = arrV cA n g := by
  unfold arrV
  congr 2
  funext j
  exact hfg j.1 j.2
theorem s_anew {p : Program} {l : Launch} {e : Env} {R : Room} {s : State} {m : MethodId} {args : Array Value} {below : List Frame} {meth : Method} {c : Code} {Q : State → Prop} {sg : Nat → Int32} {b B L : Nat} {xs : Nat → Int32} {dC : Nat → ClassId} {dI : Nat → Nat → Nat} {cy : Nat → ClassId} {cc : ByteArray} {nL own : Nat} {ini : Bool} {ret : Option FieldType} {mc ms : Nat} {E : rE} {pc : Nat} {lv : rK} {st : List rV} {aw : rD} {cn z : Nat} {o : rO} {i : Nat} (hR : R.cells = mc ∧ R.slots = ms) (F : FF p s m args meth c cc nL own ini b B L xs dC dI cy) (hO : OT) (hE : eOK sg E) (hdg : decode cc pc = .ok (.anewarray i, 3)) (h : h_anew i tT own ret ini mc ms L E pc lv st aw cn z = some o) : Sem p l e R s m args below meth c Q sg b B cy dC dI nL cc own ret mc ms o (pc, lv, st, aw, cn, z) := by
  obtain ⟨hx, hb, hml, ho, hts, hsf, hini⟩ := F
  unfold h_anew at h
  split at h
  · next x r =>
    split at h
    · next ci hk =>
      split at h
      · next n hn =>
        cases h1 : ((Nat.beq ci 6 || Nat.beq ci 10) && (Nat.ble n 100000 && (Nat.ble (Nat.add cn 1) mc && Nat.ble (Nat.add z n) ms))) with
        | false => rw [h1] at h; cases h
        | true =>
          rw [h1, cond_true, wsnoc_k] at h
          cases h
          rw [Bool.and_eq_true, Bool.and_eq_true, Bool.and_eq_true, Bool.or_eq_true] at h1
          have g1 := Nat.le_of_ble_eq_true h1.2.1
          have g2 : cn + 1 ≤ mc := Nat.le_of_ble_eq_true h1.2.2.1
          have g3 : z + n ≤ ms := Nat.le_of_ble_eq_true h1.2.2.2
          have en := nd_ok hE hn
          obtain ⟨t, C, ht, ht13, ht19, htc, hlink, hao⟩ : ∃ (t : Nat) (C : String), (bif Nat.beq ci 6 then 17 else 18) = t ∧ 17 ≤ t ∧ t ≤ 18 ∧ tyA t = .object C ∧ (Cond.classLink (oN own) i C ∈ TG) ∧ va_AO C s := by
            rcases h1.1 with g | g
            · have g' := Nat.eq_of_beq_eq_true g
              subst g'
              obtain ⟨C, T, N, hc, hlink⟩ := (hO.2.2.1 own i 6 (kf_mem hk)).1 (by decide)
              have hc' : (RX6, TX6, 4) = (C, T, N) := Option.some.inj hc
              cases hc'
              exact ⟨17, "AyeJars$Jars", rfl, by decide, by decide, rfl, hlink, hsf.2.1.1⟩
            · have g' := Nat.eq_of_beq_eq_true g
              subst g'
              obtain ⟨C, T, N, hc, hlink⟩ := (hO.2.2.1 own i 10 (kf_mem hk)).1 (by decide)
              have hc' : (RX10, TX10, 7) = (C, T, N) := Option.some.inj hc
              cases hc'
              exact ⟨18, "AyeJars$Trial", rfl, by decide, by decide, rfl, hlink, hsf.2.1.2.1⟩
          rw [ht]
          intro kk aw' H locs ls hr hP hH hS hl
          have key : W p l e R s m args below meth c H locs cn z Q (F0 m pc ls (.int (nI n) :: r.map (rv sg b B))) := by
            refine W.anew hx hb ho (hts _ hlink) (va_AO.use hao) rfl hdg rfl (nI_pos (by omega)) (by rw [nI_clamp (by omega)]; omega) (by rw [hR.1]; exact g2) (by rw [hR.2, nI_clamp (by omega)]; exact g3) fun cA kA comp f1 f2 f3 f4 => ?_
            rw [nI_clamp (by omega)]
            generalize hH1 : H.push ({ cls := cA, slots := Array.replicate n .null, vm := .none } : Cell) = H1
            have z1 : H1.size = H.size + 1 := by rw [← hH1, Array.size_push]
            have e1 : H1[H.size]? = some (arrV cA n (fun _ => .null)) := by rw [← hH1, Array.getElem?_push_size, ← arrV_new]
            have o1 : ∀ q : Nat, q < H.size → H1[q]? = H[q]? := fun q hq => by rw [← hH1, Array.getElem?_push, if_neg (Nat.ne_of_lt hq)]
            have hcA : cA = cy t := by
              have hRA := (hsf.1.2 (t - 13) _ (tyA_at (by omega) (by omega))).2
              rw [htc] at hRA
              obtain ⟨-, -, -, -, -, h4⟩ := hRA
              exact Option.some.inj (f1.symm.trans h4)
            subst hcA
            have hat : va_at (dC, dI) vwCl (B + aw'.length, rce sg b B cy (t, List.replicate n (.inr (.inr none)))) H1 := by
              rw [rce_arr (q := (t, List.replicate n (.inr (.inr none)))) (by show 13 ≤ t; omega)]
              show H1[B + aw'.length]? = some (vp_cell _ _)
              rw [rA_cell, ← hH, e1, List.length_replicate]
              congr 1
              apply arr_cong
              intro j hj
              rw [List.getD_eq_getElem?_getD, List.getElem?_replicate, if_pos hj]
              unfold aV
              rw [if_neg (by omega), if_neg (by omega)]
              rfl
            obtain ⟨p1, p2, p3⟩ := fin_new hP hH hS hat z1 o1
            have key := kk (aw' ++ [(t, List.replicate n (.inr (.inr none)))]) H1 locs ls (wsnoc_rep hr _) p1 p2 p3 hl
            have er : rv sg b B (.inr (.inr (some (Nat.succ aw.1)))) = .ref H.size := by
              show Value.ref (B + aw.1) = _
              rw [hH]
              congr 2
              exact hr.1
            rw [← er]
            exact key
          rw [← en.2] at key
          exact key
      · cases h
    · cases h
  · cases h
end
section
/-! rules: arrays of arrays, copies, calls -/
theorem wsn_k {β : Type} (v : rC) (K : rD → β) : ∀ (n : Nat) (D : rD), wsn n v D K = K (wsn n v D (fun d => d)) := by
  intro n
  induction n with
  | zero => intro D; rfl
  | succ n ih =>
    intro D
    show wsnoc v D (fun D => wsn n v D K) = K (wsnoc v D (fun D => wsn n v D (fun d => d)))
    rw [wsnoc_k, wsnoc_k v D (fun D => wsn n v D (fun d => d))]
    exact ih _
theorem wsn_rep (v : rC) : ∀ (n : Nat) {D : rD} {aw : List rC}, rep D aw → rep (wsn n v D (fun d => d)) (aw ++ List.replicate n v) := by
  intro n
  induction n with
  | zero => intro D aw h; rw [List.replicate_zero, List.append_nil]; exact h
  | succ n ih =>
    intro D aw h
    have h1 := ih (wsnoc_rep h v)
    rw [List.append_assoc, List.singleton_append, ← List.replicate_succ] at h1
    have e : wsn (n + 1) v D (fun d => d) = wsn n v (wsnoc v D (fun d => d)) (fun d => d) := by
      show wsnoc v D (fun D => wsn n v D (fun d => d)) = _
      rw [wsnoc_k]
    rw [e]
    exact h1
theorem out_arr (c : ClassId) (N h0 : Nat) : ∀ i : Nat, Jvm.Free.Multi.outerC c N h0 i = arrV c N (fun j => va_rf (if j < i then some (h0 + 1 + j) else none))
  | 0 => by
    show ({ cls := c, slots := Array.replicate N .null, vm := .none } : Cell) = _
    rw [arrV_new]
    exact arr_cong _ _ (fun j _ => by simp [va_rf])
  | i + 1 => by
    show (Jvm.Free.Multi.outerC c N h0 i).setSlot i (.ref (h0 + 1 + i)) = _
    rw [out_arr c N h0 i, arrV_store]
    refine arr_cong _ _ (fun j _ => ?_)
    unfold updV
    by_cases e : j = i
    · subst e
      simp [va_rf]
    · by_cases h : j < i
      · simp [e, h, Nat.lt_succ_of_lt h]
      · simp [e, h, show ¬ j < i + 1 by omega]
theorem s_mnew {p : Program} {l : Launch} {e : Env} {R : Room} {s : State} {m : MethodId} {args : Array Value} {below : List Frame} {meth : Method} {c : Code} {Q : State → Prop} {sg : Nat → Int32} {b B L : Nat} {xs : Nat → Int32} {dC : Nat → ClassId} {dI : Nat → Nat → Nat} {cy : Nat → ClassId} {cc : ByteArray} {nL own : Nat} {ini : Bool} {ret : Option FieldType} {mc ms : Nat} {E : rE} {pc : Nat} {lv : rK} {st : List rV} {aw : rD} {cn z : Nat} {o : rO} {i d : Nat} (hR : R.cells = mc ∧ R.slots = ms) (F : FF p s m args meth c cc nL own ini b B L xs dC dI cy) (hO : OT) (hE : eOK sg E) (hdg : decode cc pc = .ok (.multianewarray i d, 4)) (h : h_mnew i d tT own ret ini mc ms L E pc lv st aw cn z = some o) : Sem p l e R s m args below meth c Q sg b B cy dC dI nL cc own ret mc ms o (pc, lv, st, aw, cn, z) := by
  obtain ⟨hx, hb, hml, ho, hts, hsf, hini⟩ := F
  unfold h_mnew at h
  split at h
  · next y x r =>
    split at h
    · next ci hk =>
      split at h
      · next n hn =>
        split at h
        · next k hkk =>
          cases h1 : (Nat.beq d 2 && (Nat.beq ci 19 && (Nat.ble n 1000 && (Nat.ble k 1000 && (Nat.ble (Nat.add cn (Nat.add 1 n)) mc && Nat.ble (Nat.add z (Nat.add n (Nat.mul n k))) ms))))) with
          | false => rw [h1] at h; cases h
          | true =>
            rw [h1, cond_true, wsnoc_k, wsn_k] at h
            cases h
            rw [Bool.and_eq_true, Bool.and_eq_true, Bool.and_eq_true, Bool.and_eq_true, Bool.and_eq_true] at h1
            have g0 := Nat.eq_of_beq_eq_true h1.1
            have g1 := Nat.eq_of_beq_eq_true h1.2.1
            have g2 := Nat.le_of_ble_eq_true h1.2.2.1
            have g3 := Nat.le_of_ble_eq_true h1.2.2.2.1
            have g4 : cn + (1 + n) ≤ mc := Nat.le_of_ble_eq_true h1.2.2.2.2.1
            have g5 : z + (n + n * k) ≤ ms := Nat.le_of_ble_eq_true h1.2.2.2.2.2
            subst g0
            subst g1
            have en := nd_ok hE hn
            have ek := nd_ok hE hkk
            have hlink := (hO.2.2.1 own i 19 (kf_mem hk)).2 rfl
            have hint := hO.2.2.2.2.2.2.2.2.2.2.2.2.1
            intro kk aw' H locs ls hr hP hH hS hl
            have key : W p l e R s m args below meth c H locs cn z Q (F0 m pc ls (.int (nI k) :: .int (nI n) :: r.map (rv sg b B))) := by
              intro T hT Xs
              have cn31 : (nI n).toNatClampNeg = n := nI_clamp (by omega)
              have ck31 : (nI k).toNatClampNeg = k := nI_clamp (by omega)
              obtain ⟨vm₁, cA, comp, -, fA, fC, -, -, X', step⟩ := Xs.multianewarray2F hx (ty := .int) ho (hts _ hlink) (show (Cond.arrayOver (.array .int)).before args s = true from hsf.2.1.2.2) (hts _ hint) (g := F0 m pc ls (.int (nI k) :: .int (nI n) :: r.map (rv sg b B))) rfl (by rw [hb]; exact hdg) rfl (nI_pos (by omega)) (nI_pos (by omega)) (by rw [cn31]; omega) (by rw [ck31]; show k * 4 ≤ _; omega) (by rw [ck31]; omega) rfl rfl (by rw [cn31, hR.1]; exact g4) (by rw [cn31, ck31, hR.2]; exact g5)
              rw [cn31, ck31] at X' step
              have hcA : cA = cy 19 := Option.some.inj (fA.symm.trans (hsf.1.2 6 _ rfl).2)
              have hcomp : comp = cy 14 := Option.some.inj (fC.symm.trans (hsf.1.2 1 _ rfl).2)
              subst hcA
              subst hcomp
              have hTh : (T.setVm vm₁).heap = H := hT
              obtain ⟨f1, f2, -, -⟩ := Jvm.Free.Multi.fill_facts (T.setVm vm₁) (cy 19) (cy 14) n k (defaultValue .int) n
              have hold : ∀ a : Nat, a < H.size → (Jvm.Free.Multi.fill (T.setVm vm₁) (cy 19) (cy 14) n k (defaultValue .int) n).heap[a]? = H[a]? := fun a ha => by
                have := Jvm.Free.Multi.fill_old (T.setVm vm₁) (cy 19) (cy 14) n k (defaultValue .int) (a := a) (by rw [hTh]; exact ha) n
                rw [hTh] at this
                exact this
              have hinn : ∀ j : Nat, j < n → (Jvm.Free.Multi.fill (T.setVm vm₁) (cy 19) (cy 14) n k (defaultValue .int) n).heap[H.size + 1 + j]? = some (arrV (cy 14) k (fun _ => .int 0)) := fun j hj => by
                have := Jvm.Free.Multi.fill_inner (T.setVm vm₁) (cy 19) (cy 14) n k (defaultValue .int) n j hj
                rw [hTh] at this
                rw [this]
                exact congrArg some (arrV_new (cy 14) k (.int 0))
              rw [hTh] at f1 f2
              rw [out_arr] at f2
              generalize (Jvm.Free.Multi.fill (T.setVm vm₁) (cy 19) (cy 14) n k (defaultValue .int) n) = F at X' step f1 f2 hold hinn
              have hawl : aw.1 = aw'.length := hr.1
              have hP1 : va_P (dC, dI) vwCl (rW sg b B cy ((aw' ++ [(19, (List.range n).map (fun j => .inr (.inr (some (Nat.add aw.1 (Nat.add 2 j))))))]) ++ List.replicate n (14, List.replicate k (.inl 0)))) F.heap := by
                intro i' q hq
                rw [rW_at] at hq
                cases hc : ((aw' ++ [(19, (List.range n).map (fun j => .inr (.inr (some (Nat.add aw.1 (Nat.add 2 j))))))]) ++ List.replicate n (14, List.replicate k (.inl 0)))[i']? with
                | none => rw [hc] at hq; cases hq
                | some cl =>
                  rw [hc] at hq
                  cases hq
                  rcases Nat.lt_trichotomy i' aw'.length with q1 | q1 | q1
                  · rw [List.append_assoc, List.getElem?_append_left q1] at hc
                    have hat := hP i' _ (rW_get hc)
                    exact hat.kept (hold _ (by show B + i' < H.size; omega))
                  · subst q1
                    rw [List.append_assoc, List.getElem?_append_right (Nat.le_refl _), Nat.sub_self] at hc
                    cases hc
                    show va_at (dC, dI) vwCl (B + aw'.length, rce sg b B cy (19, (List.range n).map (fun j => .inr (.inr (some (Nat.add aw.1 (Nat.add 2 j))))))) F.heap
                    rw [rce_arr (q := (19, (List.range n).map (fun j => .inr (.inr (some (Nat.add aw.1 (Nat.add 2 j))))))) (show 13 ≤ 19 by decide)]
                    show F.heap[B + aw'.length]? = some (vp_cell _ _)
                    rw [rA_cell, ← hH, f2, List.length_map, List.length_range]
                    congr 1
                    refine arr_cong _ _ (fun j hj => ?_)
                    rw [if_pos hj, List.getD_eq_getElem?_getD, List.getElem?_map, List.getElem?_range hj]
                    show va_rf (some (H.size + 1 + j)) = va_rf (some (ra b B (Nat.add aw.1 (Nat.add 2 j))))
                    rw [show Nat.add aw.1 (Nat.add 2 j) = (aw.1 + 1 + j) + 1 by show aw.1 + (2 + j) = _; omega]
                    show va_rf (some (H.size + 1 + j)) = va_rf (some (B + (aw.1 + 1 + j)))
                    rw [hH, hawl]
                    congr 2
                    omega
                  · rw [List.append_assoc, List.getElem?_append_right (by omega), List.singleton_append] at hc
                    obtain ⟨j, hj⟩ : ∃ j, i' = aw'.length + 1 + j := ⟨i' - aw'.length - 1, by omega⟩
                    subst hj
                    rw [show aw'.length + 1 + j - aw'.length = j + 1 by omega, List.getElem?_cons_succ, List.getElem?_replicate] at hc
                    by_cases hjn : j < n
                    · rw [if_pos hjn] at hc
                      cases hc
                      show va_at (dC, dI) vwCl (B + (aw'.length + 1 + j), rce sg b B cy (14, List.replicate k (.inl 0))) F.heap
                      rw [rce_arr (q := (14, List.replicate k (.inl 0))) (show 13 ≤ 14 by decide)]
                      show F.heap[B + (aw'.length + 1 + j)]? = some (vp_cell _ _)
                      rw [rA_cell, show B + (aw'.length + 1 + j) = H.size + 1 + j by omega, hinn j hjn, List.length_replicate]
                      congr 1
                      refine arr_cong _ _ (fun a ha => ?_)
                      rw [List.getD_eq_getElem?_getD, List.getElem?_replicate, if_pos ha]
                      rfl
                    · rw [if_neg hjn] at hc
                      cases hc
              have hsz : F.heap.size = B + ((aw' ++ [(19, (List.range n).map (fun j => .inr (.inr (some (Nat.add aw.1 (Nat.add 2 j))))))]) ++ List.replicate n (14, List.replicate k (.inl 0)) : List rC).length := by
                rw [List.length_append, List.length_append, List.length_replicate, f1, hH]
                show B + aw'.length + 1 + n = B + (aw'.length + 1 + n)
                omega
              obtain ⟨t, a1, b1⟩ := kk _ F.heap locs ls (wsn_rep _ n (wsnoc_rep hr _)) hP1 hsz ⟨Nat.le_trans hS.1 (by rw [f1]; omega), fun q g1 g2 => (hold q (Nat.lt_of_lt_of_le g1 hS.1)).trans (hS.2.1 q g1 g2), hS.2.2⟩ hl F rfl X'
              refine ⟨t, step t ?_, b1⟩
              have er : rv sg b B (.inr (.inr (some (Nat.succ aw.1)))) = .ref T.heap.size := by
                show Value.ref (B + aw.1) = _
                rw [hT, hH, hawl]
              rw [← er]
              exact a1
            rw [← en.2, ← ek.2] at key
            exact key
        · cases h
      · cases h
    · cases h
  · cases h
theorem acopy_inv {E : rE} {pc : Nat} {lv : rK} {st : List rV} {aw : rD} {cn z : Nat} {o : rO} (h : acopy E pc lv st aw cn z = some o) : ∃ (n dp sp n' : Nat) (k j : Nat) (r : List rV) (q w : rC), st = .inl n :: .inl dp :: .inr (.inr (some (k + 1))) :: .inl sp :: .inr (.inr (some (j + 1))) :: r ∧ nd E n = some n' ∧ nd E dp = some 0 ∧ nd E sp = some 0 ∧ wget aw k = some q ∧ wget aw j = some w ∧ q.1 = 14 ∧ w.1 = 14 ∧ n' = q.2.length ∧ n' = w.2.length ∧ n' ≤ 2147483647 ∧ csum r ≤ 8 ∧ o = .inl (Nat.add pc 3, lv, r, wset (14, w.2) aw k (fun d => d), cn, z) := by
  unfold acopy at h
  split at h
  · next n dp k sp j r =>
    split at h
    · next n' hn =>
      split at h
      · next dp' hdp =>
        split at h
        · next sp' hsp =>
          split at h
          · next q hq =>
            split at h
            · next w hw =>
              cases h1 : (Nat.beq q.1 14 && Nat.beq w.1 14 && Nat.beq sp' 0 && Nat.beq dp' 0 && Nat.beq n' q.2.length && Nat.beq n' w.2.length && Nat.ble n' 2147483647 && Nat.ble (csum r) 8) with
              | false => rw [h1] at h; cases h
              | true =>
                rw [h1, cond_true, wset_k] at h
                cases h
                simp only [Bool.and_eq_true] at h1
                obtain ⟨⟨⟨⟨⟨⟨⟨a1, a2⟩, a3⟩, a4⟩, a5⟩, a6⟩, a7⟩, a8⟩ := h1
                have a3 := Nat.eq_of_beq_eq_true a3
                have a4 := Nat.eq_of_beq_eq_true a4
                subst a3
                subst a4
                exact ⟨n, dp, sp, n', k, j, r, q, w, rfl, hn, hdp, hsp, hq, hw, Nat.eq_of_beq_eq_true a1, Nat.eq_of_beq_eq_true a2, Nat.eq_of_beq_eq_true a5, Nat.eq_of_beq_eq_true a6, Nat.le_of_ble_eq_true a7, Nat.le_of_ble_eq_true a8, rfl⟩
            · cases h
          · cases h
        · cases h
      · cases h
    · cases h
  · cases h
theorem csum_eq {sg : Nat → Int32} {b B : Nat} (r : List rV) : ((r.map (rv sg b B)).map fun v => v.category).sum = csum r := by
  unfold csum
  rw [List.map_map]
  congr 1
  apply List.map_congr_left
  intro v _
  exact ct_eq v
theorem nn0 {n : Nat} (h : n ≤ 2147483647) : (nI n).toInt = (n : Int) := nI_toInt (by omega)
theorem s_acopy {p : Program} {l : Launch} {e : Env} {R : Room} {s : State} {m : MethodId} {args : Array Value} {below : List Frame} {meth : Method} {c : Code} {Q : State → Prop} {sg : Nat → Int32} {b B L : Nat} {xs : Nat → Int32} {dC : Nat → ClassId} {dI : Nat → Nat → Nat} {cy : Nat → ClassId} {cc : ByteArray} {nL own : Nat} {ini : Bool} {ret : Option FieldType} {mc ms : Nat} {E : rE} {pc : Nat} {lv : rK} {st : List rV} {aw : rD} {cn z : Nat} {o : rO} {i : Nat} (hF : 1 ≤ R.frames ∧ 8 + (nativeFrameWords "java/lang/System" "arraycopy" 5 + 11) ≤ R.locals) (F : FF p s m args meth c cc nL own ini b B L xs dC dI cy) (hO : OT) (hE : eOK sg E) (hlink : Cond.methodLink (oN own) i arraycopyName ∈ TG) (hdg : decode cc pc = .ok (.invokestatic i, 3)) (h : acopy E pc lv st aw cn z = some o) : Sem p l e R s m args below meth c Q sg b B cy dC dI nL cc own ret mc ms o (pc, lv, st, aw, cn, z) := by
  obtain ⟨hx, hb, hml, ho, hts, hsf, hini⟩ := F
  obtain ⟨n, dp, sp, n', k, j, r, q, w, rfl, hn, hdp, hsp, hq, hw, q14, w14, hq', hw', hn31, hc8, rfl⟩ := acopy_inv h
  have en := (nd_ok hE hn).2
  have ed : ri sg dp = nI 0 := (nd_ok hE hdp).2
  have es : ri sg sp = nI 0 := (nd_ok hE hsp).2
  obtain ⟨-, -, -, -, -, -, -, -, w1, w2, w3, -⟩ := hO
  intro kk aw' H locs ls hr hP hH hS hl
  have hqa := rep_get hr hq
  have hwa := rep_get hr hw
  have hc1 := at_arr hP hqa (by omega)
  have hc0 := at_arr hP hwa (by omega)
  rw [q14] at hc1
  rw [w14] at hc0
  have key : W p l e R s m args below meth c H locs cn z Q (F0 m pc ls (.int (nI n') :: .int (nI 0) :: .ref (B + k) :: .int (nI 0) :: .ref (B + j) :: r.map (rv sg b B))) := by
    intro T hT X
    obtain ⟨-, k0, hk0, cm0, hkk0⟩ := isA hsf.1 (t := 14) (by decide) (by decide) w.2.length (fun a => aV sg b B 14 (w.2.getD a rd))
    obtain ⟨-, k1, hk1, cm1, hkk1⟩ := isA hsf.1 (t := 14) (by decide) (by decide) q.2.length (fun a => aV sg b B 14 (q.2.getD a rd))
    have z0 : (nI 0).toNatClampNeg = 0 := nI_clamp (by decide)
    have cn31 : (nI n').toNatClampNeg = n' := nI_clamp (by omega)
    obtain ⟨vm', X', step⟩ := X.arraycopy hx ho (hts _ hlink) (hts _ w1) (hts _ w2) (hts _ w3) (src := B + j) (dst := B + k) (srcPos := nI 0) (destPos := nI 0) (n := nI n') (by rw [hT]; exact hc0) (by rw [hT]; exact hc1)
      (fun _ h => by cases h) (fun _ h => by cases h) (fun h => by cases h) (fun h => by cases h) hk0 hk1 hkk0 hkk1 (by simp [tyA, refKind]) (nI_pos (by decide)) (nI_pos (by decide)) (nI_pos (by omega))
      (by rw [nn0 (by decide), nn0 hn31, arrV_size]; omega)
      (by rw [nn0 (by decide), nn0 hn31, arrV_size]; omega)
      (fun vm₁ _ a ha => by
        rw [cn31] at ha
        have e : (arrV (cy 14) w.2.length (fun a => aV sg b B 14 (w.2.getD a rd))).slots.getD ((nI 0).toNatClampNeg + a) .null = .int (rI sg (w.2.getD a rd)) := by
          rw [z0, Nat.zero_add, Array.getD_eq_getD_getElem?, arrV_read _ _ (by omega)]
          rfl
        refine ⟨?_, ?_⟩
        · rw [e]
          rfl
        · rw [e]
          exact trivial)
      (g := F0 m pc ls (.int (nI n') :: .int (nI 0) :: .ref (B + k) :: .int (nI 0) :: .ref (B + j) :: r.map (rv sg b B))) rfl (by rw [hml]; exact hl.1) (rest := r.map (rv sg b B)) rfl (by rw [hb]; exact hdg) hF.1 (by rw [csum_eq]; show 2 * 0 + _ + _ ≤ _; have := hF.2; omega)
    have hcell : copied (arrV (cy 14) w.2.length (fun a => aV sg b B 14 (w.2.getD a rd))) (arrV (cy 14) q.2.length (fun a => aV sg b B 14 (q.2.getD a rd))) (nI 0) (nI 0) (nI n') = arrV (cy 14) w.2.length (fun a => aV sg b B 14 (w.2.getD a rd)) := by
      have e1 := va_copied (fun z => Value.int z) (cy 14) (cy 14) (fun a => rI sg (w.2.getD a rd)) (fun a => rI sg (q.2.getD a rd)) (n0 := w.2.length) (n1 := q.2.length) (sp := 0) (dp := 0) (n := n') (by omega)
      show (arrV (cy 14) q.2.length (fun a => aV sg b B 14 (q.2.getD a rd))).storeRun (nI 0).toNatClampNeg ((arrV (cy 14) w.2.length (fun a => aV sg b B 14 (w.2.getD a rd))).stretch (nI 0).toNatClampNeg (nI n').toNatClampNeg) = _
      rw [z0, cn31]
      refine Eq.trans e1 ?_
      rw [show q.2.length = w.2.length by omega]
      refine arr_cong _ _ (fun a ha => ?_)
      show Value.int (va_cpy _ _ 0 0 n' a) = Value.int _
      unfold va_cpy
      rw [if_pos ⟨Nat.zero_le _, by omega⟩]
      simp
    rw [hcell] at X' step
    have hlB : B + k < H.size := (Array.getElem?_eq_some_iff.mp hc1).1
    have hheap : ((T.setVm vm').setCell (B + k) (arrV (cy 14) w.2.length (fun a => aV sg b B 14 (w.2.getD a rd)))).heap = H.setIfInBounds (B + k) (arrV (cy 14) w.2.length (fun a => aV sg b B 14 (w.2.getD a rd))) := by rw [← hT]; rfl
    have oq : ∀ a : Nat, a ≠ B + k → (H.setIfInBounds (B + k) (arrV (cy 14) w.2.length (fun a => aV sg b B 14 (w.2.getD a rd))))[a]? = H[a]? := fun a ha => by simp [Array.getElem?_setIfInBounds, Ne.symm ha]
    obtain ⟨p1, p2, p3⟩ := fin_st (i := 0) (q' := (14, w.2)) (H1 := H.setIfInBounds (B + k) (arrV (cy 14) w.2.length (fun a => aV sg b B 14 (w.2.getD a rd)))) hP hH hS hqa (by
      rw [rce_arr (q := (14, w.2)) (show 13 ≤ 14 by decide)]
      show (H.setIfInBounds (B + k) _)[B + k]? = some (vp_cell _ _)
      rw [rA_cell]
      simp [Array.getElem?_setIfInBounds, hlB]) (by simp) oq
    have hk := fun hS' => kk (aw'.set k (14, w.2)) _ _ ls (wset_rep hr hqa _) p1 p2 hS' hl _ hheap X'
    obtain ⟨t, a1, b1⟩ := hk ⟨p3.1, p3.2.1, fun a ha => by
      rcases List.mem_append.mp ha with h | h
      · exact hS.2.2 a h
      · obtain ⟨z, -, hz⟩ := List.mem_map.mp h
        rw [← hz]
        exact Nat.le_add_right B k⟩
    exact ⟨t, step t a1, b1⟩
  have e1 : Value.int (ri sg n) = .int (nI n') := by rw [en]
  show W p l e R s m args below meth c H locs cn z Q (F0 m pc ls (.int (ri sg n) :: .int (ri sg dp) :: .ref (B + k) :: .int (ri sg sp) :: .ref (B + j) :: r.map (rv sg b B)))
  rw [en, ed, es]
  exact key
theorem cut_ok : ∀ (n : Nat) (st acc As r : List rV), cut n st acc = some (As, r) → ∃ t : List rV, t.length = n ∧ st = t ++ r ∧ As = t.reverse ++ acc := by
  intro n
  induction n with
  | zero =>
    intro st acc As r h
    cases h
    exact ⟨[], rfl, rfl, rfl⟩
  | succ n ih =>
    intro st acc As r h
    cases st with
    | nil => cases h
    | cons v t =>
      obtain ⟨u, h1, h2, h3⟩ := ih t (v :: acc) As r h
      refine ⟨v :: u, by rw [List.length_cons, h1], by rw [h2]; rfl, ?_⟩
      rw [h3, List.reverse_cons, List.append_assoc]
      rfl
theorem cut_ok0 {n : Nat} {st As r : List rV} (h : cut n st [] = some (As, r)) : As.length = n ∧ st = As.reverse ++ r := by
  obtain ⟨t, h1, h2, h3⟩ := cut_ok n st [] As r h
  rw [List.append_nil] at h3
  subst h3
  exact ⟨by rw [List.length_reverse]; exact h1, by rw [List.reverse_reverse]; exact h2⟩
theorem s_call {p : Program} {l : Launch} {e : Env} {R : Room} {s : State} {m : MethodId} {args : Array Value} {below : List Frame} {meth : Method} {c : Code} {Q : State → Prop} {sg : Nat → Int32} {b B L : Nat} {xs : Nat → Int32} {dC : Nat → ClassId} {dI : Nat → Nat → Nat} {cy : Nat → ClassId} {cc : ByteArray} {nL own : Nat} {ini : Bool} {ret : Option FieldType} {mc ms : Nat} {E : rE} {pc : Nat} {lv : rK} {st : List rV} {aw : rD} {cn z : Nat} {o : rO} {i kind : Nat} (hF : 1 ≤ R.frames ∧ 8 + (nativeFrameWords "java/lang/System" "arraycopy" 5 + 11) ≤ R.locals ∧ 20 ≤ R.locals) (F : FF p s m args meth c cc nL own ini b B L xs dC dI cy) (hO : OT) (hE : eOK sg E) (hd0 : kind = 0 → decode cc pc = .ok (.invokevirtual i, 3)) (hd1 : kind = 1 → decode cc pc = .ok (.invokestatic i, 3)) (hd2 : kind = 2 → decode cc pc = .ok (.invokespecial i, 3)) (h : h_call i kind tT own ret ini mc ms L E pc lv st aw cn z = some o) : Sem p l e R s m args below meth c Q sg b B cy dC dI nL cc own ret mc ms o (pc, lv, st, aw, cn, z) := by
  unfold h_call acall at h
  split at h
  · next k mi np rc hk =>
    split at h
    · -- virtual
      cases hb : Nat.beq kind 0 with
      | false => rw [hb] at h; cases h
      | true =>
        rw [hb, cond_true] at h
        split at h
        · next As j r hcut =>
          split at h
          · next q hq =>
            cases hc : Nat.beq q.1 rc with
            | false => rw [hc] at h; cases h
            | true =>
              rw [hc, cond_true] at h
              cases h8 : Nat.ble (csum r) 8 with
              | false => rw [h8] at h; cases h
              | true =>
                rw [h8, cond_true] at h
                cases h
                obtain ⟨c1, c2⟩ := cut_ok0 hcut
                exact ⟨Nat.le_of_ble_eq_true h8, i, 0, np, rc, hk, Or.inl ⟨rfl, j, q, As, rfl, c2, c1, hq, Nat.eq_of_beq_eq_true hc, hd0 (Nat.eq_of_beq_eq_true hb)⟩⟩
          · cases h
        · cases h
    · -- static
      cases hb : Nat.beq kind 1 with
      | false => rw [hb] at h; cases h
      | true =>
        rw [hb, cond_true] at h
        split at h
        · next As r hcut =>
          cases h8 : Nat.ble (csum r) 8 with
          | false => rw [h8] at h; cases h
          | true =>
            rw [h8, cond_true] at h
            cases h
            obtain ⟨c1, c2⟩ := cut_ok0 hcut
            exact ⟨Nat.le_of_ble_eq_true h8, i, 1, np, rc, hk, Or.inr (Or.inl ⟨rfl, c2, c1, hd1 (Nat.eq_of_beq_eq_true hb)⟩)⟩
        · cases h
    · -- Object's
      cases hb : Nat.beq kind 2 with
      | false => rw [hb] at h; cases h
      | true =>
        rw [hb, cond_true] at h
        split at h
        · next a r =>
          cases h8 : Nat.ble (csum r) 8 with
          | false => rw [h8] at h; cases h
          | true =>
            rw [h8, cond_true] at h
            cases h
            have g8 := Nat.le_of_ble_eq_true h8
            obtain ⟨hx, hb0, hml, ho, hts, hsf, hini⟩ := F
            have hl4 := hO.2.2.2.2.1 own i mi np rc (kf_mem hk)
            obtain ⟨-, -, -, -, -, -, o1, o2, -⟩ := hO
            intro kk aw' H locs ls hr hP hH hS hl
            refine W.objInit (a := ra b B a) (rest := r.map (rv sg b B)) hx hb0 ho (hts _ hl4) (hts _ o1) (hts _ o2) rfl (by rw [hml]; exact hl.1) rfl (hd2 (Nat.eq_of_beq_eq_true hb)) hF.1 (by rw [csum_eq]; show 2 * 0 + _ + _ ≤ _; have := hF.2.2; omega) ?_
            exact kk aw' H locs ls hr hP hH hS hl
        · cases h
    · -- a copy
      cases hb : Nat.beq kind 1 with
      | false => rw [hb] at h; cases h
      | true =>
        rw [hb, cond_true] at h
        exact s_acopy ⟨hF.1, hF.2.1⟩ F hO hE (hO.2.2.2.2.2.1 own i mi np rc (kf_mem hk)) (hd1 (Nat.eq_of_beq_eq_true hb)) h
    · -- a constructor
      next k0 k1 k4 k5 =>
      cases hb : Nat.beq kind 2 with
      | false => rw [hb] at h; cases h
      | true =>
        rw [hb, cond_true] at h
        split at h
        · next As j r hcut =>
          cases h8 : Nat.ble (csum r) 8 with
          | false => rw [h8] at h; cases h
          | true =>
            rw [h8, cond_true] at h
            cases h
            obtain ⟨c1, c2⟩ := cut_ok0 hcut
            exact ⟨Nat.le_of_ble_eq_true h8, i, k, np, rc, hk, Or.inr (Or.inr ⟨k0, k1, k4, k5, j, As, rfl, c2, c1, hd2 (Nat.eq_of_beq_eq_true hb)⟩)⟩
        · cases h
  · cases h
end
section
/-! one step of the plain machine is a step of the machine -/
theorem len_ok {α : Type} {k len : Nat} {x : Option α} {o : α} (h : (bif (Nat.beq k 0 || Nat.beq k len) then x else none) = some o) : x = some o ∧ (k = 0 ∨ k = len) := by
  cases hb : (Nat.beq k 0 || Nat.beq k len) with
  | false => rw [hb] at h; cases h
  | true =>
    rw [hb, cond_true] at h
    rw [Bool.or_eq_true] at hb
    exact ⟨h, hb.imp Nat.eq_of_beq_eq_true Nat.eq_of_beq_eq_true⟩
theorem sp_no {k x y : Nat} (h : 8 ≤ k) : sp k x y = none := by
  unfold sp
  split
  · omega
  · omega
  · omega
  · rfl
set_option maxHeartbeats 4000000 in
theorem step_ok {p : Program} {l : Launch} {e : Env} {R : Room} {s : State} {m : MethodId} {args : Array Value} {below : List Frame} {meth : Method} {c : Code} {Q : State → Prop} {sg : Nat → Int32} {b B L : Nat} {xs : Nat → Int32} {dC : Nat → ClassId} {dI : Nat → Nat → Nat} {cy : Nat → ClassId} {M : rM} {E : rE} {pc : Nat} {lv : rK} {st : List rV} {aw : rD} {cn z : Nat} {o : rO} (hR : R.cells = mC M ∧ R.slots = mS M) (hF : 1 ≤ R.frames ∧ 8 + (nativeFrameWords "java/lang/System" "arraycopy" 5 + 11) ≤ R.locals ∧ 20 ≤ R.locals) (F : FF p s m args meth c (mBy M) (mLoc M) (mOwn M) (mIni M) b B L xs dC dI cy) (hO : OT) (hs : SG sg L xs) (hE : eOK sg E) (hT : okT (mBy M) (mLoc M) (mTab M)) (ho : mOwn M < 100) (h : step tT L M E pc lv st aw cn z = some o) : Sem p l e R s m args below meth c Q sg b B cy dC dI (mLoc M) (mBy M) (mOwn M) (mRet M) (mC M) (mS M) o (pc, lv, st, aw, cn, z) := by
  unfold step at h
  split at h
  · next q hq =>
    obtain ⟨ins, len⟩ := q
    obtain ⟨hd, hst⟩ := hT pc (ins, len) hq
    obtain ⟨hx, hb, -⟩ := id F
    have blt : ∀ {a b : Nat}, Nat.blt a b = true → a < b := fun h => Nat.le_of_ble_eq_true h
    cases ins <;> first | (exfalso; simp [disp] at h; done) | (replace h := len_ok h; obtain ⟨h, hl⟩ := h; try dsimp only at h; try dsimp only at hl; try dsimp only at hst)
    case iload_n i => cases (show len = 1 by omega); exact s_ildI (fun x H locs cn z ls rest h1 k => lv_iload_n hx hb hd rfl h1 k) h
    case iload i => cases (show len = 2 by omega); exact s_ildI (fun x H locs cn z ls rest h1 k => lv_iload hx hb hd h1 k) h
    case aload_n i => cases (show len = 1 by omega); exact s_ildA (fun x H locs cn z ls rest h1 k => lv_aload_n hx hb hd rfl h1 k) h
    case aload i => cases (show len = 2 by omega); exact s_ildA (fun x H locs cn z ls rest h1 k => lv_aload hx hb hd h1 k) h
    case lload_n i => cases (show len = 1 by omega); exact s_ildL (fun x H locs cn z ls rest h1 k => lv_lload_n hx hb hd rfl h1 k) h
    case istore_n i => cases (show len = 1 by omega); exact s_istI (fun x H locs cn z ls rest lv lv' h1 h2 k => lv_istore_n hx hb hd rfl h1 (blt hst) h2 k) h
    case istore i => cases (show len = 2 by omega); exact s_istI (fun x H locs cn z ls rest lv lv' h1 h2 k => lv_istore hx hb hd h1 (blt hst) h2 k) h
    case astore_n i => cases (show len = 1 by omega); exact s_istA (fun x H locs cn z ls rest lv lv' h1 h2 k => lv_astore_n hx hb hd rfl h1 (blt hst) h2 k) h
    case lstore_n i => cases (show len = 1 by omega); exact s_istL (fun x H locs cn z ls rest lv lv' h1 h2 k => lv_lstore_n hx hb hd rfl h1 (blt hst) h2 k) h
    case iconst i => cases (show len = 1 by omega); exact s_con (ri_cN _) (fun H locs cn z ls rest k => lv_iconst hx hb hd rfl k) h
    case bipush i => cases (show len = 2 by omega); exact s_con (ri_cN _) (fun H locs cn z ls rest k => lv_bipush hx hb hd rfl k) h
    case sipush i => cases (show len = 3 by omega); exact s_con (ri_cN _) (fun H locs cn z ls rest k => lv_sipush hx hb hd rfl k) h
    case lconst i => cases (show len = 1 by omega); exact s_conL rfl (fun H locs cn z ls rest k => lv_lconst hx hb hd (by match i with | 0 => rfl | 1 => rfl) k) h
    case ldc_w i => cases (show len = 3 by omega); exact s_ldcw F hO hd ho h
    case ldc2_w i => cases (show len = 3 by omega); exact s_ldc2 F hO hd h
    case iinc i k => cases (show len = 3 by omega); exact s_iinc F hE hd (blt hst) h
    case goto off => cases (show len = 3 by omega); exact s_goto F hd h
    case dup => cases (show len = 1 by omega); exact s_dup F hd h
    case dup2 => cases (show len = 1 by omega); exact s_dup2 F hd h
    case iadd => cases (show len = 1 by omega); exact s_aop (k := 0) hs hE (fun x y H locs cn z ls rest _ k => lv_iadd hx hb hd k) (fun h8 => absurd h8 (by decide)) h
    case isub => cases (show len = 1 by omega); exact s_aop (k := 1) hs hE (fun x y H locs cn z ls rest _ k => lv_isub hx hb hd k) (fun h8 => absurd h8 (by decide)) h
    case imul => cases (show len = 1 by omega); exact s_aop (k := 2) hs hE (fun x y H locs cn z ls rest _ k => lv_imul hx hb hd k) (fun h8 => absurd h8 (by decide)) h
    case iand => cases (show len = 1 by omega); exact s_aop (k := 3) hs hE (fun x y H locs cn z ls rest _ k => lv_iand hx hb hd k) (fun h8 => absurd h8 (by decide)) h
    case ior => cases (show len = 1 by omega); exact s_aop (k := 4) hs hE (fun x y H locs cn z ls rest _ k => lv_ior hx hb hd k) (fun h8 => absurd h8 (by decide)) h
    case ixor => cases (show len = 1 by omega); exact s_aop (k := 5) hs hE (fun x y H locs cn z ls rest _ k => lv_ixor hx hb hd k) (fun h8 => absurd h8 (by decide)) h
    case ishl => cases (show len = 1 by omega); exact s_aop (k := 6) hs hE (fun x y H locs cn z ls rest _ k => lv_ishl hx hb hd k) (fun h8 => absurd h8 (by decide)) h
    case ishr => cases (show len = 1 by omega); exact s_aop (k := 7) hs hE (fun x y H locs cn z ls rest _ k => lv_ishr hx hb hd k) (fun h8 => absurd h8 (by decide)) h
    case idiv => cases (show len = 1 by omega); exact s_aop (k := 8) hs hE (fun x y H locs cn z ls rest h0 k => lv_idiv hx hb hd (h0 (by decide)) k) (fun h8 x y => sp_no h8) h
    case irem => cases (show len = 1 by omega); exact s_aop (k := 9) hs hE (fun x y H locs cn z ls rest h0 k => lv_irem hx hb hd (h0 (by decide)) k) (fun h8 x y => sp_no h8) h
    case ladd => cases (show len = 1 by omega); exact s_aopL (k := 0) (fun x y H locs cn z ls rest k => lv_ladd hx hb hd k) h
    case lsub => cases (show len = 1 by omega); exact s_aopL (k := 1) (fun x y H locs cn z ls rest k => lv_lsub hx hb hd k) h
    case land => cases (show len = 1 by omega); exact s_aopL (k := 2) (fun x y H locs cn z ls rest k => lv_land hx hb hd k) h
    case lor => cases (show len = 1 by omega); exact s_aopL (k := 3) (fun x y H locs cn z ls rest k => lv_lor hx hb hd k) h
    case lshl => cases (show len = 1 by omega); exact s_aopS (k := 0) hE (fun x y H locs cn z ls rest k => lv_lshl hx hb hd rfl k) h
    case lshr => cases (show len = 1 by omega); exact s_aopS (k := 1) hE (fun x y H locs cn z ls rest k => lv_lshr hx hb hd rfl k) h
    case lushr => cases (show len = 1 by omega); exact s_aopS (k := 2) hE (fun x y H locs cn z ls rest k => lv_lushr hx hb hd rfl k) h
    case lcmp => cases (show len = 1 by omega); exact s_lcmp F hd h
    case l2i => cases (show len = 1 by omega); exact s_l2i F hd h
    case i2b => cases (show len = 1 by omega); exact s_i2b F hs hd h
    case ifCond q off => cases (show len = 3 by omega); exact s_if1 F hE hd h
    case if_icmp q off => cases (show len = 3 by omega); exact s_if2 F hE hd h
    case tableswitch d lo hi offs => exact s_tsw F hE hd h
    case lookupswitch d ps => exact s_lsw F hE hd h
    case iaload => cases (show len = 1 by omega); exact s_iald F hs hE hd h
    case baload => cases (show len = 1 by omega); exact s_bald F hs hE hd h
    case laload => cases (show len = 1 by omega); exact s_lald F hs hE hd h
    case aaload => cases (show len = 1 by omega); exact s_aald F hs hE hd h
    case iastore => cases (show len = 1 by omega); exact s_iast F hs hE hd h
    case bastore => cases (show len = 1 by omega); exact s_bast F hs hE hd h
    case lastore => cases (show len = 1 by omega); exact s_last F hs hE hd h
    case aastore => cases (show len = 1 by omega); exact s_aasr F hE hd h
    case arraylength => cases (show len = 1 by omega); exact s_alen F hs hd h
    case getfield i => cases (show len = 3 by omega); exact s_getf F hO hd h
    case putfield i => cases (show len = 3 by omega); exact s_putf F hO hd h
    case new i => cases (show len = 3 by omega); exact s_new hR F hO hd h
    case newarray t => cases (show len = 2 by omega); exact s_newa hR F hO hE hd h
    case anewarray i => cases (show len = 3 by omega); exact s_anew hR F hO hE hd h
    case multianewarray i d => cases (show len = 4 by omega); exact s_mnew hR F hO hE hd h
    case invokevirtual i => cases (show len = 3 by omega); exact s_call hF F hO hE (fun _ => hd) (fun q => by cases q) (fun q => by cases q) h
    case invokestatic i => cases (show len = 3 by omega); exact s_call hF F hO hE (fun q => by cases q) (fun _ => hd) (fun q => by cases q) h
    case invokespecial i => cases (show len = 3 by omega); exact s_call hF F hO hE (fun q => by cases q) (fun q => by cases q) (fun _ => hd) h
    case ireturn => cases (show len = 1 by omega); exact s_retI hd h
    case lreturn => cases (show len = 1 by omega); exact s_retL hd h
    case areturn => cases (show len = 1 by omega); exact s_retA hd h
    case return_ => cases (show len = 1 by omega); exact s_retV hd h
  · cases h
end
section
/-! a whole method: the plain machine's run is a contract -/
def gP (sg : Nat → Int32) (b B L : Nat) (xs : Nat → Int32) (cy : Nat → ClassId) (dC : Nat → ClassId) (dI : Nat → Nat → Nat) (As : List rV) (D : rD) : Array Value → State → Prop := fun v U => v = (As.map (rv sg b B)).toArray ∧ (∃ aw, rep D aw ∧ va_P (dC, dI) vwCl (rW sg b B cy aw) U.heap ∧ U.heap.size = B + aw.length) ∧ SF dC dI cy b B L xs U
def gQ (sg : Nat → Int32) (b B : Nat) (cy : Nat → ClassId) (dC : Nat → ClassId) (dI : Nat → Nat → Nat) (LV : List rF) : Array Value → State → Outcome → State → Prop := fun _ st oc t => (∃ f ∈ LV, eOK sg f.1 ∧ oc = .returned (f.2.1.map (rv sg b B)) ∧ ∃ aw, rep f.2.2 aw ∧ va_P (dC, dI) vwCl (rW sg b B cy aw) t.heap ∧ t.heap.size = B + aw.length) ∧ va_F (rG B) st t
theorem SF_moved {dC : Nat → ClassId} {dI : Nat → Nat → Nat} {cy : Nat → ClassId} {b B L : Nat} {xs : Nat → Int32} {u U : State} (h : SF dC dI cy b B L xs u) (hW : u.WarmedH U.vm) (hb : U.heap[b]? = u.heap[b]?) (hz : B ≤ U.heap.size) : SF dC dI cy b B L xs U := by
  obtain ⟨h1, ⟨a1, a2, a3⟩, h3, h4, h5, h6⟩ := h
  refine ⟨va_K.moved hW.alike h1, ⟨va_AO.moved hW.alike a1, va_AO.moved hW.alike a2, ?_⟩, fun q hq => va_Nw.warmM hW (h3 q hq), va_X.moved hW.alike (va_X.kept h4 hb), h5, hz⟩
  have e := Cond.arrayOver_setVmC (args := #[]) (s := u) hW.alike (.array .int)
  show (Cond.arrayOver (.array .int)).before #[] U = true
  exact e.trans a3
theorem SF_calling {dC : Nat → ClassId} {dI : Nat → Nat → Nat} {cy : Nat → ClassId} {b B L : Nat} {xs : Nat → Int32} {U : State} {g : JFrame} {mk : MethodId} {a : Array Value} (h : SF dC dI cy b B L xs U) : SF dC dI cy b B L xs (U.calling g mk a) := by
  obtain ⟨h1, ⟨a1, a2, a3⟩, h3, h4, h5, h6⟩ := h
  refine ⟨va_K.moved (u := U) (U := U.calling g mk a) (Vm.Alike.refl U.vm) h1, ⟨va_AO.moved (u := U) (U := U.calling g mk a) (Vm.Alike.refl U.vm) a1, va_AO.moved (u := U) (U := U.calling g mk a) (Vm.Alike.refl U.vm) a2, a3⟩, fun q hq => va_Nw.same rfl rfl (h3 q hq), va_X.moved (u := U) (U := U.calling g mk a) (Vm.Alike.refl U.vm) h4, h5, h6⟩
theorem gP_blind {sg : Nat → Int32} {b B L : Nat} {xs : Nat → Int32} {cy : Nat → ClassId} {dC : Nat → ClassId} {dI : Nat → Nat → Nat} {As : List rV} {D : rD} : FrameBlind (gP sg b B L xs cy dC dI As D) := fun a U g mk h => ⟨h.1, h.2.1, SF_calling h.2.2⟩
theorem TG_good : ∀ w ∈ TG, w ∈ lw_tbl ∧ ((w.onTables && w.keeps) = true ∨ ∃ ty, w = .arrayClass ty) := fun w h => ⟨(List.mem_filter.mp h).1, good_of_word (List.mem_filter.mp h).2⟩
theorem goodTG {ws : List Cond} (h : ∀ w ∈ ws, w ∈ TG) : GoodIn TG ws := fun w hw => ⟨h w hw, (TG_good w (h w hw)).2⟩
def yT (k : Nat) : MethodName := tY.getD k ⟨"", "", ""⟩
/-- what is to be known of the methods, and of the calls -/
def OKM : Prop := ∀ (mi : Nat) (M : rM), mT mi = some M → (yT mi).cls = oN (mOwn M) ∧ plainFor (yT mi) = true ∧ Cond.code (yT mi) (mBy M) (mLoc M) (mRet M) ∈ TG ∧ okT (mBy M) (mLoc M) (mTab M) ∧ mOwn M < 100 ∧ (mIni M = true → (yT mi).name = "<init>") ∧ (yT mi).cls ≠ "java/lang/invoke/MethodHandle" ∧ (yT mi).cls ≠ "java/lang/invoke/VarHandle" ∧ Cond.initialized (yT mi).cls ∈ TG
def OKA : Prop := ∀ (own i k mi np rc : Nat), ((own, i), (k, mi, np, rc)) ∈ tA → k ≠ 4 → k ≠ 5 → (parseMethodDescriptor (yT mi).desc).map (fun d => d.parameters.length) = some np ∧ (k = 0 → Cond.methodLink (oN own) i (yT mi) ∈ TG ∧ Cond.instanceMethod (yT mi) ∈ TG ∧ Cond.selects (yT mi).cls (yT mi) (yT mi) ∈ TG ∧ rc < 13 ∧ ∃ (T : u_T) (N : Nat), vwCl[rc]? = some ((yT mi).cls, T, N)) ∧ (k = 1 → Cond.methodLink (oN own) i (yT mi) ∈ TG ∧ Cond.static (yT mi) ∈ TG) ∧ (k ≠ 0 → k ≠ 1 → (yT mi).name = "<init>" ∧ Cond.instanceMethod (yT mi) ∈ TG ∧ (∀ M, mT mi = some M → mRet M = none) ∧ (Cond.methodLink (oN own) i (yT mi) ∈ TG ∨ (oN own, i, yT mi) ∈ nws))
def rmD (d mc ms : Nat) : Room := { frames := d + 1, cells := mc, slots := ms, locals := 200 * (d + 1) }
/-- the contract out of a walk, for a class of which some methods are the machine's own -/
theorem ofWF {l : Launch} {y : MethodName} {ws ws' : List Cond} {rm : Room} {Pc : Array Value → State → Prop} {Qc : Array Value → State → Outcome → State → Prop} {mc ms : Nat} {free : Addr → Prop} {cc : ByteArray} {maxL : Nat} {ret : Option FieldType} (hy : plainFor y = true) (hw : ws = Cond.code y cc maxL ret :: ws') (body : ∀ p e s m args below meth c s₁, BodyLoose p l y (headSpec ws rm) cc maxL ret e s m args below meth c s₁ → c.maxLocals = maxL → Pc args s → W p l e (headSpec ws rm).room s m args below meth c s.heap [] 0 0 (MQ below Qc args s mc ms free) (entryFrame m args maxL)) : Met l y ws rm Pc Qc mc ms free := by
  refine MetFree.of_bodySF (code := cc) (maxLocals := maxL) (ret := ret) hy (fun args s m h hn => ?_) (fun p e s m args below meth c s₁ Bd hml hP _ => ?_)
  · obtain ⟨meth, c, h1, h2, h3, h4, h5, h6, -, -⟩ := Cond.code_spec hn (atoms_spec (ws := ws) h _ (by rw [hw]; exact List.mem_cons_self))
    exact ⟨meth, c, h1, h2, h3, h4, h5, h6⟩
  · have hh0 : s₁.heap = s.heap := by rw [Bd.state]; rfl
    obtain ⟨t, a1, o, b1, b2, b3⟩ := body p e s m args below meth c s₁ Bd hml hP s₁ hh0 (Stand.of_body Bd)
    exact ⟨t, o, a1, b1, b2, ⟨b3.1, b3.2⟩⟩
/-- behind a call -/
theorem rcall {p : Program} {l : Launch} {e : Env} {R : Room} {s : State} {m : MethodId} {args : Array Value} {below : List Frame} {meth : Method} {c : Code} {Q : State → Prop} {cc : ByteArray} {sg : Nat → Int32} {b B : Nat} {cy : Nat → ClassId} {dC : Nat → ClassId} {dI : Nat → Nat → Nat} {LV : List rF} {H : Heap} {locs : List Loc} {cn z mc ms pc : Nat} {ls : Array Slot} {st0 rest : List Value} {a : Array Value} {free : Addr → Prop} (hr : va_Run p l e R s m args below meth c H locs cn z mc ms (F0 m pc ls st0) rest (gQ sg b B cy dC dI LV a) free) (hS : va_S (rG B) s.heap H locs) (hf : ∀ q, free q → rG B q)
    (kk : ∀ (f : rF) (aw : List rC) (H1 : Heap) (locs1 : List Loc), f ∈ LV → eOK sg f.1 → rep f.2.2 aw → va_P (dC, dI) vwCl (rW sg b B cy aw) H1 → H1.size = B + aw.length → va_S (rG B) s.heap H1 locs1 → W p l e R s m args below meth c H1 locs1 (cn + mc) (z + ms) Q (F0 m (pc + 3) ls ((f.2.1.map (rv sg b B)).toList ++ rest))) : W p l e R s m args below meth c H locs cn z Q (F0 m pc ls st0) := by
  intro T hT X
  obtain ⟨v, st₀, t, T', L, h0, X', hL, e1, e2, ⟨⟨f, hf1, hf2, hv, aw, g1, g2, g3⟩, hz, hk⟩, st⟩ := hr T hT X
  have hv : v = f.2.1.map (rv sg b B) := by
    injection hv
  subst hv
  rw [h0] at hz hk
  obtain ⟨t2, a1, b1⟩ := kk f aw T'.heap (locs ++ L) hf1 hf2 g1 (by rw [e1]; exact g2) (by rw [e1]; exact g3)
    ⟨Nat.le_trans hS.1 (by rw [e1]; exact hz), fun q h1 h2 => by rw [e1, hk q (Nat.lt_of_lt_of_le h1 hS.1) h2]; exact hS.2.1 q h1 h2, fun q hq => by
      rcases List.mem_append.mp hq with h | h
      · exact hS.2.2 q h
      · exact hf _ (hL q h)⟩ T' rfl X'
  exact ⟨t2, st t2 a1, b1⟩
theorem args_eq {sg : Nat → Int32} {b B : Nat} : ∀ (As : List rV) (i : Nat), clv sg b B (argsL As i) = lv_args i (As.map (rv sg b B)) := by
  intro As
  induction As with
  | nil => intro i; rfl
  | cons v t ih =>
    intro i
    show (i, rv sg b B v) :: clv sg b B (argsL t (Nat.add i (ct v))) = (i, rv sg b B v) :: lv_args (if (rv sg b B v).category = 2 then i + 2 else i + 1) (t.map (rv sg b B))
    rw [ih, ct_eq]
    congr 2
    match v with
    | .inl _ => rfl
    | .inr (.inl _) => rfl
    | .inr (.inr _) => rfl
theorem args_len {sg : Nat → Int32} {b B : Nat} : ∀ (As : List rV), (lg_sl (As.map (rv sg b B))).length = asum As := by
  intro As
  induction As with
  | nil => rfl
  | cons v t ih =>
    show ((if (rv sg b B v).category = 2 then [Slot.val (rv sg b B v), .second] else [.val (rv sg b B v)]) ++ lg_sl (t.map (rv sg b B))).length = _
    rw [List.length_append, ih, ct_eq]
    show _ = (ct v :: t.map ct).sum
    rw [List.sum_cons]
    match v with
    | .inl _ => rfl
    | .inr (.inl _) => rfl
    | .inr (.inr _) => rfl
theorem cat2_ok {a d : Option (List rF)} {LV : List rF} (h : cat2 a d = some LV) : ∃ x y, a = some x ∧ d = some y ∧ LV = x ++ y := by
  unfold cat2 at h
  split at h
  · cases h
  · next x =>
    split at h
    · cases h
    · next y => cases h; exact ⟨x, y, rfl, rfl, rfl⟩
theorem runL_ok {ih : rN} {d : Nat} {M : rM} {pc : Nat} {lv : rK} {r : List rV} {cn z : Nat} : ∀ (ls LV : List rF), runL ih d M pc lv r cn z ls = some LV → ∀ f ∈ ls, ∃ LV', ih d M f.1 (pc, lv, f.2.1.toList ++ r, f.2.2, cn, z) = some LV' ∧ ∀ g ∈ LV', g ∈ LV := by
  intro ls
  induction ls with
  | nil => intro LV h f hf; cases hf
  | cons a t iht =>
    intro LV h f hf
    have h' : cat2 (ih d M a.1 (pc, lv, a.2.1.toList ++ r, a.2.2, cn, z)) (runL ih d M pc lv r cn z t) = some LV := h
    obtain ⟨x, y, h1, h2, rfl⟩ := cat2_ok h'
    rcases List.mem_cons.mp hf with rfl | hf
    · exact ⟨x, h1, fun g hg => List.mem_append_left _ hg⟩
    · obtain ⟨LV', g1, g2⟩ := iht y h2 f hf
      exact ⟨LV', g1, fun g hg => List.mem_append_right _ (g2 g hg)⟩
/-- what a frame's end must give -/
def HR (p : Program) (l : Launch) (e : Env) (R : Room) (s : State) (m : MethodId) (args : Array Value) (below : List Frame) (meth : Method) (c : Code) (Q : State → Prop) (sg : Nat → Int32) (b B : Nat) (cy : Nat → ClassId) (dC : Nat → ClassId) (dI : Nat → Nat → Nat) (M : rM) (LV : List rF) : Prop := ∀ (f : rF) (pc cn z : Nat) (ls : Array Slot) (lv : rK) (aw : List rC) (H : Heap) (locs : List Loc), f ∈ LV → eOK sg f.1 → RetOK (mBy M) (mRet M) (mC M) (mS M) f.2.1 (pc, lv, f.2.1.toList, f.2.2, cn, z) → rep f.2.2 aw → va_P (dC, dI) vwCl (rW sg b B cy aw) H → H.size = B + aw.length → va_S (rG B) s.heap H locs → W p l e R s m args below meth c H locs cn z Q (F0 m pc ls (f.2.1.toList.map (rv sg b B)))
theorem HR_sub {p : Program} {l : Launch} {e : Env} {R : Room} {s : State} {m : MethodId} {args : Array Value} {below : List Frame} {meth : Method} {c : Code} {Q : State → Prop} {sg : Nat → Int32} {b B : Nat} {cy : Nat → ClassId} {dC : Nat → ClassId} {dI : Nat → Nat → Nat} {M : rM} {LV LV' : List rF} (h : HR p l e R s m args below meth c Q sg b B cy dC dI M LV) (hs : ∀ g ∈ LV', g ∈ LV) : HR p l e R s m args below meth c Q sg b B cy dC dI M LV' := fun f pc cn z ls lv aw H locs hf => h f pc cn z ls lv aw H locs (hs f hf)
/-- a run of a method, as words of the machine -/
def RunOK (l : Launch) (sg : Nat → Int32) (b B L : Nat) (xs : Nat → Int32) (cy : Nat → ClassId) (dC : Nat → ClassId) (dI : Nat → Nat → Nat) (n : Nat) : Prop := ∀ (d : Nat) (M : rM) (E : rE) (x : rX) (LV : List rF), run tT mT L n d M E x = some LV → eOK sg E → okT (mBy M) (mLoc M) (mTab M) → mOwn M < 100 → ∀ (p : Program) (e : Env) (R : Room) (s : State) (m : MethodId) (args : Array Value) (below : List Frame) (meth : Method) (c : Code) (Q : State → Prop), R.cells = mC M ∧ R.slots = mS M ∧ d + 1 ≤ R.frames ∧ 200 * (d + 1) ≤ R.locals → FF p s m args meth c (mBy M) (mLoc M) (mOwn M) (mIni M) b B L xs dC dI cy → HR p l e R s m args below meth c Q sg b B cy dC dI M LV → Wx p l e R s m args below meth c Q sg b B cy dC dI (mLoc M) x
/-- the contract of a method, by its run -/
theorem met_run {l : Launch} {sg : Nat → Int32} {b B L : Nat} {xs : Nat → Int32} {cy : Nat → ClassId} {dC : Nat → ClassId} {dI : Nat → Nat → Nat} {n d mi : Nat} {M : rM} {E : rE} {As : List rV} {D : rD} {LV : List rF} (hM : OKM) (ih : RunOK l sg b B L xs cy dC dI n) (hmi : mT mi = some M) (hE : eOK sg E) (hA : asum As ≤ mLoc M) (h : run tT mT L n d M E (0, argsL As 0, [], D, 0, 0) = some LV) : Met l (yT mi) (.code (yT mi) (mBy M) (mLoc M) (mRet M) :: TG) (rmD d (mC M) (mS M)) (gP sg b B L xs cy dC dI As D) (gQ sg b B cy dC dI LV) (mC M) (mS M) (rG B) := by
  obtain ⟨m1, m2, m3, m4, m5, m6, m7, m8, m9⟩ := hM mi M hmi
  refine ofWF (cc := mBy M) (maxL := mLoc M) (ret := mRet M) m2 rfl ?_
  intro p e s m args below meth c s₁ Bd hml hv
  obtain ⟨rfl, ⟨aw, hrep, hP, hH⟩, hSF⟩ := hv
  have hts := atoms_spec (ws := .code (yT mi) (mBy M) (mLoc M) (mRet M) :: TG) Bd.pre
  have hown : s.vm.findClass (yT mi).cls = some m.cls := findClass_of_methodNamed Bd.named
  rw [m1] at hown
  have hlocks : meth.locks = false := Bd.notSynchronized
  have hr : meth.sig.returnType = mRet M := Bd.returns
  have FFM : FF p s m (As.map (rv sg b B)).toArray meth c (mBy M) (mLoc M) (mOwn M) (mIni M) b B L xs dC dI cy := ⟨Bd.exec, Bd.bytes, hml, hown, fun w hw => hts w (List.mem_cons_of_mem _ hw), hSF, fun hi => ((name_of_methodNamed Bd.named Bd.method).1).trans (m6 hi)⟩
  have hHR : HR p l e (headSpec (.code (yT mi) (mBy M) (mLoc M) (mRet M) :: TG) (rmD d (mC M) (mS M))).room s m (As.map (rv sg b B)).toArray below meth c (MQ below (gQ sg b B cy dC dI LV) (As.map (rv sg b B)).toArray s (mC M) (mS M) (rG B)) sg b B cy dC dI M LV := by
    intro f pc cn z ls lv aw' H locs hf hfe hret hrep' hP' hH' hS'
    have hq : ∀ t : State, t.heap = H → ∀ v, v = f.2.1.map (rv sg b B) → gQ sg b B cy dC dI LV (As.map (rv sg b B)).toArray s (.returned v) t := by
      intro t ht v hv
      subst hv
      refine ⟨⟨f, hf, hfe, rfl, aw', hrep', by rw [ht]; exact hP', by rw [ht]; exact hH'⟩, ?_⟩
      exact hS'.F ht
    obtain ⟨hc, hz, hst, hcase⟩ := hret
    refine W.widen (k := mC M) (n := mS M) hc hz ?_
    rcases hcase with ⟨h1, h2, h3⟩ | ⟨n1, h1, h2, h3⟩ | ⟨n1, h1, h2, h3⟩ | ⟨n1, h1, h2, h3⟩
    · rw [h1]
      exact W.vret Bd.exec Bd.bytes (hr.trans h2) (fun t ht _ => hq t ht none (by rw [h1]; rfl)) hS'.2.2 h3
    · rw [h1]
      have h2' := h2
      unfold ok_rt at h2'
      split at h2'
      · next he => exact W.iret Bd.exec Bd.bytes (hr.trans he) (fun t ht _ => hq t ht _ (by rw [h1]; rfl)) hS'.2.2 h3
      · next he =>
        have hn1 := Nat.le_of_ble_eq_true h2'
        refine W.zret Bd.exec Bd.bytes (hr.trans he) ?_ (fun t ht _ => hq t ht _ (by rw [h1]; rfl)) hS'.2.2 h3
        have : n1 = 0 ∨ n1 = 1 := by omega
        rcases this with rfl | rfl
        · rw [ri_c (by decide)]; decide
        · rw [ri_c (by decide)]; decide
      · cases h2'
      · cases h2'
      · cases h2'
    · rw [h1]
      have h2' := h2
      unfold ok_rt at h2'
      split at h2'
      · cases h2'
      · cases h2'
      · next he => exact W.lret Bd.exec Bd.bytes (hr.trans he) (fun t ht _ => hq t ht _ (by rw [h1]; rfl)) hS'.2.2 h3
      · cases h2'
      · cases h2'
    · rw [h1]
      have h2' := h2
      unfold ok_rt at h2'
      split at h2'
      · cases h2'
      · cases h2'
      · cases h2'
      · next nm he => exact W.aret Bd.exec Bd.bytes (hr.trans he) (Or.inl ⟨nm, rfl⟩) (Or.inr ⟨_, rfl⟩) (fun t ht _ => hq t ht _ (by rw [h1]; rfl)) hS'.2.2 h3
      · cases h2'
  have hWx := ih d M E _ LV h hE m4 m5 p e (headSpec (.code (yT mi) (mBy M) (mLoc M) (mRet M) :: TG) (rmD d (mC M) (mS M))).room s m (As.map (rv sg b B)).toArray below meth c _ ⟨rfl, rfl, Nat.le_refl _, Nat.le_refl _⟩ FFM hHR
  rw [lg_entry_eq]
  have hl := lv_entry (As.map (rv sg b B)) (n := mLoc M) (by rw [args_len]; exact hA)
  rw [← args_eq] at hl
  exact hWx aw s.heap [] _ hrep hP hH va_S.rf hl
end
section
/-! the plain machine's runs are the machine's -/
theorem eOK_lo {sg : Nat → Int32} {E : rE} (hE : eOK sg E) {j w : Nat} {q : Nat × Nat} (hq : E[j]? = some q) (h : bz (sg j) < w) : eOK sg (E.set j (q.1, Nat.pred w)) := by
  intro i lo hi hi'
  rw [List.getElem?_set] at hi'
  by_cases e : j = i
  · subst e
    rw [if_pos rfl] at hi'
    split at hi'
    · cases hi'
      have h1 := hE j q.1 q.2 hq
      exact ⟨h1.1, Nat.le_pred_of_lt h⟩
    · cases hi'
  · rw [if_neg e] at hi'
    exact hE i lo hi hi'
theorem eOK_hi {sg : Nat → Int32} {E : rE} (hE : eOK sg E) {j w : Nat} {q : Nat × Nat} (hq : E[j]? = some q) (h : w ≤ bz (sg j)) : eOK sg (E.set j (w, q.2)) := by
  intro i lo hi hi'
  rw [List.getElem?_set] at hi'
  by_cases e : j = i
  · subst e
    rw [if_pos rfl] at hi'
    split at hi'
    · cases hi'
      have h1 := hE j q.1 q.2 hq
      exact ⟨h, h1.2⟩
    · cases hi'
  · rw [if_neg e] at hi'
    exact hE i lo hi hi'
theorem call_ok {p : Program} {l : Launch} {e : Env} {R : Room} {s : State} {m : MethodId} {args : Array Value} {below : List Frame} {meth : Method} {c : Code} {Q : State → Prop} {cc : ByteArray} {sg : Nat → Int32} {b B L : Nat} {xs : Nat → Int32} {cy : Nat → ClassId} {dC : Nat → ClassId} {dI : Nat → Nat → Nat} {M M' : rM} {d mi pc cn z : Nat} {lv : rK} {st As r : List rV} {D : rD} {LV : List rF} (hO : OT) (hM : OKM) (hA : OKA) (hmi : mT mi = some M') (hR : R.cells = mC M ∧ R.slots = mS M ∧ (d + 1) + 1 ≤ R.frames ∧ 200 * ((d + 1) + 1) ≤ R.locals) (F : FF p s m args meth c (mBy M) (mLoc M) (mOwn M) (mIni M) b B L xs dC dI cy) (hl80 : mLoc M' ≤ 80) (hcn : cn + mC M' ≤ mC M) (hz : z + mS M' ≤ mS M) (hMet : Met l (yT mi) (.code (yT mi) (mBy M') (mLoc M') (mRet M') :: TG) (rmD d (mC M') (mS M')) (gP sg b B L xs cy dC dI As D) (gQ sg b B cy dC dI LV) (mC M') (mS M') (rG B)) (hC : CallOK (mBy M) (mOwn M) mi As r (pc, lv, st, D, cn, z))
    (kk : ∀ f ∈ LV, eOK sg f.1 → Wx p l e R s m args below meth c Q sg b B cy dC dI (mLoc M) (Nat.add pc 3, lv, f.2.1.toList ++ r, f.2.2, Nat.add cn (mC M'), Nat.add z (mS M'))) : Wx p l e R s m args below meth c Q sg b B cy dC dI (mLoc M) (pc, lv, st, D, cn, z) := by
  obtain ⟨hx, hb, hml, ho, hts, hsf, hini⟩ := F
  obtain ⟨m1, m2, m3, m4, m5, m6, m7, m8, m9⟩ := hM mi M' hmi
  obtain ⟨hc8, i, k, np, rc, hkf, hcase⟩ := hC
  have hwsG : ∀ w ∈ (Cond.code (yT mi) (mBy M') (mLoc M') (mRet M') :: TG), w ∈ TG := fun w hw => (List.mem_cons.mp hw).elim (fun h => by rw [h]; exact m3) (fun h => h)
  intro aw H locs ls hrep hP hH hS hl
  have hU : ∀ U : State, U.heap = H → s.WarmedH U.vm → gP sg b B L xs cy dC dI As D ((As.map (rv sg b B)).toArray) U := by
    intro U hUH hW
    refine ⟨rfl, ⟨aw, hrep, by rw [hUH]; exact hP, by rw [hUH]; exact hH⟩, SF_moved hsf hW ?_ (by rw [hUH, hH]; exact Nat.le_add_right _ _)⟩
    rw [hUH]
    have hbB := hsf.2.2.2.2.1
    have hBs := hsf.2.2.2.2.2
    exact hS.2.1 b (by omega) (show ¬ B ≤ b by omega)
  have hRr : (rmD d (mC M') (mS M')).frames + 1 ≤ R.frames ∧ 8 + (mLoc M' + 11) + (rmD d (mC M') (mS M')).locals ≤ R.locals := by
    have h1 := hR.2.2.1
    have h2 := hR.2.2.2
    refine ⟨h1, ?_⟩
    show 8 + (mLoc M' + 11) + 200 * (d + 1) ≤ R.locals
    omega
  have hfit : cn + mC M' ≤ R.cells ∧ z + mS M' ≤ R.slots := by rw [hR.1, hR.2.1]; exact ⟨hcn, hz⟩
  have fin : ∀ st0 : List Value, va_Run p l e R s m args below meth c H locs cn z (mC M') (mS M') (F0 m pc ls st0) (r.map (rv sg b B)) (gQ sg b B cy dC dI LV (As.map (rv sg b B)).toArray) (rG B) → W p l e R s m args below meth c H locs cn z Q (F0 m pc ls st0) := by
    intro st0 hrun
    refine rcall (cc := mBy M) hrun hS (fun _ h => h) (fun f aw' H1 locs1 hf hfe g1 g2 g3 g4 => ?_)
    have key := kk f hf hfe aw' H1 locs1 ls g1 g2 g3 g4 hl
    have e1 : (f.2.1.toList ++ r).map (rv sg b B) = (f.2.1.map (rv sg b B)).toList ++ r.map (rv sg b B) := by
      rw [List.map_append]
      cases f.2.1 <;> rfl
    rw [← e1]
    exact key
  have hcs : 2 * (F0 m pc ls (st.map (rv sg b B))).monitorRoom + ((r.map (rv sg b B)).map fun v => v.category).sum ≤ 8 := by
    rw [csum_eq]
    show 2 * 0 + _ ≤ 8
    omega
  rcases hcase with ⟨hk, j, q, As', hAs, hst, hlen, hq, hrc, hdg⟩ | ⟨hk, hst, hlen, hdg⟩ | ⟨hk0, hk1, hk4, hk5, j, As', hAs, hst, hlen, hdg⟩
  · subst hk
    obtain ⟨a1, a2, -, -⟩ := hA _ i 0 mi np rc (kf_mem hkf) (by decide) (by decide)
    obtain ⟨b1, b2, b3, b4, T, N, b5⟩ := a2 rfl
    have hq' := rep_get hrep hq
    have he := rW_get (sg := sg) (b := b) (B := B) (cy := cy) hq'
    rw [rce_obj (by rw [hrc]; exact b4), hrc] at he
    refine fin _ ?_
    have hcw : CallW R s args (oN (mOwn M)) (yT mi).cls i (yT mi) (mBy M') (mLoc M') (mRet M') (.code (yT mi) (mBy M') (mLoc M') (mRet M') :: TG) (rmD d (mC M') (mS M')) (mC M') (mS M') np :=
      cwV np hts (goodTG (fun w hw => by
        unfold wsV at hw
        rcases List.mem_append.mp hw with h | h
        · rcases List.mem_cons.mp h with rfl | h
          · exact b1
          · rcases List.mem_cons.mp h with rfl | h
            · exact b2
            · rcases List.mem_cons.mp h with rfl | h
              · exact b3
              · rcases List.mem_cons.mp h with rfl | h
                · exact m9
                · cases h
        · exact hwsG w h)) rfl rfl rfl ⟨rfl, m7, m8, a1⟩ hRr
    have hst' : (F0 m pc ls (st.map (rv sg b B))).stack = (As'.map (rv sg b B)).reverse ++ .ref (B + j) :: r.map (rv sg b B) := by
      show st.map (rv sg b B) = _
      rw [show st = As'.reverse ++ .inr (.inr (some (j + 1))) :: r from hst, List.map_append, List.map_reverse, List.map_cons]
      rfl
    have hrun := va_runV (e := e) (below := below) (meth := meth) (locs := locs) (g := F0 m pc ls (st.map (rv sg b B))) (As := As'.map (rv sg b B)) (rest := r.map (rv sg b B)) (b := B + j) (nL := mLoc M) (cc := mBy M) ⟨hx, hb, hml, ho, hts⟩ hMet hcw ⟨gP_blind, va_recv hsf.1 hP b5 he, fun U hUH hW => by have := hU U hUH hW; rw [hAs] at this ⊢; exact this⟩ rfl (by rw [List.length_map]; exact hlen) hl.1 hst' hcs hdg hfit
    rw [hAs]
    exact hrun
  · subst hk
    obtain ⟨a1, -, a2, -⟩ := hA _ i 1 mi np rc (kf_mem hkf) (by decide) (by decide)
    obtain ⟨b1, b2⟩ := a2 rfl
    refine fin _ ?_
    have hcw : CallB R s args (oN (mOwn M)) i (yT mi) (mBy M') (mLoc M') (mRet M') (.code (yT mi) (mBy M') (mLoc M') (mRet M') :: TG) (rmD d (mC M') (mS M')) (mC M') (mS M') np ∧ (Cond.static (yT mi)).before args s = true :=
      va_cwS np hts (goodTG (fun w hw => by
        unfold va_wsS at hw
        rcases List.mem_append.mp hw with h | h
        · rcases List.mem_cons.mp h with rfl | h
          · exact b1
          · rcases List.mem_cons.mp h with rfl | h
            · exact b2
            · rcases List.mem_cons.mp h with rfl | h
              · exact m9
              · cases h
        · exact hwsG w h)) rfl rfl rfl ⟨m7, m8, a1⟩ hRr
    have hst' : (F0 m pc ls (st.map (rv sg b B))).stack = (As.map (rv sg b B)).reverse ++ r.map (rv sg b B) := by
      show st.map (rv sg b B) = _
      rw [show st = As.reverse ++ r from hst, List.map_append, List.map_reverse]
    exact va_runS (g := F0 m pc ls (st.map (rv sg b B))) (As := As.map (rv sg b B)) (rest := r.map (rv sg b B)) (nL := mLoc M) (cc := mBy M) ⟨hx, hb, hml, ho, hts⟩ hMet hcw ⟨gP_blind, hU⟩ rfl (by rw [List.length_map]; exact hlen) hl.1 hst' hcs hdg hfit
  · obtain ⟨a1, -, -, a2⟩ := hA _ i k mi np rc (kf_mem hkf) hk4 hk5
    obtain ⟨b1, b2, b3, b4⟩ := a2 hk0 hk1
    have hret : mRet M' = none := b3 M' hmi
    refine fin _ ?_
    have hst' : (F0 m pc ls (st.map (rv sg b B))).stack = (As'.map (rv sg b B)).reverse ++ .ref (ra b B j) :: r.map (rv sg b B) := by
      show st.map (rv sg b B) = _
      rw [show st = As'.reverse ++ .inr (.inr (some j)) :: r from hst, List.map_append, List.map_reverse, List.map_cons]
      rfl
    have hUU : ∀ U : State, U.heap = H → s.WarmedH U.vm → gP sg b B L xs cy dC dI As D ((Value.ref (ra b B j) :: As'.map (rv sg b B)).toArray) U := fun U hUH hW => by
      have := hU U hUH hW
      rw [hAs] at this ⊢
      exact this
    rw [hret] at hMet hwsG
    rcases b4 with b4 | b4
    · have hcw : CallB R s args (oN (mOwn M)) i (yT mi) (mBy M') (mLoc M') none (.code (yT mi) (mBy M') (mLoc M') none :: TG) (rmD d (mC M') (mS M')) (mC M') (mS M') np ∧ (yT mi).name = "<init>" ∧ (Cond.instanceMethod (yT mi)).before args s = true :=
        cwI np hts (goodTG hwsG) rfl rfl rfl (hts _ m9) (hts _ b4) (hts _ b2) b1 ⟨m7, m8, a1⟩ hRr
      have hrun := va_runI (e := e) (below := below) (meth := meth) (locs := locs) (g := F0 m pc ls (st.map (rv sg b B))) (As := As'.map (rv sg b B)) (rest := r.map (rv sg b B)) (b := ra b B j) (nL := mLoc M) (cc := mBy M) ⟨hx, hb, hml, ho, hts⟩ hMet hcw ⟨gP_blind, hUU⟩ rfl (by rw [List.length_map]; exact hlen) hl.1 hst' hcs hdg hfit
      rw [hAs]
      exact hrun
    · have hcw : va_CN R s args (oN (mOwn M)) i (yT mi) "AyeJars" (mBy M') (mLoc M') none (.code (yT mi) (mBy M') (mLoc M') none :: TG) (rmD d (mC M') (mS M')) (mC M') (mS M') np ∧ (yT mi).name = "<init>" ∧ (Cond.instanceMethod (yT mi)).before args s = true :=
        ⟨va_cnB np hts (goodTG hwsG) rfl rfl rfl (hsf.2.2.1 _ b4) (hts _ m9) ⟨m7, m8, a1⟩ hRr, b1, hts _ b2⟩
      have hrun := va_runIN (e := e) (below := below) (meth := meth) (locs := locs) (g := F0 m pc ls (st.map (rv sg b B))) (As := As'.map (rv sg b B)) (rest := r.map (rv sg b B)) (b := ra b B j) (nL := mLoc M) (cc := mBy M) ⟨hx, hb, hml, ho, hts⟩ hMet hcw ⟨gP_blind, hUU⟩ rfl (by rw [List.length_map]; exact hlen) hl.1 hst' hcs hdg hfit
      rw [hAs]
      exact hrun
theorem run_ok {l : Launch} {sg : Nat → Int32} {b B L : Nat} {xs : Nat → Int32} {cy : Nat → ClassId} {dC : Nat → ClassId} {dI : Nat → Nat → Nat} (hO : OT) (hM : OKM) (hA : OKA) (hs : SG sg L xs) : ∀ n, RunOK l sg b B L xs cy dC dI n := by
  intro n
  induction n with
  | zero => intro d M E x LV h; cases h
  | succ n ih =>
    intro d M E x LV h hE hT ho p e R s m args below meth c Q hR F hHR
    obtain ⟨pc, lv, st, D, cn, z⟩ := x
    have h' : runB tT mT L (run tT mT L n) d M E pc lv st D cn z = some LV := by
      have e0 : run tT mT L (n + 1) d M E (pc, lv, st, D, cn, z) = fN pc (fun pc => runB tT mT L (run tT mT L n) d M E pc lv st D cn z) := rfl
      rw [e0, fN_eq] at h
      exact h
    unfold runB at h'
    have hF : 1 ≤ R.frames ∧ 8 + (nativeFrameWords "java/lang/System" "arraycopy" 5 + 11) ≤ R.locals ∧ 20 ≤ R.locals := by
      have h1 := hR.2.2.1
      have h2 := hR.2.2.2
      have h3 : nativeFrameWords "java/lang/System" "arraycopy" 5 ≤ 100 := by decide
      refine ⟨by omega, by omega, by omega⟩
    split at h'
    · cases h'
    · next x' hst =>
      have sem := step_ok (l := l) (e := e) (below := below) (Q := Q) ⟨hR.1, hR.2.1⟩ hF F hO hs hE hT ho hst
      exact sem (ih d M E x' LV h' hE hT ho p e R s m args below meth c Q hR F hHR)
    · next j w hst =>
      unfold runS at h'
      split at h'
      · next q hq =>
        rw [rget_eq] at hq
        obtain ⟨x1, x2, h1, h2, rfl⟩ := cat2_ok h'
        rcases Nat.lt_or_ge (bz (sg j)) w with g | g
        · exact ih d M _ _ x1 h1 (eOK_lo hE hq g) hT ho p e R s m args below meth c Q hR F (HR_sub hHR (fun _ hg => List.mem_append_left _ hg))
        · exact ih d M _ _ x2 h2 (eOK_hi hE hq g) hT ho p e R s m args below meth c Q hR F (HR_sub hHR (fun _ hg => List.mem_append_right _ hg))
      · cases h'
    · next x1 x2 hst =>
      have sem := step_ok (l := l) (e := e) (below := below) (Q := Q) ⟨hR.1, hR.2.1⟩ hF F hO hs hE hT ho hst
      obtain ⟨y1, y2, h1, h2, rfl⟩ := cat2_ok h'
      exact sem (ih d M E x1 y1 h1 hE hT ho p e R s m args below meth c Q hR F (HR_sub hHR (fun _ hg => List.mem_append_left _ hg))) (ih d M E x2 y2 h2 hE hT ho p e R s m args below meth c Q hR F (HR_sub hHR (fun _ hg => List.mem_append_right _ hg)))
    · next v hst =>
      have sem : RetOK (mBy M) (mRet M) (mC M) (mS M) v (pc, lv, st, D, cn, z) := step_ok (p := p) (l := l) (e := e) (R := R) (s := s) (m := m) (args := args) (below := below) (meth := meth) (c := c) (Q := Q) ⟨hR.1, hR.2.1⟩ hF F hO hs hE hT ho hst
      cases h'
      have hst' : st = v.toList := sem.2.2.1
      subst hst'
      intro aw H locs ls hrep hP hH hS hl
      exact hHR (E, v, D) pc cn z ls lv aw H locs (List.mem_singleton.mpr rfl) hE sem hrep hP hH hS
    · next mi As r hst =>
      have sem : CallOK (mBy M) (mOwn M) mi As r (pc, lv, st, D, cn, z) := step_ok (p := p) (l := l) (e := e) (R := R) (s := s) (m := m) (args := args) (below := below) (meth := meth) (c := c) (Q := Q) ⟨hR.1, hR.2.1⟩ hF F hO hs hE hT ho hst
      split at h'
      · cases h'
      · next M' hmi =>
        cases d with
        | zero => cases h'
        | succ d =>
          have h2 : (bif (Nat.ble (asum As) (mLoc M') && (Nat.ble (mLoc M') 80 && (Nat.ble (Nat.add cn (mC M')) (mC M) && Nat.ble (Nat.add z (mS M')) (mS M)))) then (match run tT mT L n d M' E (0, argsL As 0, [], D, 0, 0) with
            | none => none
            | some ls => runL (run tT mT L n) (d + 1) M (Nat.add pc 3) lv r (Nat.add cn (mC M')) (Nat.add z (mS M')) ls) else none) = some LV := h'
          cases hb : (Nat.ble (asum As) (mLoc M') && (Nat.ble (mLoc M') 80 && (Nat.ble (Nat.add cn (mC M')) (mC M) && Nat.ble (Nat.add z (mS M')) (mS M)))) with
          | false => rw [hb] at h2; cases h2
          | true =>
            rw [hb, cond_true] at h2
            rw [Bool.and_eq_true, Bool.and_eq_true, Bool.and_eq_true] at hb
            have g1 := Nat.le_of_ble_eq_true hb.1
            have g2 := Nat.le_of_ble_eq_true hb.2.1
            have g3 : cn + mC M' ≤ mC M := Nat.le_of_ble_eq_true hb.2.2.1
            have g4 : z + mS M' ≤ mS M := Nat.le_of_ble_eq_true hb.2.2.2
            split at h2
            · cases h2
            · next lf hlf =>
              have hMet := met_run (l := l) hM ih hmi hE g1 hlf
              refine call_ok (cc := mBy M) hO hM hA hmi hR F g2 g3 g4 hMet sem (fun f hf hfe => ?_)
              obtain ⟨LV', k1, k2⟩ := runL_ok lf LV h2 f hf
              exact ih (d + 1) M f.1 _ LV' k1 hfe hT ho p e R s m args below meth c Q hR F (HR_sub hHR k2)
end
section
/-! what the tables say: by places, closed by the kernel -/
noncomputable def tw (i : Nat) (w : Cond) : Bool := decide (rget tables_1 i = some w) && goodWord w
noncomputable def tw2 (i : Nat) (w : Cond) : Bool := decide (rget (k2_sels lw_privs) i = some w) && goodWord w
noncomputable def twp (i : Nat) (w : Cond) : Bool := bif Nat.blt i 10000 then tw i w else tw2 (Nat.sub i 10000) w
theorem tw_ok {i : Nat} {w : Cond} (h : tw i w = true) : w ∈ TG := by
  unfold tw at h
  rw [Bool.and_eq_true, decide_eq_true_eq, rget_eq] at h
  exact List.mem_filter.mpr ⟨List.mem_append_right _ (List.mem_of_getElem? h.1), h.2⟩
theorem twp_ok {i : Nat} {w : Cond} (h : twp i w = true) : w ∈ TG := by
  unfold twp at h
  cases hb : Nat.blt i 10000 with
  | true => rw [hb, cond_true] at h; exact tw_ok h
  | false =>
    rw [hb, cond_false] at h
    unfold tw2 at h
    rw [Bool.and_eq_true, decide_eq_true_eq, rget_eq] at h
    exact List.mem_filter.mpr ⟨List.mem_append_left _ (List.mem_of_getElem? h.1), h.2⟩
theorem mem_ws {C : String} {T : u_T} {N : Nat} (pl : List Nat) (h : (List.range N).all (fun k => tw (pl.getD k 0) (u_lay C T k)) = true) : ∀ w ∈ u_ws C T N, w ∈ TG := by
  intro w hw
  obtain ⟨k, hk, rfl⟩ := List.mem_map.mp hw
  exact tw_ok (List.all_eq_true.mp h k hk)

set_option maxRecDepth 1000000 in
theorem cl_0 : (∀ w ∈ u_ws RX0 TX0 4, w ∈ TG) ∧ (∀ k, k < 4 → parseFieldDescriptor (TX0 k).2.2.1 = some (fty 0 k)) ∧ (∀ a, a < 4 → ∀ b, b < 4 → a ≠ b → (TX0 a).2.1 ≠ (TX0 b).2.1) ∧ Cond.instantiable RX0 4 ∈ TG ∧ Cond.initialized RX0 ∈ TG ∧ 4 = fnn 0 ∧ 0 < 13 ∧ (∀ k, k < 4 → fk (fty 0 k) ≠ 4) := ⟨mem_ws [233, 235, 237, 239] (by decide +kernel), tyX0_ok, nmX0, tw_ok (i := 222) (by decide +kernel), tw_ok (i := 7) (by decide +kernel), rfl, by decide, by decide +kernel⟩
set_option maxRecDepth 1000000 in
theorem cl_1 : (∀ w ∈ u_ws RX1 TX1 3, w ∈ TG) ∧ (∀ k, k < 3 → parseFieldDescriptor (TX1 k).2.2.1 = some (fty 1 k)) ∧ (∀ a, a < 3 → ∀ b, b < 3 → a ≠ b → (TX1 a).2.1 ≠ (TX1 b).2.1) ∧ Cond.instantiable RX1 3 ∈ TG ∧ Cond.initialized RX1 ∈ TG ∧ 3 = fnn 1 ∧ 1 < 13 ∧ (∀ k, k < 3 → fk (fty 1 k) ≠ 4) := ⟨mem_ws [289, 291, 293] (by decide +kernel), tyX1_ok, nmX1, tw_ok (i := 281) (by decide +kernel), tw_ok (i := 9) (by decide +kernel), rfl, by decide, by decide +kernel⟩
set_option maxRecDepth 1000000 in
theorem cl_2 : (∀ w ∈ u_ws RX2 TX2 6, w ∈ TG) ∧ (∀ k, k < 6 → parseFieldDescriptor (TX2 k).2.2.1 = some (fty 2 k)) ∧ (∀ a, a < 6 → ∀ b, b < 6 → a ≠ b → (TX2 a).2.1 ≠ (TX2 b).2.1) ∧ Cond.instantiable RX2 6 ∈ TG ∧ Cond.initialized RX2 ∈ TG ∧ 6 = fnn 2 ∧ 2 < 13 ∧ (∀ k, k < 6 → fk (fty 2 k) ≠ 4) := ⟨mem_ws [308, 310, 312, 314, 316, 318] (by decide +kernel), tyX2_ok, nmX2, tw_ok (i := 297) (by decide +kernel), tw_ok (i := 10) (by decide +kernel), rfl, by decide, by decide +kernel⟩
set_option maxRecDepth 1000000 in
theorem cl_3 : (∀ w ∈ u_ws RX3 TX3 15, w ∈ TG) ∧ (∀ k, k < 15 → parseFieldDescriptor (TX3 k).2.2.1 = some (fty 3 k)) ∧ (∀ a, a < 15 → ∀ b, b < 15 → a ≠ b → (TX3 a).2.1 ≠ (TX3 b).2.1) ∧ Cond.instantiable RX3 15 ∈ TG ∧ Cond.initialized RX3 ∈ TG ∧ 15 = fnn 3 ∧ 3 < 13 ∧ (∀ k, k < 15 → fk (fty 3 k) ≠ 4) := ⟨mem_ws [346, 348, 350, 352, 354, 356, 358, 360, 362, 364, 366, 368, 370, 372, 374] (by decide +kernel), tyX3_ok, nmX3, tw_ok (i := 322) (by decide +kernel), tw_ok (i := 11) (by decide +kernel), rfl, by decide, by decide +kernel⟩
set_option maxRecDepth 1000000 in
theorem cl_4 : (∀ w ∈ u_ws RX4 TX4 7, w ∈ TG) ∧ (∀ k, k < 7 → parseFieldDescriptor (TX4 k).2.2.1 = some (fty 4 k)) ∧ (∀ a, a < 7 → ∀ b, b < 7 → a ≠ b → (TX4 a).2.1 ≠ (TX4 b).2.1) ∧ Cond.instantiable RX4 7 ∈ TG ∧ Cond.initialized RX4 ∈ TG ∧ 7 = fnn 4 ∧ 4 < 13 ∧ (∀ k, k < 7 → fk (fty 4 k) ≠ 4) := ⟨mem_ws [88, 90, 92, 94, 96, 98, 100] (by decide +kernel), tyX4_ok, nmX4, tw_ok (i := 72) (by decide +kernel), tw_ok (i := 4) (by decide +kernel), rfl, by decide, by decide +kernel⟩
set_option maxRecDepth 1000000 in
theorem cl_5 : (∀ w ∈ u_ws RX5 TX5 10, w ∈ TG) ∧ (∀ k, k < 10 → parseFieldDescriptor (TX5 k).2.2.1 = some (fty 5 k)) ∧ (∀ a, a < 10 → ∀ b, b < 10 → a ≠ b → (TX5 a).2.1 ≠ (TX5 b).2.1) ∧ Cond.instantiable RX5 10 ∈ TG ∧ Cond.initialized RX5 ∈ TG ∧ 10 = fnn 5 ∧ 5 < 13 ∧ (∀ k, k < 10 → fk (fty 5 k) ≠ 4) := ⟨mem_ws [136, 138, 140, 142, 144, 146, 148, 150, 152, 154] (by decide +kernel), tyX5_ok, nmX5, tw_ok (i := 66) (by decide +kernel), tw_ok (i := 3) (by decide +kernel), rfl, by decide, by decide +kernel⟩
set_option maxRecDepth 1000000 in
theorem cl_6 : (∀ w ∈ u_ws RX6 TX6 4, w ∈ TG) ∧ (∀ k, k < 4 → parseFieldDescriptor (TX6 k).2.2.1 = some (fty 6 k)) ∧ (∀ a, a < 4 → ∀ b, b < 4 → a ≠ b → (TX6 a).2.1 ≠ (TX6 b).2.1) ∧ Cond.instantiable RX6 4 ∈ TG ∧ Cond.initialized RX6 ∈ TG ∧ 4 = fnn 6 ∧ 6 < 13 ∧ (∀ k, k < 4 → fk (fty 6 k) ≠ 4) := ⟨mem_ws [211, 213, 215, 217] (by decide +kernel), tyX6_ok, nmX6, tw_ok (i := 195) (by decide +kernel), tw_ok (i := 6) (by decide +kernel), rfl, by decide, by decide +kernel⟩
set_option maxRecDepth 1000000 in
theorem cl_7 : (∀ w ∈ u_ws RX7 TX7 10, w ∈ TG) ∧ (∀ k, k < 10 → parseFieldDescriptor (TX7 k).2.2.1 = some (fty 7 k)) ∧ (∀ a, a < 10 → ∀ b, b < 10 → a ≠ b → (TX7 a).2.1 ≠ (TX7 b).2.1) ∧ Cond.instantiable RX7 10 ∈ TG ∧ Cond.initialized RX7 ∈ TG ∧ 10 = fnn 7 ∧ 7 < 13 ∧ (∀ k, k < 10 → fk (fty 7 k) ≠ 4) := ⟨mem_ws [396, 398, 400, 402, 404, 406, 408, 410, 412, 414] (by decide +kernel), tyX7_ok, nmX7, tw_ok (i := 378) (by decide +kernel), tw_ok (i := 12) (by decide +kernel), rfl, by decide, by decide +kernel⟩
set_option maxRecDepth 1000000 in
theorem cl_8 : (∀ w ∈ u_ws RX8 TX8 9, w ∈ TG) ∧ (∀ k, k < 9 → parseFieldDescriptor (TX8 k).2.2.1 = some (fty 8 k)) ∧ (∀ a, a < 9 → ∀ b, b < 9 → a ≠ b → (TX8 a).2.1 ≠ (TX8 b).2.1) ∧ Cond.instantiable RX8 9 ∈ TG ∧ Cond.initialized RX8 ∈ TG ∧ 9 = fnn 8 ∧ 8 < 13 ∧ (∀ k, k < 9 → fk (fty 8 k) ≠ 4) := ⟨mem_ws [174, 176, 178, 180, 182, 184, 186, 188, 190] (by decide +kernel), tyX8_ok, nmX8, tw_ok (i := 158) (by decide +kernel), tw_ok (i := 5) (by decide +kernel), rfl, by decide, by decide +kernel⟩
set_option maxRecDepth 1000000 in
theorem cl_9 : (∀ w ∈ u_ws RX9 TX9 7, w ∈ TG) ∧ (∀ k, k < 7 → parseFieldDescriptor (TX9 k).2.2.1 = some (fty 9 k)) ∧ (∀ a, a < 7 → ∀ b, b < 7 → a ≠ b → (TX9 a).2.1 ≠ (TX9 b).2.1) ∧ Cond.instantiable RX9 7 ∈ TG ∧ Cond.initialized RX9 ∈ TG ∧ 7 = fnn 9 ∧ 9 < 13 ∧ (∀ k, k < 7 → fk (fty 9 k) ≠ 4) := ⟨mem_ws [49, 51, 53, 55, 57, 59, 61] (by decide +kernel), tyX9_ok, nmX9, tw_ok (i := 32) (by decide +kernel), tw_ok (i := 2) (by decide +kernel), rfl, by decide, by decide +kernel⟩
set_option maxRecDepth 1000000 in
theorem cl_10 : (∀ w ∈ u_ws RX10 TX10 7, w ∈ TG) ∧ (∀ k, k < 7 → parseFieldDescriptor (TX10 k).2.2.1 = some (fty 10 k)) ∧ (∀ a, a < 7 → ∀ b, b < 7 → a ≠ b → (TX10 a).2.1 ≠ (TX10 b).2.1) ∧ Cond.instantiable RX10 7 ∈ TG ∧ Cond.initialized RX10 ∈ TG ∧ 7 = fnn 10 ∧ 10 < 13 ∧ (∀ k, k < 7 → fk (fty 10 k) ≠ 4) := ⟨mem_ws [265, 267, 269, 271, 273, 275, 277] (by decide +kernel), tyX10_ok, nmX10, tw_ok (i := 244) (by decide +kernel), tw_ok (i := 8) (by decide +kernel), rfl, by decide, by decide +kernel⟩
set_option maxRecDepth 1000000 in
theorem cl_11 : (∀ w ∈ u_ws RX11 TX11 14, w ∈ TG) ∧ (∀ k, k < 14 → parseFieldDescriptor (TX11 k).2.2.1 = some (fty 11 k)) ∧ (∀ a, a < 14 → ∀ b, b < 14 → a ≠ b → (TX11 a).2.1 ≠ (TX11 b).2.1) ∧ Cond.instantiable RX11 14 ∈ TG ∧ Cond.initialized RX11 ∈ TG ∧ 14 = fnn 11 ∧ 11 < 13 ∧ (∀ k, k < 14 → fk (fty 11 k) ≠ 4) := ⟨mem_ws [431, 433, 435, 437, 439, 441, 443, 445, 447, 449, 451, 453, 455, 457] (by decide +kernel), tyX11_ok, nmX11, tw_ok (i := 24) (by decide +kernel), tw_ok (i := 1) (by decide +kernel), rfl, by decide, by decide +kernel⟩
set_option maxRecDepth 1000000 in
theorem cl_12 : (∀ w ∈ u_ws RX12 TX12 66, w ∈ TG) ∧ (∀ k, k < 66 → parseFieldDescriptor (TX12 k).2.2.1 = some (fty 12 k)) ∧ (∀ a, a < 66 → ∀ b, b < 66 → a ≠ b → (TX12 a).2.1 ≠ (TX12 b).2.1) ∧ Cond.instantiable RX12 66 ∈ TG ∧ Cond.initialized RX12 ∈ TG ∧ 66 = fnn 12 ∧ 12 < 13 ∧ (∀ k, k < 66 → fk (fty 12 k) ≠ 4) := ⟨mem_ws [1354, 1356, 1358, 1360, 1362, 1364, 1366, 1368, 1370, 1372, 1374, 1376, 1378, 1380, 1382, 1384, 1386, 1388, 1390, 1392, 1394, 1396, 1398, 1400, 1402, 1404, 1406, 1408, 1410, 1412, 1414, 1416, 1418, 1420, 1422, 1424, 1426, 1428, 1430, 1432, 1434, 1436, 1438, 1440, 1442, 1444, 1446, 1448, 1450, 1452, 1454, 1456, 1458, 1460, 1462, 1464, 1466, 1468, 1470, 1472, 1474, 1476, 1478, 1480, 1482, 1484] (by decide +kernel), tyX12_ok, nmX12, tw_ok (i := 1275) (by decide +kernel), tw_ok (i := 13) (by decide +kernel), rfl, by decide, by decide +kernel⟩
theorem okCl : OKCl := by
  intro ci C T N h
  match ci, h with
  | 0, h => cases h; exact cl_0
  | 1, h => cases h; exact cl_1
  | 2, h => cases h; exact cl_2
  | 3, h => cases h; exact cl_3
  | 4, h => cases h; exact cl_4
  | 5, h => cases h; exact cl_5
  | 6, h => cases h; exact cl_6
  | 7, h => cases h; exact cl_7
  | 8, h => cases h; exact cl_8
  | 9, h => cases h; exact cl_9
  | 10, h => cases h; exact cl_10
  | 11, h => cases h; exact cl_11
  | 12, h => cases h; exact cl_12
  | n + 13, h => simp [vwCl] at h
def pF : List Nat := [229, 230, 231, 232, 286, 287, 288, 121, 127, 207, 302, 303, 304, 305, 334, 337, 338, 339, 340, 344, 345, 330, 331, 332, 333, 335, 343, 341, 342, 124, 77, 78, 79, 80, 81, 82, 85, 104, 106, 108, 110, 112, 114, 118, 125, 129, 133, 200, 203, 206, 134, 209, 387, 388, 389, 390, 391, 392, 385, 386, 394, 393, 123, 252, 165, 166, 172, 163, 164, 167, 168, 170, 41, 37, 38, 40, 44, 42, 249, 250, 256, 257, 258, 260, 263, 417, 418, 419, 420, 421, 422, 423, 424, 425, 426, 427, 428, 429, 39, 122, 171, 173, 202, 210, 132, 208, 128, 430, 395, 117, 84, 336, 1288, 1289, 1293, 1299, 1300, 1301, 1302, 1303, 1304, 1305, 1306, 1307, 1308, 1309, 1310, 1311, 1312, 1313, 1314, 1315, 1316, 1317, 1318, 1319, 1320, 1333, 1334, 1337, 1338, 1339, 1340, 1343, 1344, 1345, 1346, 1347, 1348, 1352, 1353, 1291, 1292, 1295, 1294, 1296, 1322, 1323, 1290, 1321, 1335, 1336, 1349, 1341, 1350, 1351]
noncomputable def chF (e : ((Nat × Nat) × (Nat × Nat × Nat × Nat)) × Nat) : Bool := match vwCl[e.1.2.1]? with
  | some q => Nat.blt e.1.2.2.1 q.2.2 && tw e.2 (.fieldLink (oN e.1.1.1) e.1.1.2 (q.2.1 e.1.2.2.1).1 (q.2.1 e.1.2.2.1).2.1 (q.2.1 e.1.2.2.1).2.2.1) && Nat.beq (fk (fty e.1.2.1 e.1.2.2.1)) e.1.2.2.2.2 && ((Nat.beq e.1.2.2.2.1 0 && !(q.2.1 e.1.2.2.1).2.2.2) || (Nat.beq e.1.2.2.2.1 1 && (q.2.1 e.1.2.2.1).2.2.2 && decide ((q.2.1 e.1.2.2.1).1 = oN e.1.1.1)) || Nat.beq e.1.2.2.2.1 2)
  | none => false
theorem mem_zip {α : Type} {l : List α} {ps : List Nat} {ch : α × Nat → Bool} (hl : l.length = ps.length) (h : (l.zip ps).all ch = true) {a : α} (ha : a ∈ l) : ∃ p, ch (a, p) = true := by
  obtain ⟨i, hi⟩ := List.getElem?_of_mem ha
  have hlt : i < l.length := (List.getElem?_eq_some_iff.mp hi).1
  have h2 : (l.zip ps)[i]? = some (a, ps[i]'(by omega)) := by
    rw [List.getElem?_zip_eq_some]
    exact ⟨hi, List.getElem?_eq_getElem (by omega)⟩
  exact ⟨_, List.all_eq_true.mp h _ (List.mem_of_getElem? h2)⟩
set_option maxRecDepth 1000000 in
theorem aF : (tF.zip pF).all chF = true := by decide +kernel
theorem okF : OKF := by
  intro own i ci k fi kd hm
  obtain ⟨p, h⟩ := mem_zip (by decide +kernel) aF hm
  unfold chF at h
  dsimp only at h
  split at h
  · next q hq =>
    simp only [Bool.and_eq_true, Bool.or_eq_true] at h
    obtain ⟨⟨⟨h1, h2⟩, h3⟩, h4⟩ := h
    refine ⟨q.1, q.2.1, q.2.2, hq, Nat.le_of_ble_eq_true h1, tw_ok h2, Nat.eq_of_beq_eq_true h3, ?_⟩
    rcases h4 with (⟨g1, g2⟩ | ⟨⟨g1, g2⟩, g3⟩) | g1
    · exact Or.inl ⟨Nat.eq_of_beq_eq_true g1, by simpa using g2⟩
    · exact Or.inr (Or.inl ⟨Nat.eq_of_beq_eq_true g1, g2, of_decide_eq_true g3⟩)
    · exact Or.inr (Or.inr (Nat.eq_of_beq_eq_true g1))
  · cases h
def pC : List Nat := [227, 327, 71, 383, 31, 65, 157, 194, 221, 243, 280, 296, 321, 377, 23, 1274]
noncomputable def chC (e : ((Nat × Nat) × Nat) × Nat) : Bool := match vwCl[e.1.2]? with
  | some q => tw e.2 (.classLink (oN e.1.1.1) e.1.1.2 q.1) && Nat.blt e.1.2 13
  | none => Nat.beq e.1.2 19 && tw e.2 (.classLink (oN e.1.1.1) e.1.1.2 "[[I")
set_option maxRecDepth 1000000 in
theorem aC : (tC.zip pC).all chC = true := by decide +kernel
theorem okC : OKC := by
  intro own i ci hm
  obtain ⟨p, h⟩ := mem_zip (by decide +kernel) aC hm
  unfold chC at h
  dsimp only at h
  split at h
  · next q hq =>
    rw [Bool.and_eq_true] at h
    have h2 : ci < 13 := Nat.le_of_ble_eq_true h.2
    exact ⟨fun _ => ⟨q.1, q.2.1, q.2.2, hq, tw_ok h.1⟩, fun e => by omega⟩
  · rw [Bool.and_eq_true] at h
    have h2 := Nat.eq_of_beq_eq_true h.1
    exact ⟨fun e => by omega, fun _ => tw_ok h.2⟩
def pK : List Nat := [1196, 1977, 1219, 1220, 1221]
noncomputable def chK (e : ((Nat × Nat) × Nat) × Nat) : Bool := bif Nat.blt e.1.1.1 100 then tw e.2 (.constant (oN e.1.1.1) e.1.1.2 (nI e.1.2)) else tw e.2 (.constantLong (oN (e.1.1.1 - 100)) e.1.1.2 (lN e.1.2))
set_option maxRecDepth 1000000 in
theorem aK : (tK.zip pK).all chK = true := by decide +kernel
theorem okK : OKK := by
  intro own i n hm
  obtain ⟨p, h⟩ := mem_zip (by decide +kernel) aK hm
  unfold chK at h
  dsimp only at h
  cases hb : Nat.blt own 100 with
  | true =>
    rw [hb, cond_true] at h
    have : own < 100 := Nat.le_of_ble_eq_true hb
    exact ⟨fun _ => tw_ok h, fun e => by omega⟩
  | false =>
    rw [hb, cond_false] at h
    have : ¬ own < 100 := fun g => by
      have := Nat.ble_eq_true_of_le (show own + 1 ≤ 100 from g)
      have hb' : Nat.ble (own + 1) 100 = false := hb
      rw [this] at hb'
      cases hb'
    exact ⟨fun e => absurd e this, fun _ => tw_ok h⟩
def pA : List Nat := [226, 0, 681, 688, 685, 285, 741, 742, 732, 733, 737, 813, 809, 301, 974, 1033, 1037, 326, 329, 965, 940, 941, 945, 949, 946, 953, 957, 961, 1078, 1116, 1121, 76, 654, 70, 0, 488, 647, 650, 717, 666, 199, 674, 670, 659, 662, 692, 382, 1205, 1212, 1209, 1210, 1211, 1230, 1231, 162, 484, 492, 36, 496, 500, 248, 808, 785, 803, 28, 0, 0, 159, 0, 223, 245, 282, 298, 323, 379, 464, 468, 480, 643, 655, 677, 693, 697, 709, 754, 755, 819, 827, 835, 850, 872, 880, 888, 896, 904, 913, 928, 936, 970, 1004, 1021, 1029, 1056, 1064, 1074, 1100, 1112, 1129, 1137, 1145, 1155, 1163, 1172, 1180, 1188, 1201, 1216, 1226, 1240, 1249, 1253, 1262, 1266, 1270, 1279, 1280, 1284, 1495, 1529, 1491, 1637, 1641, 1659, 1655, 1633, 1651, 1745, 1753, 1769, 1781, 1860, 1864, 1892, 1895, 1899, 1921, 1957, 1961, 1986, 1982, 2010, 25, 1276, 460, 2014, 472, 2018, 476, 1487, 701, 1625, 705, 1629, 750, 1667, 815, 1741, 831, 1749, 842, 1761, 846, 1765, 863, 1777, 868, 1785, 876, 1793, 884, 1797, 892, 1801, 900, 1729, 909, 1805, 924, 1820, 932, 1888, 966, 1903, 1000, 1836, 1008, 1852, 1017, 1872, 1025, 1917, 1052, 1937, 1060, 1828, 1070, 1941, 1096, 1840, 1108, 1953, 1125, 1733, 1133, 1737, 1141, 1868, 1151, 1848, 1159, 1876, 1168, 1884, 1176, 1965, 1184, 1969, 1192, 1973, 1197, 1978, 1222, 1990, 1236, 1994, 1245, 1998, 1254, 2002, 1258, 2006]
noncomputable def chA4 (e : ((Nat × Nat) × (Nat × Nat × Nat × Nat)) × Nat) : Bool := bif Nat.beq e.1.2.1 4 then tw e.2 (.methodLink (oN e.1.1.1) e.1.1.2 Lib.objectInit) else bif Nat.beq e.1.2.1 5 then tw e.2 (.methodLink (oN e.1.1.1) e.1.1.2 arraycopyName) else true
set_option maxRecDepth 1000000 in
theorem aA4 : (tA.zip pA).all chA4 = true := by decide +kernel
theorem okA4 : OKA4 := by
  intro own i mi np rc hm
  obtain ⟨p, h⟩ := mem_zip (by decide +kernel) aA4 hm
  exact tw_ok h
theorem okA5 : OKA5 := by
  intro own i mi np rc hm
  obtain ⟨p, h⟩ := mem_zip (by decide +kernel) aA4 hm
  exact tw_ok h
set_option maxRecDepth 1000000 in
theorem okW : OKW := ⟨tw_ok (i := 29) (by decide +kernel), tw_ok (i := 30) (by decide +kernel), tw_ok (i := 649) (by decide +kernel), tw_ok (i := 648) (by decide +kernel), tw_ok (i := 18) (by decide +kernel), tw_ok (i := 64) (by decide +kernel), tw_ok (i := 103) (by decide +kernel), tw_ok (i := 193) (by decide +kernel), tw_ok (i := 242) (by decide +kernel)⟩
theorem okOT : OT := ⟨okCl, okF, okC, okK, okA4, okA5, okW⟩
end
section
theorem pf1 : plainFor ⟨"java/lang/Math", "floorMod", "(II)I"⟩ = true := by decide +kernel
theorem pf2 : plainFor ⟨"java/lang/Math", "min", "(II)I"⟩ = true := by decide +kernel
def pM : List (Nat × Nat × Nat × Nat) := [(27, 1, 26, 0), (1278, 13, 1277, 0), (463, 1, 461, 462), (2017, 13, 2015, 2016), (475, 1, 473, 474), (2021, 13, 2019, 2020), (479, 1, 477, 478), (1490, 13, 1488, 1489), (704, 1, 702, 703), (1628, 13, 1626, 1627), (708, 1, 706, 707), (1632, 13, 1630, 1631), (753, 1, 751, 752), (1670, 13, 1668, 1669), (818, 1, 816, 817), (1744, 13, 1742, 1743), (834, 1, 832, 833), (1752, 13, 1750, 1751), (845, 1, 843, 844), (1764, 13, 1762, 1763), (849, 1, 847, 848), (1768, 13, 1766, 1767), (866, 1, 864, 865), (1780, 13, 1778, 1779), (871, 1, 869, 870), (1788, 13, 1786, 1787), (879, 1, 877, 878), (1796, 13, 1794, 1795), (887, 1, 885, 886), (1800, 13, 1798, 1799), (895, 1, 893, 894), (1804, 13, 1802, 1803), (903, 1, 901, 902), (1732, 13, 1730, 1731), (912, 1, 910, 911), (1808, 13, 1806, 1807), (927, 1, 925, 926), (1823, 13, 1821, 1822), (935, 1, 933, 934), (1891, 13, 1889, 1890), (969, 1, 967, 968), (1906, 13, 1904, 1905), (1003, 1, 1001, 1002), (1839, 13, 1837, 1838), (1011, 1, 1009, 1010), (1855, 13, 1853, 1854), (1020, 1, 1018, 1019), (1875, 13, 1873, 1874), (1028, 1, 1026, 1027), (1920, 13, 1918, 1919), (1055, 1, 1053, 1054), (1940, 13, 1938, 1939), (1063, 1, 1061, 1062), (1831, 13, 1829, 1830), (1073, 1, 1071, 1072), (1944, 13, 1942, 1943), (1099, 1, 1097, 1098), (1843, 13, 1841, 1842), (1111, 1, 1109, 1110), (1956, 13, 1954, 1955), (1128, 1, 1126, 1127), (1736, 13, 1734, 1735), (1136, 1, 1134, 1135), (1740, 13, 1738, 1739), (1144, 1, 1142, 1143), (1871, 13, 1869, 1870), (1154, 1, 1152, 1153), (1851, 13, 1849, 1850), (1162, 1, 1160, 1161), (1879, 13, 1877, 1878), (1171, 1, 1169, 1170), (1887, 13, 1885, 1886), (1179, 1, 1177, 1178), (1968, 13, 1966, 1967), (1187, 1, 1185, 1186), (1972, 13, 1970, 1971), (1195, 1, 1193, 1194), (1976, 13, 1974, 1975), (1200, 1, 1198, 1199), (1981, 13, 1979, 1980), (1225, 1, 1223, 1224), (1993, 13, 1991, 1992), (1239, 1, 1237, 1238), (1997, 13, 1995, 1996), (1248, 1, 1246, 1247), (2001, 13, 1999, 2000), (1257, 1, 1255, 1256), (2005, 13, 2003, 2004), (1261, 1, 1259, 1260), (2009, 13, 2007, 2008), (684, 7, 683, 10019), (691, 6, 689, 690), (198, 6, 197, 0), (687, 20, 686, 0), (716, 3, 714, 715), (787, 20, 786, 0), (776, 8, 774, 775), (1265, 9, 1263, 1264), (1269, 7, 1267, 1268), (1273, 7, 1271, 1272), (1243, 12, 1241, 1242), (1252, 1, 1251, 10034), (1007, 9, 1005, 1006), (669, 3, 667, 668), (1158, 9, 1156, 1157), (830, 7, 828, 829), (899, 9, 897, 898), (467, 2, 465, 466), (471, 2, 469, 470), (1204, 12, 1202, 1203), (1218, 22, 1217, 0), (483, 5, 481, 482), (646, 3, 644, 645), (658, 6, 656, 657), (680, 7, 678, 679), (696, 12, 694, 695), (700, 11, 698, 699), (35, 2, 34, 0), (69, 3, 68, 0), (161, 5, 160, 0), (225, 7, 224, 0), (247, 8, 246, 0), (284, 9, 283, 0), (300, 10, 299, 0), (325, 11, 324, 0), (381, 12, 380, 0), (853, 9, 851, 852), (931, 9, 929, 930), (1024, 9, 1022, 1023), (1175, 11, 1173, 1174), (1166, 9, 1164, 1165), (1148, 9, 1146, 1147), (1059, 10, 1057, 1058), (712, 3, 710, 711), (916, 9, 914, 915), (1032, 10, 1030, 1031), (907, 9, 905, 906), (939, 11, 937, 938), (973, 10, 971, 972), (1077, 11, 1075, 1076), (883, 7, 881, 882), (1140, 9, 1138, 1139), (1067, 9, 1065, 1066), (1115, 11, 1113, 1114), (745, 6, 743, 744), (740, 9, 738, 739), (1183, 12, 1181, 1182), (1103, 9, 1101, 1102), (1229, 12, 1227, 1228), (875, 7, 873, 874), (1191, 12, 1189, 1190), (731, 9, 729, 730), (1132, 9, 1130, 1131), (891, 9, 889, 890), (1640, 13, 1639, 10064), (2013, 13, 2012, 10112), (1643, 13, 1642, 0), (1985, 13, 1984, 10110), (1658, 13, 1657, 10067), (1662, 13, 1661, 10068), (1748, 13, 1747, 10083), (1784, 13, 1783, 10088), (1498, 13, 1497, 10038), (1283, 13, 1282, 10035), (1494, 13, 1493, 10037), (1532, 13, 1531, 10039), (1287, 13, 1286, 10036), (1772, 13, 1771, 10086), (1636, 13, 1635, 10063), (1989, 13, 1988, 10111), (1924, 13, 1923, 10102), (1894, 13, 1893, 0), (1898, 13, 1897, 10099), (1902, 13, 1901, 10100), (1863, 13, 1862, 10096), (1960, 13, 1959, 10108), (1964, 13, 1963, 10109), (1867, 13, 1866, 10097), (1756, 13, 1755, 10084), (1654, 13, 1653, 10066), (763, 3, 761, 762), (736, 9, 734, 735), (812, 9, 810, 811), (1036, 10, 1035, 10026), (661, 19, 660, 0), (944, 11, 943, 10020), (952, 11, 951, 10021), (1119, 11, 1118, 10030), (1124, 11, 1123, 10031), (956, 11, 955, 10022), (960, 11, 959, 10023), (964, 11, 963, 10024), (719, 3, 718, 0), (491, 4, 489, 490), (653, 4, 651, 652), (75, 4, 74, 0), (676, 6, 675, 0), (665, 3, 663, 664), (673, 6, 671, 672), (987, 8, 985, 986), (807, 8, 805, 806), (802, 8, 800, 801), (1208, 12, 1207, 10032), (1215, 12, 1214, 10033), (487, 3, 485, 486), (495, 2, 493, 494), (503, 2, 502, 10000), (499, 2, 497, 498)]
noncomputable def chM (mi : Nat) : Bool := match rget tM mi with
  | some M => (match rget pM mi with
    | some q => decide ((yT mi).cls = oN (mOwn M)) && ((plainName (yT mi).cls || decide (yT mi = ⟨"java/lang/Math", "floorMod", "(II)I"⟩) || decide (yT mi = ⟨"java/lang/Math", "min", "(II)I"⟩)) && ((Nat.blt (mOwn M) 100 && ((!(mIni M) || decide ((yT mi).name = "<init>")) && (decide ((yT mi).cls ≠ "java/lang/invoke/MethodHandle") && (decide ((yT mi).cls ≠ "java/lang/invoke/VarHandle") && tw q.2.1 (.initialized (yT mi).cls)))))))
    | none => false)
  | none => false
set_option maxRecDepth 1000000 in
theorem aM : (List.range 208).all chM = true := by decide +kernel
theorem tM_len : tM.length = 208 := by decide +kernel
theorem tY_len : tY.length = 208 := by decide +kernel
noncomputable def chA (e : ((Nat × Nat) × (Nat × Nat × Nat × Nat)) × Nat) : Bool := match rget pM e.1.2.2.1 with
  | some q => bif Nat.beq e.1.2.1 4 then true else bif Nat.beq e.1.2.1 5 then true else decide ((parseMethodDescriptor (yT e.1.2.2.1).desc).map (fun d => d.parameters.length) = some e.1.2.2.2.1) && (bif Nat.beq e.1.2.1 0 then (tw e.2 (.methodLink (oN e.1.1.1) e.1.1.2 (yT e.1.2.2.1)) && (tw q.2.2.1 (.instanceMethod (yT e.1.2.2.1)) && (twp q.2.2.2 (.selects (yT e.1.2.2.1).cls (yT e.1.2.2.1) (yT e.1.2.2.1)) && (Nat.blt e.1.2.2.2.2 13 && (match vwCl[e.1.2.2.2.2]? with
      | some r => decide (r.1 = (yT e.1.2.2.1).cls)
      | none => false))))) else bif Nat.beq e.1.2.1 1 then (tw e.2 (.methodLink (oN e.1.1.1) e.1.1.2 (yT e.1.2.2.1)) && tw q.2.2.1 (.static (yT e.1.2.2.1))) else (decide ((yT e.1.2.2.1).name = "<init>") && (tw q.2.2.1 (.instanceMethod (yT e.1.2.2.1)) && ((match rget tM e.1.2.2.1 with
      | some M => no_rt (mRet M)
      | none => false) && (decide ((oN e.1.1.1, e.1.1.2, yT e.1.2.2.1) ∈ nws) || tw e.2 (.methodLink (oN e.1.1.1) e.1.1.2 (yT e.1.2.2.1)))))))
  | none => false
set_option maxRecDepth 1000000 in
theorem aA : (tA.zip pA).all chA = true := by decide +kernel
theorem okA : OKA := by
  intro own i k mi np rc hm h4 h5
  obtain ⟨p, h⟩ := mem_zip (by decide +kernel) aA hm
  unfold chA at h
  dsimp only at h
  split at h
  · next q hq =>
    have b4 : Nat.beq k 4 = false := by
      cases hb : Nat.beq k 4 with
      | true => exact absurd (Nat.eq_of_beq_eq_true hb) h4
      | false => rfl
    have b5 : Nat.beq k 5 = false := by
      cases hb : Nat.beq k 5 with
      | true => exact absurd (Nat.eq_of_beq_eq_true hb) h5
      | false => rfl
    rw [b4, cond_false, b5, cond_false, Bool.and_eq_true, decide_eq_true_eq] at h
    refine ⟨h.1, ?_⟩
    have h2 := h.2
    cases b0 : Nat.beq k 0 with
    | true =>
      have e0 := Nat.eq_of_beq_eq_true b0
      subst e0
      rw [show Nat.beq 0 0 = true from rfl, cond_true, Bool.and_eq_true, Bool.and_eq_true, Bool.and_eq_true, Bool.and_eq_true] at h2
      obtain ⟨g1, g2, g3, g4, g5⟩ := h2
      refine ⟨fun _ => ⟨tw_ok g1, tw_ok g2, twp_ok g3, Nat.le_of_ble_eq_true g4, ?_⟩, ⟨fun e => (by cases e), fun e => absurd rfl e⟩⟩
      split at g5
      · next r hr => exact ⟨r.2.1, r.2.2, by rw [hr, ← of_decide_eq_true g5]⟩
      · cases g5
    | false =>
      rw [b0, cond_false] at h2
      have n0 : k ≠ 0 := fun e => by rw [e] at b0; cases b0
      cases b1 : Nat.beq k 1 with
      | true =>
        rw [b1, cond_true, Bool.and_eq_true] at h2
        exact ⟨fun e => absurd e n0, ⟨fun _ => ⟨tw_ok h2.1, tw_ok h2.2⟩, fun _ e => absurd (Nat.eq_of_beq_eq_true b1) e⟩⟩
      | false =>
        rw [b1, cond_false, Bool.and_eq_true, Bool.and_eq_true, Bool.and_eq_true, Bool.or_eq_true] at h2
        obtain ⟨g1, g2, g3, g4⟩ := h2
        have n1 : k ≠ 1 := fun e => by rw [e] at b1; cases b1
        refine ⟨fun e => absurd e n0, fun e => absurd e n1, fun _ _ => ⟨of_decide_eq_true g1, tw_ok g2, fun M hM => ?_, ?_⟩⟩
        · have hM' : rget tM mi = some M := hM
          rw [hM'] at g3
          dsimp only at g3
          unfold no_rt at g3
          split at g3
          · next hn => exact hn
          · cases g3
        · rcases g4 with g | g
          · exact Or.inr (of_decide_eq_true g)
          · exact Or.inl (tw_ok g)
  · cases h
end
section
theorem ch_1 {w : Cond} (h : w ∈ tables_1_1) (hg : goodWord w = true) : w ∈ TG := List.mem_filter.mpr ⟨List.mem_append_right _ (show w ∈ tables_1 from (List.mem_append_left _ h)), hg⟩
theorem ch_2 {w : Cond} (h : w ∈ tables_1_2) (hg : goodWord w = true) : w ∈ TG := List.mem_filter.mpr ⟨List.mem_append_right _ (show w ∈ tables_1 from (List.mem_append_right _ (List.mem_append_left _ h))), hg⟩
theorem ch_3 {w : Cond} (h : w ∈ tables_1_3) (hg : goodWord w = true) : w ∈ TG := List.mem_filter.mpr ⟨List.mem_append_right _ (show w ∈ tables_1 from (List.mem_append_right _ (List.mem_append_right _ (List.mem_append_left _ h)))), hg⟩
theorem ch_4 {w : Cond} (h : w ∈ tables_1_4) (hg : goodWord w = true) : w ∈ TG := List.mem_filter.mpr ⟨List.mem_append_right _ (show w ∈ tables_1 from (List.mem_append_right _ (List.mem_append_right _ (List.mem_append_right _ (List.mem_append_left _ h))))), hg⟩
theorem ch_5 {w : Cond} (h : w ∈ tables_1_5) (hg : goodWord w = true) : w ∈ TG := List.mem_filter.mpr ⟨List.mem_append_right _ (show w ∈ tables_1 from (List.mem_append_right _ (List.mem_append_right _ (List.mem_append_right _ (List.mem_append_right _ (List.mem_append_left _ h)))))), hg⟩
theorem ch_6 {w : Cond} (h : w ∈ tables_1_6) (hg : goodWord w = true) : w ∈ TG := List.mem_filter.mpr ⟨List.mem_append_right _ (show w ∈ tables_1 from (List.mem_append_right _ (List.mem_append_right _ (List.mem_append_right _ (List.mem_append_right _ (List.mem_append_right _ (List.mem_append_left _ h))))))), hg⟩
theorem ch_7 {w : Cond} (h : w ∈ tables_1_7) (hg : goodWord w = true) : w ∈ TG := List.mem_filter.mpr ⟨List.mem_append_right _ (show w ∈ tables_1 from (List.mem_append_right _ (List.mem_append_right _ (List.mem_append_right _ (List.mem_append_right _ (List.mem_append_right _ (List.mem_append_right _ (List.mem_append_left _ h)))))))), hg⟩
theorem ch_8 {w : Cond} (h : w ∈ tables_1_8) (hg : goodWord w = true) : w ∈ TG := List.mem_filter.mpr ⟨List.mem_append_right _ (show w ∈ tables_1 from (List.mem_append_right _ (List.mem_append_right _ (List.mem_append_right _ (List.mem_append_right _ (List.mem_append_right _ (List.mem_append_right _ (List.mem_append_right _ (List.mem_append_left _ h))))))))), hg⟩
theorem ch_9 {w : Cond} (h : w ∈ tables_1_9) (hg : goodWord w = true) : w ∈ TG := List.mem_filter.mpr ⟨List.mem_append_right _ (show w ∈ tables_1 from (List.mem_append_right _ (List.mem_append_right _ (List.mem_append_right _ (List.mem_append_right _ (List.mem_append_right _ (List.mem_append_right _ (List.mem_append_right _ (List.mem_append_right _ h))))))))), hg⟩
set_option maxRecDepth 100000 in
theorem cw_0 : Cond.code ⟨"AyeJars", "<init>", "()V"⟩ prog_1_method_1_code 2 (none) ∈ TG := ch_1 (List.mem_of_getElem? (i := 27) rfl) rfl
set_option maxRecDepth 100000 in
theorem cw_1 : Cond.code ⟨"AyeJarsModel", "<init>", "()V"⟩ prog_14_method_1_code 1 (none) ∈ TG := ch_6 (List.mem_of_getElem? (i := 78) rfl) rfl
set_option maxRecDepth 100000 in
theorem cw_2 : Cond.code ⟨"AyeJars", "feed", "(IIIII)I"⟩ prog_1_method_2_code 6 (some .int) ∈ TG := ch_2 (List.mem_of_getElem? (i := 223) rfl) rfl
set_option maxRecDepth 100000 in
theorem cw_3 : Cond.code ⟨"AyeJarsModel", "feed", "(IIIII)I"⟩ prog_14_method_134_code 8 (some .int) ∈ TG := ch_9 (List.mem_of_getElem? (i := 97) rfl) rfl
set_option maxRecDepth 100000 in
theorem cw_4 : Cond.code ⟨"AyeJars", "end", "(I)I"⟩ prog_1_method_3_code 2 (some .int) ∈ TG := ch_2 (List.mem_of_getElem? (i := 235) rfl) rfl
set_option maxRecDepth 100000 in
theorem cw_5 : Cond.code ⟨"AyeJarsModel", "end", "(I)I"⟩ prog_14_method_135_code 2 (some .int) ∈ TG := ch_9 (List.mem_of_getElem? (i := 101) rfl) rfl
set_option maxRecDepth 100000 in
theorem cw_6 : Cond.code ⟨"AyeJars", "house", "()I"⟩ prog_1_method_4_code 2 (some .int) ∈ TG := ch_2 (List.mem_of_getElem? (i := 239) rfl) rfl
set_option maxRecDepth 100000 in
theorem cw_7 : Cond.code ⟨"AyeJarsModel", "house", "()I"⟩ prog_14_method_18_code 2 (some .int) ∈ TG := ch_7 (List.mem_of_getElem? (i := 50) rfl) rfl
set_option maxRecDepth 100000 in
theorem cw_8 : Cond.code ⟨"AyeJars", "fault", "(I)I"⟩ prog_1_method_5_code 2 (some .int) ∈ TG := ch_3 (List.mem_of_getElem? (i := 224) rfl) rfl
set_option maxRecDepth 100000 in
theorem cw_9 : Cond.code ⟨"AyeJarsModel", "fault", "(I)I"⟩ prog_14_method_37_code 2 (some .int) ∈ TG := ch_7 (List.mem_of_getElem? (i := 188) rfl) rfl
set_option maxRecDepth 100000 in
theorem cw_10 : Cond.code ⟨"AyeJars", "member", "(II)I"⟩ prog_1_method_6_code 3 (some .int) ∈ TG := ch_3 (List.mem_of_getElem? (i := 228) rfl) rfl
set_option maxRecDepth 100000 in
theorem cw_11 : Cond.code ⟨"AyeJarsModel", "member", "(II)I"⟩ prog_14_method_66_code 3 (some .int) ∈ TG := ch_7 (List.mem_of_getElem? (i := 192) rfl) rfl
set_option maxRecDepth 100000 in
theorem cw_12 : Cond.code ⟨"AyeJars", "bill", "(II)I"⟩ prog_1_method_7_code 3 (some .int) ∈ TG := ch_4 (List.mem_of_getElem? (i := 33) rfl) rfl
set_option maxRecDepth 100000 in
theorem cw_13 : Cond.code ⟨"AyeJarsModel", "bill", "(II)I"⟩ prog_14_method_68_code 3 (some .int) ∈ TG := ch_7 (List.mem_of_getElem? (i := 230) rfl) rfl
set_option maxRecDepth 100000 in
theorem cw_14 : Cond.code ⟨"AyeJars", "vote", "(II)I"⟩ prog_1_method_8_code 3 (some .int) ∈ TG := ch_4 (List.mem_of_getElem? (i := 98) rfl) rfl
set_option maxRecDepth 100000 in
theorem cw_15 : Cond.code ⟨"AyeJarsModel", "vote", "(II)I"⟩ prog_14_method_74_code 3 (some .int) ∈ TG := ch_8 (List.mem_of_getElem? (i := 64) rfl) rfl
set_option maxRecDepth 100000 in
theorem cw_16 : Cond.code ⟨"AyeJars", "shake", "(I)I"⟩ prog_1_method_9_code 3 (some .int) ∈ TG := ch_4 (List.mem_of_getElem? (i := 114) rfl) rfl
set_option maxRecDepth 100000 in
theorem cw_17 : Cond.code ⟨"AyeJarsModel", "shake", "(I)I"⟩ prog_14_method_76_code 2 (some .int) ∈ TG := ch_8 (List.mem_of_getElem? (i := 72) rfl) rfl
set_option maxRecDepth 100000 in
theorem cw_18 : Cond.code ⟨"AyeJars", "shelve", "(II)I"⟩ prog_1_method_10_code 4 (some .int) ∈ TG := ch_4 (List.mem_of_getElem? (i := 125) rfl) rfl
set_option maxRecDepth 100000 in
theorem cw_19 : Cond.code ⟨"AyeJarsModel", "shelve", "(II)I"⟩ prog_14_method_77_code 4 (some .int) ∈ TG := ch_8 (List.mem_of_getElem? (i := 84) rfl) rfl
set_option maxRecDepth 100000 in
theorem cw_20 : Cond.code ⟨"AyeJars", "join", "(II)I"⟩ prog_1_method_11_code 3 (some .int) ∈ TG := ch_4 (List.mem_of_getElem? (i := 129) rfl) rfl
set_option maxRecDepth 100000 in
theorem cw_21 : Cond.code ⟨"AyeJarsModel", "join", "(II)I"⟩ prog_14_method_80_code 3 (some .int) ∈ TG := ch_8 (List.mem_of_getElem? (i := 88) rfl) rfl
set_option maxRecDepth 100000 in
theorem cw_22 : Cond.code ⟨"AyeJars", "day", "()I"⟩ prog_1_method_12_code 5 (some .int) ∈ TG := ch_4 (List.mem_of_getElem? (i := 146) rfl) rfl
set_option maxRecDepth 100000 in
theorem cw_23 : Cond.code ⟨"AyeJarsModel", "day", "()I"⟩ prog_14_method_82_code 1 (some .int) ∈ TG := ch_8 (List.mem_of_getElem? (i := 100) rfl) rfl
set_option maxRecDepth 100000 in
theorem cw_24 : Cond.code ⟨"AyeJars", "undo", "()Z"⟩ prog_1_method_13_code 1 (some .boolean) ∈ TG := ch_4 (List.mem_of_getElem? (i := 151) rfl) rfl
set_option maxRecDepth 100000 in
theorem cw_25 : Cond.code ⟨"AyeJarsModel", "undo", "()Z"⟩ prog_14_method_83_code 1 (some .boolean) ∈ TG := ch_8 (List.mem_of_getElem? (i := 108) rfl) rfl
set_option maxRecDepth 100000 in
theorem cw_26 : Cond.code ⟨"AyeJars", "redo", "()Z"⟩ prog_1_method_14_code 1 (some .boolean) ∈ TG := ch_4 (List.mem_of_getElem? (i := 159) rfl) rfl
set_option maxRecDepth 100000 in
theorem cw_27 : Cond.code ⟨"AyeJarsModel", "redo", "()Z"⟩ prog_14_method_84_code 1 (some .boolean) ∈ TG := ch_8 (List.mem_of_getElem? (i := 116) rfl) rfl
set_option maxRecDepth 100000 in
theorem cw_28 : Cond.code ⟨"AyeJars", "will", "(II)I"⟩ prog_1_method_15_code 3 (some .int) ∈ TG := ch_4 (List.mem_of_getElem? (i := 167) rfl) rfl
set_option maxRecDepth 100000 in
theorem cw_29 : Cond.code ⟨"AyeJarsModel", "will", "(II)I"⟩ prog_14_method_85_code 3 (some .int) ∈ TG := ch_8 (List.mem_of_getElem? (i := 120) rfl) rfl
set_option maxRecDepth 100000 in
theorem cw_30 : Cond.code ⟨"AyeJars", "dull", "(I)I"⟩ prog_1_method_16_code 2 (some .int) ∈ TG := ch_4 (List.mem_of_getElem? (i := 175) rfl) rfl
set_option maxRecDepth 100000 in
theorem cw_31 : Cond.code ⟨"AyeJarsModel", "dull", "(I)I"⟩ prog_14_method_86_code 3 (some .int) ∈ TG := ch_8 (List.mem_of_getElem? (i := 124) rfl) rfl
set_option maxRecDepth 100000 in
theorem cw_32 : Cond.code ⟨"AyeJars", "pass", "()I"⟩ prog_1_method_17_code 1 (some .int) ∈ TG := ch_4 (List.mem_of_getElem? (i := 183) rfl) rfl
set_option maxRecDepth 100000 in
theorem cw_33 : Cond.code ⟨"AyeJarsModel", "pass", "()I"⟩ prog_14_method_69_code 3 (some .int) ∈ TG := ch_8 (List.mem_of_getElem? (i := 52) rfl) rfl
set_option maxRecDepth 100000 in
theorem cw_34 : Cond.code ⟨"AyeJars", "muster", "(II)I"⟩ prog_1_method_18_code 4 (some .int) ∈ TG := ch_4 (List.mem_of_getElem? (i := 192) rfl) rfl
set_option maxRecDepth 100000 in
theorem cw_35 : Cond.code ⟨"AyeJarsModel", "muster", "(II)I"⟩ prog_14_method_87_code 6 (some .int) ∈ TG := ch_8 (List.mem_of_getElem? (i := 128) rfl) rfl
set_option maxRecDepth 100000 in
theorem cw_36 : Cond.code ⟨"AyeJars", "latest", "(II)I"⟩ prog_1_method_19_code 3 (some .int) ∈ TG := ch_4 (List.mem_of_getElem? (i := 207) rfl) rfl
set_option maxRecDepth 100000 in
theorem cw_37 : Cond.code ⟨"AyeJarsModel", "latest", "(II)I"⟩ prog_14_method_89_code 5 (some .int) ∈ TG := ch_8 (List.mem_of_getElem? (i := 143) rfl) rfl
set_option maxRecDepth 100000 in
theorem cw_38 : Cond.code ⟨"AyeJars", "plan", "()I"⟩ prog_1_method_20_code 1 (some .int) ∈ TG := ch_4 (List.mem_of_getElem? (i := 215) rfl) rfl
set_option maxRecDepth 100000 in
theorem cw_39 : Cond.code ⟨"AyeJarsModel", "plan", "()I"⟩ prog_14_method_106_code 7 (some .int) ∈ TG := ch_8 (List.mem_of_getElem? (i := 211) rfl) rfl
set_option maxRecDepth 100000 in
theorem cw_40 : Cond.code ⟨"AyeJars", "power", "(III)I"⟩ prog_1_method_21_code 4 (some .int) ∈ TG := ch_5 (List.mem_of_getElem? (i := 9) rfl) rfl
set_option maxRecDepth 100000 in
theorem cw_41 : Cond.code ⟨"AyeJarsModel", "power", "(III)I"⟩ prog_14_method_109_code 6 (some .int) ∈ TG := ch_8 (List.mem_of_getElem? (i := 226) rfl) rfl
set_option maxRecDepth 100000 in
theorem cw_42 : Cond.code ⟨"AyeJars", "best", "(I)I"⟩ prog_1_method_22_code 2 (some .int) ∈ TG := ch_5 (List.mem_of_getElem? (i := 43) rfl) rfl
set_option maxRecDepth 100000 in
theorem cw_43 : Cond.code ⟨"AyeJarsModel", "best", "(I)I"⟩ prog_14_method_91_code 6 (some .int) ∈ TG := ch_8 (List.mem_of_getElem? (i := 159) rfl) rfl
set_option maxRecDepth 100000 in
theorem cw_44 : Cond.code ⟨"AyeJars", "joint", "(II)I"⟩ prog_1_method_23_code 3 (some .int) ∈ TG := ch_5 (List.mem_of_getElem? (i := 51) rfl) rfl
set_option maxRecDepth 100000 in
theorem cw_45 : Cond.code ⟨"AyeJarsModel", "joint", "(II)I"⟩ prog_14_method_98_code 3 (some .int) ∈ TG := ch_8 (List.mem_of_getElem? (i := 175) rfl) rfl
set_option maxRecDepth 100000 in
theorem cw_46 : Cond.code ⟨"AyeJars", "law", "(I)I"⟩ prog_1_method_24_code 2 (some .int) ∈ TG := ch_5 (List.mem_of_getElem? (i := 60) rfl) rfl
set_option maxRecDepth 100000 in
theorem cw_47 : Cond.code ⟨"AyeJarsModel", "law", "(I)I"⟩ prog_14_method_100_code 4 (some .int) ∈ TG := ch_8 (List.mem_of_getElem? (i := 195) rfl) rfl
set_option maxRecDepth 100000 in
theorem cw_48 : Cond.code ⟨"AyeJars", "odds", "(III)I"⟩ prog_1_method_25_code 4 (some .int) ∈ TG := ch_5 (List.mem_of_getElem? (i := 68) rfl) rfl
set_option maxRecDepth 100000 in
theorem cw_49 : Cond.code ⟨"AyeJarsModel", "odds", "(III)I"⟩ prog_14_method_114_code 4 (some .int) ∈ TG := ch_9 (List.mem_of_getElem? (i := 0) rfl) rfl
set_option maxRecDepth 100000 in
theorem cw_50 : Cond.code ⟨"AyeJars", "mean", "(III)I"⟩ prog_1_method_26_code 4 (some .int) ∈ TG := ch_5 (List.mem_of_getElem? (i := 95) rfl) rfl
set_option maxRecDepth 100000 in
theorem cw_51 : Cond.code ⟨"AyeJarsModel", "mean", "(III)I"⟩ prog_14_method_115_code 4 (some .int) ∈ TG := ch_9 (List.mem_of_getElem? (i := 20) rfl) rfl
set_option maxRecDepth 100000 in
theorem cw_52 : Cond.code ⟨"AyeJars", "ripe", "(III)I"⟩ prog_1_method_27_code 5 (some .int) ∈ TG := ch_5 (List.mem_of_getElem? (i := 103) rfl) rfl
set_option maxRecDepth 100000 in
theorem cw_53 : Cond.code ⟨"AyeJarsModel", "ripe", "(III)I"⟩ prog_14_method_90_code 8 (some .int) ∈ TG := ch_8 (List.mem_of_getElem? (i := 151) rfl) rfl
set_option maxRecDepth 100000 in
theorem cw_54 : Cond.code ⟨"AyeJars", "queue", "(I)I"⟩ prog_1_method_28_code 2 (some .int) ∈ TG := ch_5 (List.mem_of_getElem? (i := 113) rfl) rfl
set_option maxRecDepth 100000 in
theorem cw_55 : Cond.code ⟨"AyeJarsModel", "queue", "(I)I"⟩ prog_14_method_118_code 6 (some .int) ∈ TG := ch_9 (List.mem_of_getElem? (i := 24) rfl) rfl
set_option maxRecDepth 100000 in
theorem cw_56 : Cond.code ⟨"AyeJars", "spoil", "(I)I"⟩ prog_1_method_29_code 2 (some .int) ∈ TG := ch_5 (List.mem_of_getElem? (i := 139) rfl) rfl
set_option maxRecDepth 100000 in
theorem cw_57 : Cond.code ⟨"AyeJarsModel", "spoil", "(I)I"⟩ prog_14_method_93_code 3 (some .int) ∈ TG := ch_8 (List.mem_of_getElem? (i := 163) rfl) rfl
set_option maxRecDepth 100000 in
theorem cw_58 : Cond.code ⟨"AyeJars", "sabotage", "(I)I"⟩ prog_1_method_30_code 2 (some .int) ∈ TG := ch_5 (List.mem_of_getElem? (i := 151) rfl) rfl
set_option maxRecDepth 100000 in
theorem cw_59 : Cond.code ⟨"AyeJarsModel", "sabotage", "(I)I"⟩ prog_14_method_121_code 8 (some .int) ∈ TG := ch_9 (List.mem_of_getElem? (i := 36) rfl) rfl
set_option maxRecDepth 100000 in
theorem cw_60 : Cond.code ⟨"AyeJars", "wasted", "()I"⟩ prog_1_method_31_code 1 (some .int) ∈ TG := ch_5 (List.mem_of_getElem? (i := 168) rfl) rfl
set_option maxRecDepth 100000 in
theorem cw_61 : Cond.code ⟨"AyeJarsModel", "wasted", "()I"⟩ prog_14_method_70_code 3 (some .int) ∈ TG := ch_8 (List.mem_of_getElem? (i := 56) rfl) rfl
set_option maxRecDepth 100000 in
theorem cw_62 : Cond.code ⟨"AyeJars", "richest", "()I"⟩ prog_1_method_32_code 1 (some .int) ∈ TG := ch_5 (List.mem_of_getElem? (i := 176) rfl) rfl
set_option maxRecDepth 100000 in
theorem cw_63 : Cond.code ⟨"AyeJarsModel", "richest", "()I"⟩ prog_14_method_71_code 3 (some .int) ∈ TG := ch_8 (List.mem_of_getElem? (i := 60) rfl) rfl
set_option maxRecDepth 100000 in
theorem cw_64 : Cond.code ⟨"AyeJars", "matches", "()I"⟩ prog_1_method_33_code 1 (some .int) ∈ TG := ch_5 (List.mem_of_getElem? (i := 184) rfl) rfl
set_option maxRecDepth 100000 in
theorem cw_65 : Cond.code ⟨"AyeJarsModel", "matches", "()I"⟩ prog_14_method_99_code 4 (some .int) ∈ TG := ch_8 (List.mem_of_getElem? (i := 191) rfl) rfl
set_option maxRecDepth 100000 in
theorem cw_66 : Cond.code ⟨"AyeJars", "brittle", "()I"⟩ prog_1_method_34_code 1 (some .int) ∈ TG := ch_5 (List.mem_of_getElem? (i := 194) rfl) rfl
set_option maxRecDepth 100000 in
theorem cw_67 : Cond.code ⟨"AyeJarsModel", "brittle", "()I"⟩ prog_14_method_94_code 3 (some .int) ∈ TG := ch_8 (List.mem_of_getElem? (i := 171) rfl) rfl
set_option maxRecDepth 100000 in
theorem cw_68 : Cond.code ⟨"AyeJars", "longest", "(I)I"⟩ prog_1_method_35_code 2 (some .int) ∈ TG := ch_5 (List.mem_of_getElem? (i := 202) rfl) rfl
set_option maxRecDepth 100000 in
theorem cw_69 : Cond.code ⟨"AyeJarsModel", "longest", "(I)I"⟩ prog_14_method_101_code 5 (some .int) ∈ TG := ch_8 (List.mem_of_getElem? (i := 199) rfl) rfl
set_option maxRecDepth 100000 in
theorem cw_70 : Cond.code ⟨"AyeJars", "lies", "(I)I"⟩ prog_1_method_36_code 2 (some .int) ∈ TG := ch_5 (List.mem_of_getElem? (i := 211) rfl) rfl
set_option maxRecDepth 100000 in
theorem cw_71 : Cond.code ⟨"AyeJarsModel", "lies", "(I)I"⟩ prog_14_method_102_code 2 (some .int) ∈ TG := ch_8 (List.mem_of_getElem? (i := 207) rfl) rfl
set_option maxRecDepth 100000 in
theorem cw_72 : Cond.code ⟨"AyeJars", "sniffed", "(IIZ)I"⟩ prog_1_method_37_code 4 (some .int) ∈ TG := ch_5 (List.mem_of_getElem? (i := 219) rfl) rfl
set_option maxRecDepth 100000 in
theorem cw_73 : Cond.code ⟨"AyeJarsModel", "sniffed", "(IIZ)I"⟩ prog_14_method_122_code 4 (some .int) ∈ TG := ch_9 (List.mem_of_getElem? (i := 48) rfl) rfl
set_option maxRecDepth 100000 in
theorem cw_74 : Cond.code ⟨"AyeJars", "untell", "(I)Z"⟩ prog_1_method_38_code 2 (some .boolean) ∈ TG := ch_5 (List.mem_of_getElem? (i := 227) rfl) rfl
set_option maxRecDepth 100000 in
theorem cw_75 : Cond.code ⟨"AyeJarsModel", "untell", "(I)Z"⟩ prog_14_method_123_code 2 (some .boolean) ∈ TG := ch_9 (List.mem_of_getElem? (i := 52) rfl) rfl
set_option maxRecDepth 100000 in
theorem cw_76 : Cond.code ⟨"AyeJars", "later", "(I)I"⟩ prog_1_method_39_code 2 (some .int) ∈ TG := ch_5 (List.mem_of_getElem? (i := 235) rfl) rfl
set_option maxRecDepth 100000 in
theorem cw_77 : Cond.code ⟨"AyeJarsModel", "later", "(I)I"⟩ prog_14_method_124_code 2 (some .int) ∈ TG := ch_9 (List.mem_of_getElem? (i := 56) rfl) rfl
set_option maxRecDepth 100000 in
theorem cw_78 : Cond.code ⟨"AyeJars", "fits", "(I)I"⟩ prog_1_method_40_code 2 (some .int) ∈ TG := ch_6 (List.mem_of_getElem? (i := 0) rfl) rfl
set_option maxRecDepth 100000 in
theorem cw_79 : Cond.code ⟨"AyeJarsModel", "fits", "(I)I"⟩ prog_14_method_127_code 2 (some .int) ∈ TG := ch_9 (List.mem_of_getElem? (i := 61) rfl) rfl
set_option maxRecDepth 100000 in
theorem cw_80 : Cond.code ⟨"AyeJars", "sure", "(II)I"⟩ prog_1_method_41_code 3 (some .int) ∈ TG := ch_6 (List.mem_of_getElem? (i := 25) rfl) rfl
set_option maxRecDepth 100000 in
theorem cw_81 : Cond.code ⟨"AyeJarsModel", "sure", "(II)I"⟩ prog_14_method_128_code 3 (some .int) ∈ TG := ch_9 (List.mem_of_getElem? (i := 73) rfl) rfl
set_option maxRecDepth 100000 in
theorem cw_82 : Cond.code ⟨"AyeJars", "ask", "(II)I"⟩ prog_1_method_42_code 3 (some .int) ∈ TG := ch_6 (List.mem_of_getElem? (i := 39) rfl) rfl
set_option maxRecDepth 100000 in
theorem cw_83 : Cond.code ⟨"AyeJarsModel", "ask", "(II)I"⟩ prog_14_method_129_code 7 (some .int) ∈ TG := ch_9 (List.mem_of_getElem? (i := 77) rfl) rfl
set_option maxRecDepth 100000 in
theorem cw_84 : Cond.code ⟨"AyeJars", "image", "(I)I"⟩ prog_1_method_43_code 2 (some .int) ∈ TG := ch_6 (List.mem_of_getElem? (i := 48) rfl) rfl
set_option maxRecDepth 100000 in
theorem cw_85 : Cond.code ⟨"AyeJarsModel", "image", "(I)I"⟩ prog_14_method_130_code 3 (some .int) ∈ TG := ch_9 (List.mem_of_getElem? (i := 81) rfl) rfl
set_option maxRecDepth 100000 in
theorem cw_86 : Cond.code ⟨"AyeJars", "back", "(I)I"⟩ prog_1_method_44_code 2 (some .int) ∈ TG := ch_6 (List.mem_of_getElem? (i := 57) rfl) rfl
set_option maxRecDepth 100000 in
theorem cw_87 : Cond.code ⟨"AyeJarsModel", "back", "(I)I"⟩ prog_14_method_131_code 3 (some .int) ∈ TG := ch_9 (List.mem_of_getElem? (i := 85) rfl) rfl
set_option maxRecDepth 100000 in
theorem cw_88 : Cond.code ⟨"AyeJars", "about", "(I)I"⟩ prog_1_method_45_code 2 (some .int) ∈ TG := ch_6 (List.mem_of_getElem? (i := 61) rfl) rfl
set_option maxRecDepth 100000 in
theorem cw_89 : Cond.code ⟨"AyeJarsModel", "about", "(I)I"⟩ prog_14_method_133_code 2 (some .int) ∈ TG := ch_9 (List.mem_of_getElem? (i := 89) rfl) rfl
set_option maxRecDepth 100000 in
theorem cw_90 : Cond.code ⟨"AyeJars$Acts", "slot", "(I)LAyeJars$Jars;"⟩ prog_2_method_8_code 2 (some (.object "AyeJars$Jars")) ∈ TG := ch_3 (List.mem_of_getElem? (i := 204) rfl) rfl
set_option maxRecDepth 100000 in
theorem cw_91 : Cond.code ⟨"AyeJars$Jars", "copyFrom", "(LAyeJars$Jars;)V"⟩ prog_8_method_8_code 2 (none) ∈ TG := ch_3 (List.mem_of_getElem? (i := 211) rfl) rfl
set_option maxRecDepth 100000 in
theorem cw_92 : Cond.code ⟨"AyeJars$Jars", "<init>", "()V"⟩ prog_8_method_1_code 1 (none) ∈ TG := ch_1 (List.mem_of_getElem? (i := 198) rfl) rfl
set_option maxRecDepth 100000 in
theorem cw_93 : Cond.code ⟨"java/lang/Math", "floorMod", "(II)I"⟩ prog_17_method_50_code 3 (some .int) ∈ TG := ch_3 (List.mem_of_getElem? (i := 207) rfl) rfl
set_option maxRecDepth 100000 in
theorem cw_94 : Cond.code ⟨"AyeJars$House", "breathsOf", "(I)I"⟩ prog_7_method_7_code 2 (some .int) ∈ TG := ch_3 (List.mem_of_getElem? (i := 236) rfl) rfl
set_option maxRecDepth 100000 in
theorem cw_95 : Cond.code ⟨"java/lang/Math", "min", "(II)I"⟩ prog_17_method_69_code 2 (some .int) ∈ TG := ch_4 (List.mem_of_getElem? (i := 67) rfl) rfl
set_option maxRecDepth 100000 in
theorem cw_96 : Cond.code ⟨"AyeJars$Trial", "fading", "()I"⟩ prog_12_method_8_code 3 (some .int) ∈ TG := ch_4 (List.mem_of_getElem? (i := 56) rfl) rfl
set_option maxRecDepth 100000 in
theorem cw_97 : Cond.code ⟨"AyeJars$Ahead", "billsOfFate", "(I)I"⟩ prog_3_method_8_code 4 (some .int) ∈ TG := ch_6 (List.mem_of_getElem? (i := 65) rfl) rfl
set_option maxRecDepth 100000 in
theorem cw_98 : Cond.code ⟨"AyeJars$Acts", "undoable", "()I"⟩ prog_2_method_6_code 1 (some .int) ∈ TG := ch_6 (List.mem_of_getElem? (i := 69) rfl) rfl
set_option maxRecDepth 100000 in
theorem cw_99 : Cond.code ⟨"AyeJars$Acts", "redoable", "()I"⟩ prog_2_method_7_code 1 (some .int) ∈ TG := ch_6 (List.mem_of_getElem? (i := 73) rfl) rfl
set_option maxRecDepth 100000 in
theorem cw_100 : Cond.code ⟨"AyeJars$Nose", "nextToAsk", "(II)I"⟩ prog_9_method_10_code 10 (some .int) ∈ TG := ch_6 (List.mem_of_getElem? (i := 43) rfl) rfl
set_option maxRecDepth 100000 in
theorem cw_101 : Cond.code ⟨"AyeJars", "isBox", "(I)Z"⟩ prog_1_method_46_code 2 (some .boolean) ∈ TG := ch_6 (List.mem_of_getElem? (i := 52) rfl) rfl
set_option maxRecDepth 100000 in
theorem cw_102 : Cond.code ⟨"AyeJars$Ahead", "bestShelf", "(I)I"⟩ prog_3_method_20_code 5 (some .int) ∈ TG := ch_5 (List.mem_of_getElem? (i := 47) rfl) rfl
set_option maxRecDepth 100000 in
theorem cw_103 : Cond.code ⟨"AyeJars$House", "hasBill", "(I)Z"⟩ prog_7_method_5_code 2 (some .boolean) ∈ TG := ch_3 (List.mem_of_getElem? (i := 189) rfl) rfl
set_option maxRecDepth 100000 in
theorem cw_104 : Cond.code ⟨"AyeJars$Ahead", "brittleBills", "()I"⟩ prog_3_method_27_code 3 (some .int) ∈ TG := ch_5 (List.mem_of_getElem? (i := 198) rfl) rfl
set_option maxRecDepth 100000 in
theorem cw_105 : Cond.code ⟨"AyeJars$Acts", "keep", "(LAyeJars$Jars;)V"⟩ prog_2_method_3_code 2 (none) ∈ TG := ch_4 (List.mem_of_getElem? (i := 110) rfl) rfl
set_option maxRecDepth 100000 in
theorem cw_106 : Cond.code ⟨"AyeJars$Ahead", "daysTillDull", "(I)I"⟩ prog_3_method_17_code 3 (some .int) ∈ TG := ch_4 (List.mem_of_getElem? (i := 179) rfl) rfl
set_option maxRecDepth 100000 in
theorem cw_107 : Cond.code ⟨"AyeJars$Tokens", "hasRoom", "(I)Z"⟩ prog_11_method_2_code 2 (some .boolean) ∈ TG := ch_2 (List.mem_of_getElem? (i := 227) rfl) rfl
set_option maxRecDepth 100000 in
theorem cw_108 : Cond.code ⟨"AyeJars$Tokens", "append", "(I)V"⟩ prog_11_method_3_code 3 (none) ∈ TG := ch_2 (List.mem_of_getElem? (i := 231) rfl) rfl
set_option maxRecDepth 100000 in
theorem cw_109 : Cond.code ⟨"AyeJars$Nose", "fitting", "(I)J"⟩ prog_9_method_5_code 5 (some .long) ∈ TG := ch_6 (List.mem_of_getElem? (i := 4) rfl) rfl
set_option maxRecDepth 100000 in
theorem cw_110 : Cond.code ⟨"java/lang/Long", "bitCount", "(J)I"⟩ prog_16_method_50_code 2 (some .int) ∈ TG := ch_6 (List.mem_of_getElem? (i := 18) rfl) rfl
set_option maxRecDepth 100000 in
theorem cw_111 : Cond.code ⟨"AyeJars$Reader", "readHouse", "()Z"⟩ prog_10_method_2_code 3 (some .boolean) ∈ TG := ch_3 (List.mem_of_getElem? (i := 3) rfl) rfl
set_option maxRecDepth 100000 in
theorem cw_112 : Cond.code ⟨"AyeJars$House", "copyFrom", "(LAyeJars$House;)V"⟩ prog_7_method_3_code 2 (none) ∈ TG := ch_3 (List.mem_of_getElem? (i := 166) rfl) rfl
set_option maxRecDepth 100000 in
theorem cw_113 : Cond.code ⟨"AyeJars$Jars", "layOut", "(LAyeJars$House;)V"⟩ prog_8_method_7_code 3 (none) ∈ TG := ch_3 (List.mem_of_getElem? (i := 178) rfl) rfl
set_option maxRecDepth 100000 in
theorem cw_114 : Cond.code ⟨"AyeJars$Acts", "begin", "(LAyeJars$Jars;)V"⟩ prog_2_method_2_code 2 (none) ∈ TG := ch_3 (List.mem_of_getElem? (i := 200) rfl) rfl
set_option maxRecDepth 100000 in
theorem cw_115 : Cond.code ⟨"AyeJars$Nose", "forget", "()V"⟩ prog_9_method_2_code 1 (none) ∈ TG := ch_3 (List.mem_of_getElem? (i := 216) rfl) rfl
set_option maxRecDepth 100000 in
theorem cw_116 : Cond.code ⟨"AyeJars$Choices", "clear", "()V"⟩ prog_5_method_2_code 1 (none) ∈ TG := ch_3 (List.mem_of_getElem? (i := 220) rfl) rfl
set_option maxRecDepth 100000 in
theorem cw_117 : Cond.code ⟨"AyeJars$Tokens", "<init>", "()V"⟩ prog_11_method_1_code 1 (none) ∈ TG := ch_1 (List.mem_of_getElem? (i := 35) rfl) rfl
set_option maxRecDepth 100000 in
theorem cw_118 : Cond.code ⟨"AyeJars$House", "<init>", "()V"⟩ prog_7_method_1_code 1 (none) ∈ TG := ch_1 (List.mem_of_getElem? (i := 69) rfl) rfl
set_option maxRecDepth 100000 in
theorem cw_119 : Cond.code ⟨"AyeJars$Reader", "<init>", "(LAyeJars$Tokens;LAyeJars$House;)V"⟩ prog_10_method_1_code 3 (none) ∈ TG := ch_1 (List.mem_of_getElem? (i := 161) rfl) rfl
set_option maxRecDepth 100000 in
theorem cw_120 : Cond.code ⟨"AyeJars$Acts", "<init>", "()V"⟩ prog_2_method_1_code 2 (none) ∈ TG := ch_1 (List.mem_of_getElem? (i := 225) rfl) rfl
set_option maxRecDepth 100000 in
theorem cw_121 : Cond.code ⟨"AyeJars$Trial", "<init>", "(LAyeJars$House;)V"⟩ prog_12_method_1_code 2 (none) ∈ TG := ch_2 (List.mem_of_getElem? (i := 7) rfl) rfl
set_option maxRecDepth 100000 in
theorem cw_122 : Cond.code ⟨"AyeJars$Ahead", "<init>", "(LAyeJars$House;LAyeJars$Jars;LAyeJars$Trial;)V"⟩ prog_3_method_1_code 4 (none) ∈ TG := ch_2 (List.mem_of_getElem? (i := 44) rfl) rfl
set_option maxRecDepth 100000 in
theorem cw_123 : Cond.code ⟨"AyeJars$Chances", "<init>", "(LAyeJars$House;LAyeJars$Jars;LAyeJars$Trial;LAyeJars$Ahead;)V"⟩ prog_4_method_1_code 5 (none) ∈ TG := ch_2 (List.mem_of_getElem? (i := 60) rfl) rfl
set_option maxRecDepth 100000 in
theorem cw_124 : Cond.code ⟨"AyeJars$Choices", "<init>", "(LAyeJars$House;LAyeJars$Jars;LAyeJars$Trial;LAyeJars$Ahead;)V"⟩ prog_5_method_1_code 6 (none) ∈ TG := ch_2 (List.mem_of_getElem? (i := 85) rfl) rfl
set_option maxRecDepth 100000 in
theorem cw_125 : Cond.code ⟨"AyeJars$Nose", "<init>", "(LAyeJars$House;LAyeJars$Trial;)V"⟩ prog_9_method_1_code 3 (none) ∈ TG := ch_2 (List.mem_of_getElem? (i := 141) rfl) rfl
set_option maxRecDepth 100000 in
theorem cw_126 : Cond.code ⟨"AyeJars$Ahead", "mayJoin", "(II)Z"⟩ prog_3_method_5_code 3 (some .boolean) ∈ TG := ch_4 (List.mem_of_getElem? (i := 133) rfl) rfl
set_option maxRecDepth 100000 in
theorem cw_127 : Cond.code ⟨"AyeJars$Ahead", "latestVote", "(II)I"⟩ prog_3_method_19_code 6 (some .int) ∈ TG := ch_4 (List.mem_of_getElem? (i := 211) rfl) rfl
set_option maxRecDepth 100000 in
theorem cw_128 : Cond.code ⟨"AyeJars$Ahead", "passingWithNeed", "(I)I"⟩ prog_3_method_21_code 4 (some .int) ∈ TG := ch_5 (List.mem_of_getElem? (i := 64) rfl) rfl
set_option maxRecDepth 100000 in
theorem cw_129 : Cond.code ⟨"AyeJars$Choices", "lyingAt", "(I)I"⟩ prog_5_method_3_code 2 (some .int) ∈ TG := ch_5 (List.mem_of_getElem? (i := 215) rfl) rfl
set_option maxRecDepth 100000 in
theorem cw_130 : Cond.code ⟨"AyeJars$Ahead", "longestLasting", "(I)I"⟩ prog_3_method_28_code 6 (some .int) ∈ TG := ch_5 (List.mem_of_getElem? (i := 206) rfl) rfl
set_option maxRecDepth 100000 in
theorem cw_131 : Cond.code ⟨"AyeJars$Ahead", "countMatches", "()I"⟩ prog_3_method_26_code 4 (some .int) ∈ TG := ch_5 (List.mem_of_getElem? (i := 188) rfl) rfl
set_option maxRecDepth 100000 in
theorem cw_132 : Cond.code ⟨"AyeJars$Chances", "weighMean", "(II)Z"⟩ prog_4_method_6_code 4 (some .boolean) ∈ TG := ch_5 (List.mem_of_getElem? (i := 99) rfl) rfl
set_option maxRecDepth 100000 in
theorem cw_133 : Cond.code ⟨"AyeJars$House", "hasMember", "(I)Z"⟩ prog_7_method_4_code 2 (some .boolean) ∈ TG := ch_3 (List.mem_of_getElem? (i := 232) rfl) rfl
set_option maxRecDepth 100000 in
theorem cw_134 : Cond.code ⟨"AyeJars$Ahead", "fewestSaviours", "(I)I"⟩ prog_3_method_18_code 6 (some .int) ∈ TG := ch_4 (List.mem_of_getElem? (i := 196) rfl) rfl
set_option maxRecDepth 100000 in
theorem cw_135 : Cond.code ⟨"AyeJars$Chances", "weighOdds", "(II)Z"⟩ prog_4_method_5_code 4 (some .boolean) ∈ TG := ch_5 (List.mem_of_getElem? (i := 72) rfl) rfl
set_option maxRecDepth 100000 in
theorem cw_136 : Cond.code ⟨"AyeJars$Ahead", "passing", "()I"⟩ prog_3_method_15_code 3 (some .int) ∈ TG := ch_4 (List.mem_of_getElem? (i := 187) rfl) rfl
set_option maxRecDepth 100000 in
theorem cw_137 : Cond.code ⟨"AyeJars$Choices", "choosePlan", "()I"⟩ prog_5_method_5_code 3 (some .int) ∈ TG := ch_4 (List.mem_of_getElem? (i := 219) rfl) rfl
set_option maxRecDepth 100000 in
theorem cw_138 : Cond.code ⟨"AyeJars$Chances", "weighPower", "(II)Z"⟩ prog_4_method_3_code 6 (some .boolean) ∈ TG := ch_5 (List.mem_of_getElem? (i := 13) rfl) rfl
set_option maxRecDepth 100000 in
theorem cw_139 : Cond.code ⟨"AyeJars$Choices", "chooseQueue", "(I)I"⟩ prog_5_method_10_code 3 (some .int) ∈ TG := ch_5 (List.mem_of_getElem? (i := 117) rfl) rfl
set_option maxRecDepth 100000 in
theorem cw_140 : Cond.code ⟨"AyeJars$Acts", "goOn", "(LAyeJars$Jars;)Z"⟩ prog_2_method_5_code 2 (some .boolean) ∈ TG := ch_4 (List.mem_of_getElem? (i := 163) rfl) rfl
set_option maxRecDepth 100000 in
theorem cw_141 : Cond.code ⟨"AyeJars$Ahead", "richestKept", "()I"⟩ prog_3_method_25_code 5 (some .int) ∈ TG := ch_5 (List.mem_of_getElem? (i := 180) rfl) rfl
set_option maxRecDepth 100000 in
theorem cw_142 : Cond.code ⟨"AyeJars$Ahead", "ripestDays", "(II)I"⟩ prog_3_method_22_code 8 (some .int) ∈ TG := ch_5 (List.mem_of_getElem? (i := 107) rfl) rfl
set_option maxRecDepth 100000 in
theorem cw_143 : Cond.code ⟨"AyeJars$Choices", "chooseSabotage", "(I)I"⟩ prog_5_method_13_code 4 (some .int) ∈ TG := ch_5 (List.mem_of_getElem? (i := 155) rfl) rfl
set_option maxRecDepth 100000 in
theorem cw_144 : Cond.code ⟨"AyeJars$Jars", "get", "(II)I"⟩ prog_8_method_2_code 3 (some .int) ∈ TG := ch_4 (List.mem_of_getElem? (i := 25) rfl) rfl
set_option maxRecDepth 100000 in
theorem cw_145 : Cond.code ⟨"AyeJars$Ahead", "isKept", "(I)Z"⟩ prog_3_method_2_code 2 (some .boolean) ∈ TG := ch_4 (List.mem_of_getElem? (i := 20) rfl) rfl
set_option maxRecDepth 100000 in
theorem cw_146 : Cond.code ⟨"AyeJars$Nose", "tell", "(IIZI)I"⟩ prog_9_method_3_code 5 (some .int) ∈ TG := ch_5 (List.mem_of_getElem? (i := 223) rfl) rfl
set_option maxRecDepth 100000 in
theorem cw_147 : Cond.code ⟨"AyeJars$Ahead", "shakesToSpoil", "(I)I"⟩ prog_3_method_23_code 3 (some .int) ∈ TG := ch_5 (List.mem_of_getElem? (i := 143) rfl) rfl
set_option maxRecDepth 100000 in
theorem cw_148 : Cond.code ⟨"AyeJars$Nose", "sureness", "(II)I"⟩ prog_9_method_9_code 6 (some .int) ∈ TG := ch_6 (List.mem_of_getElem? (i := 29) rfl) rfl
set_option maxRecDepth 100000 in
theorem cw_149 : Cond.code ⟨"AyeJars$Acts", "goBack", "(LAyeJars$Jars;)Z"⟩ prog_2_method_4_code 2 (some .boolean) ∈ TG := ch_4 (List.mem_of_getElem? (i := 155) rfl) rfl
set_option maxRecDepth 100000 in
theorem cw_150 : Cond.code ⟨"AyeJars$Nose", "takeBack", "(II)Z"⟩ prog_9_method_4_code 3 (some .boolean) ∈ TG := ch_5 (List.mem_of_getElem? (i := 231) rfl) rfl
set_option maxRecDepth 100000 in
theorem cw_151 : Cond.code ⟨"AyeJars$Ahead", "mayVote", "(II)Z"⟩ prog_3_method_3_code 3 (some .boolean) ∈ TG := ch_4 (List.mem_of_getElem? (i := 11) rfl) rfl
set_option maxRecDepth 100000 in
theorem cw_152 : Cond.code ⟨"AyeJars$Ahead", "volumeWasted", "()I"⟩ prog_3_method_24_code 3 (some .int) ∈ TG := ch_5 (List.mem_of_getElem? (i := 172) rfl) rfl
set_option maxRecDepth 100000 in
theorem cw_153 : Cond.code ⟨"AyeJars$Ahead", "volumeBehind", "(II)I"⟩ prog_3_method_16_code 3 (some .int) ∈ TG := ch_4 (List.mem_of_getElem? (i := 171) rfl) rfl
set_option maxRecDepth 100000 in
theorem cw_154 : Cond.code ⟨"AyeJarsModel", "many", "()I"⟩ prog_14_method_43_code 1 (some .int) ∈ TG := ch_7 (List.mem_of_getElem? (i := 200) rfl) rfl
set_option maxRecDepth 100000 in
theorem cw_155 : Cond.code ⟨"AyeJarsModel", "thoseThat", "(I)I"⟩ prog_14_method_132_code 4 (some .int) ∈ TG := ch_9 (List.mem_of_getElem? (i := 93) rfl) rfl
set_option maxRecDepth 100000 in
theorem cw_156 : Cond.code ⟨"AyeJarsModel", "isIn", "(III)Z"⟩ prog_14_method_38_code 3 (some .boolean) ∈ TG := ch_7 (List.mem_of_getElem? (i := 203) rfl) rfl
set_option maxRecDepth 100000 in
theorem cw_157 : Cond.code ⟨"AyeJarsModel", "layFits", "(I)V"⟩ prog_14_method_126_code 4 (none) ∈ TG := ch_9 (List.mem_of_getElem? (i := 65) rfl) rfl
set_option maxRecDepth 100000 in
theorem cw_158 : Cond.code ⟨"AyeJarsModel", "isLeft", "(I)Z"⟩ prog_14_method_46_code 2 (some .boolean) ∈ TG := ch_7 (List.mem_of_getElem? (i := 218) rfl) rfl
set_option maxRecDepth 100000 in
theorem cw_159 : Cond.code ⟨"AyeJarsModel", "isBill", "(I)Z"⟩ prog_14_method_45_code 2 (some .boolean) ∈ TG := ch_7 (List.mem_of_getElem? (i := 222) rfl) rfl
set_option maxRecDepth 100000 in
theorem cw_160 : Cond.code ⟨"AyeJarsModel", "keepAct", "()V"⟩ prog_14_method_72_code 2 (none) ∈ TG := ch_8 (List.mem_of_getElem? (i := 68) rfl) rfl
set_option maxRecDepth 100000 in
theorem cw_161 : Cond.code ⟨"AyeJarsModel", "goDay", "()I"⟩ prog_14_method_81_code 3 (some .int) ∈ TG := ch_8 (List.mem_of_getElem? (i := 104) rfl) rfl
set_option maxRecDepth 100000 in
theorem cw_162 : Cond.code ⟨"AyeJarsModel", "sign", "(I)I"⟩ prog_14_method_2_code 2 (some .int) ∈ TG := ch_7 (List.mem_of_getElem? (i := 58) rfl) rfl
set_option maxRecDepth 100000 in
theorem cw_163 : Cond.code ⟨"AyeJarsModel", "clearBank", "()V"⟩ prog_14_method_17_code 1 (none) ∈ TG := ch_6 (List.mem_of_getElem? (i := 83) rfl) rfl
set_option maxRecDepth 100000 in
theorem cw_164 : Cond.code ⟨"AyeJarsModel", "goOn", "()V"⟩ prog_14_method_9_code 3 (none) ∈ TG := ch_7 (List.mem_of_getElem? (i := 54) rfl) rfl
set_option maxRecDepth 100000 in
theorem cw_165 : Cond.code ⟨"AyeJarsModel", "isGood", "()Z"⟩ prog_14_method_6_code 1 (some .boolean) ∈ TG := ch_7 (List.mem_of_getElem? (i := 92) rfl) rfl
set_option maxRecDepth 100000 in
theorem cw_166 : Cond.code ⟨"AyeJarsModel", "startAnew", "()V"⟩ prog_14_method_53_code 2 (none) ∈ TG := ch_6 (List.mem_of_getElem? (i := 87) rfl) rfl
set_option maxRecDepth 100000 in
theorem cw_167 : Cond.code ⟨"AyeJarsModel", "canJoin", "(II)Z"⟩ prog_14_method_78_code 3 (some .boolean) ∈ TG := ch_8 (List.mem_of_getElem? (i := 92) rfl) rfl
set_option maxRecDepth 100000 in
theorem cw_168 : Cond.code ⟨"AyeJarsModel", "isMember", "(I)Z"⟩ prog_14_method_44_code 2 (some .boolean) ∈ TG := ch_7 (List.mem_of_getElem? (i := 196) rfl) rfl
set_option maxRecDepth 100000 in
theorem cw_169 : Cond.code ⟨"AyeJarsModel", "doesFit", "(II)Z"⟩ prog_14_method_125_code 5 (some .boolean) ∈ TG := ch_9 (List.mem_of_getElem? (i := 69) rfl) rfl
set_option maxRecDepth 100000 in
theorem cw_170 : Cond.code ⟨"AyeJarsModel", "mayAll", "(III)Z"⟩ prog_14_method_110_code 5 (some .boolean) ∈ TG := ch_9 (List.mem_of_getElem? (i := 4) rfl) rfl
set_option maxRecDepth 100000 in
theorem cw_171 : Cond.code ⟨"AyeJarsModel", "times", "(II)I"⟩ prog_14_method_103_code 4 (some .int) ∈ TG := ch_8 (List.mem_of_getElem? (i := 214) rfl) rfl
set_option maxRecDepth 100000 in
theorem cw_172 : Cond.code ⟨"AyeJarsModel", "layChoice", "(I)I"⟩ prog_14_method_104_code 5 (some .int) ∈ TG := ch_8 (List.mem_of_getElem? (i := 218) rfl) rfl
set_option maxRecDepth 100000 in
theorem cw_173 : Cond.code ⟨"AyeJarsModel", "passedByChoice", "()I"⟩ prog_14_method_105_code 5 (some .int) ∈ TG := ch_8 (List.mem_of_getElem? (i := 222) rfl) rfl
set_option maxRecDepth 100000 in
theorem cw_174 : Cond.code ⟨"AyeJarsModel", "keepNow", "()V"⟩ prog_14_method_95_code 2 (none) ∈ TG := ch_8 (List.mem_of_getElem? (i := 183) rfl) rfl
set_option maxRecDepth 100000 in
theorem cw_175 : Cond.code ⟨"AyeJarsModel", "shakeAll", "(II)I"⟩ prog_14_method_119_code 7 (some .int) ∈ TG := ch_9 (List.mem_of_getElem? (i := 40) rfl) rfl
set_option maxRecDepth 100000 in
theorem cw_176 : Cond.code ⟨"AyeJarsModel", "forced", "()I"⟩ prog_14_method_120_code 3 (some .int) ∈ TG := ch_9 (List.mem_of_getElem? (i := 44) rfl) rfl
set_option maxRecDepth 100000 in
theorem cw_177 : Cond.code ⟨"AyeJarsModel", "bringBack", "()V"⟩ prog_14_method_96_code 2 (none) ∈ TG := ch_8 (List.mem_of_getElem? (i := 187) rfl) rfl
set_option maxRecDepth 100000 in
theorem cw_178 : Cond.code ⟨"AyeJarsModel", "canShake", "(I)Z"⟩ prog_14_method_75_code 2 (some .boolean) ∈ TG := ch_8 (List.mem_of_getElem? (i := 76) rfl) rfl
set_option maxRecDepth 100000 in
theorem cw_179 : Cond.code ⟨"AyeJarsModel", "mayVote", "(II)Z"⟩ prog_14_method_63_code 3 (some .boolean) ∈ TG := ch_7 (List.mem_of_getElem? (i := 214) rfl) rfl
set_option maxRecDepth 100000 in
theorem cw_180 : Cond.code ⟨"AyeJars$House", "opensOf", "(I)I"⟩ prog_7_method_10_code 2 (some .int) ∈ TG := ch_4 (List.mem_of_getElem? (i := 43) rfl) rfl
set_option maxRecDepth 100000 in
theorem cw_181 : Cond.code ⟨"AyeJars$Ahead", "votersFor", "(I)I"⟩ prog_3_method_4_code 3 (some .int) ∈ TG := ch_4 (List.mem_of_getElem? (i := 16) rfl) rfl
set_option maxRecDepth 100000 in
theorem cw_182 : Cond.code ⟨"AyeJars$Ahead", "daysLeft", "(I)I"⟩ prog_3_method_9_code 2 (some .int) ∈ TG := ch_4 (List.mem_of_getElem? (i := 92) rfl) rfl
set_option maxRecDepth 100000 in
theorem cw_183 : Cond.code ⟨"AyeJars$Chances", "mayAllVote", "(III)Z"⟩ prog_4_method_7_code 4 (some .boolean) ∈ TG := ch_5 (List.mem_of_getElem? (i := 76) rfl) rfl
set_option maxRecDepth 100000 in
theorem cw_184 : Cond.code ⟨"java/util/Arrays", "fill", "([II)V"⟩ prog_22_method_103_code 4 (none) ∈ TG := ch_3 (List.mem_of_getElem? (i := 181) rfl) rfl
set_option maxRecDepth 100000 in
theorem cw_185 : Cond.code ⟨"AyeJars$Choices", "forcingSets", "(I)J"⟩ prog_5_method_6_code 6 (some .long) ∈ TG := ch_4 (List.mem_of_getElem? (i := 224) rfl) rfl
set_option maxRecDepth 100000 in
theorem cw_186 : Cond.code ⟨"AyeJars$Choices", "extendPlan", "(II)V"⟩ prog_5_method_7_code 4 (none) ∈ TG := ch_4 (List.mem_of_getElem? (i := 232) rfl) rfl
set_option maxRecDepth 100000 in
theorem cw_187 : Cond.code ⟨"AyeJars$Choices", "fillShaken", "(II)V"⟩ prog_5_method_14_code 7 (none) ∈ TG := ch_5 (List.mem_of_getElem? (i := 159) rfl) rfl
set_option maxRecDepth 100000 in
theorem cw_188 : Cond.code ⟨"AyeJars$Choices", "weighSabotage", "(II)V"⟩ prog_5_method_15_code 7 (none) ∈ TG := ch_5 (List.mem_of_getElem? (i := 164) rfl) rfl
set_option maxRecDepth 100000 in
theorem cw_189 : Cond.code ⟨"AyeJars$Choices", "weighPlan", "(I)V"⟩ prog_5_method_8_code 3 (none) ∈ TG := ch_4 (List.mem_of_getElem? (i := 236) rfl) rfl
set_option maxRecDepth 100000 in
theorem cw_190 : Cond.code ⟨"AyeJars$Choices", "countForced", "()I"⟩ prog_5_method_9_code 3 (some .int) ∈ TG := ch_5 (List.mem_of_getElem? (i := 0) rfl) rfl
set_option maxRecDepth 100000 in
theorem cw_191 : Cond.code ⟨"AyeJars$Choices", "layTried", "(I)V"⟩ prog_5_method_4_code 2 (none) ∈ TG := ch_5 (List.mem_of_getElem? (i := 4) rfl) rfl
set_option maxRecDepth 100000 in
theorem cw_192 : Cond.code ⟨"AyeJars$House", "sumOf", "([II)I"⟩ prog_7_method_12_code 4 (some .int) ∈ TG := ch_3 (List.mem_of_getElem? (i := 239) rfl) rfl
set_option maxRecDepth 100000 in
theorem cw_193 : Cond.code ⟨"AyeJars$Formula", "clear", "()V"⟩ prog_6_method_2_code 1 (none) ∈ TG := ch_3 (List.mem_of_getElem? (i := 11) rfl) rfl
set_option maxRecDepth 100000 in
theorem cw_194 : Cond.code ⟨"AyeJars$Formula", "copyFrom", "(LAyeJars$Formula;)V"⟩ prog_6_method_3_code 2 (none) ∈ TG := ch_3 (List.mem_of_getElem? (i := 173) rfl) rfl
set_option maxRecDepth 100000 in
theorem cw_195 : Cond.code ⟨"AyeJars$Formula", "<init>", "()V"⟩ prog_6_method_1_code 1 (none) ∈ TG := ch_1 (List.mem_of_getElem? (i := 75) rfl) rfl
set_option maxRecDepth 100000 in
theorem cw_196 : Cond.code ⟨"AyeJars$Jars", "hasCell", "(II)Z"⟩ prog_8_method_4_code 2 (some .boolean) ∈ TG := ch_3 (List.mem_of_getElem? (i := 196) rfl) rfl
set_option maxRecDepth 100000 in
theorem cw_197 : Cond.code ⟨"AyeJars$House", "shelfOf", "(I)I"⟩ prog_7_method_11_code 2 (some .int) ∈ TG := ch_3 (List.mem_of_getElem? (i := 185) rfl) rfl
set_option maxRecDepth 100000 in
theorem cw_198 : Cond.code ⟨"AyeJars$Jars", "put", "(III)V"⟩ prog_8_method_3_code 4 (none) ∈ TG := ch_3 (List.mem_of_getElem? (i := 193) rfl) rfl
set_option maxRecDepth 100000 in
theorem cw_199 : Cond.code ⟨"AyeJars$Trial", "startEmpty", "(III)V"⟩ prog_12_method_5_code 4 (none) ∈ TG := ch_5 (List.mem_of_getElem? (i := 27) rfl) rfl
set_option maxRecDepth 100000 in
theorem cw_200 : Cond.code ⟨"AyeJars$Trial", "breathe", "(I)V"⟩ prog_12_method_6_code 2 (none) ∈ TG := ch_4 (List.mem_of_getElem? (i := 87) rfl) rfl
set_option maxRecDepth 100000 in
theorem cw_201 : Cond.code ⟨"AyeJars$Trial", "rest", "(I)V"⟩ prog_12_method_9_code 3 (none) ∈ TG := ch_4 (List.mem_of_getElem? (i := 82) rfl) rfl
set_option maxRecDepth 100000 in
theorem cw_202 : Cond.code ⟨"AyeJars$Nose", "fadeStrangeJars", "()V"⟩ prog_9_method_6_code 3 (none) ∈ TG := ch_6 (List.mem_of_getElem? (i := 8) rfl) rfl
set_option maxRecDepth 100000 in
theorem cw_203 : Cond.code ⟨"AyeJars$Nose", "agrees", "(II)Z"⟩ prog_9_method_7_code 6 (some .boolean) ∈ TG := ch_6 (List.mem_of_getElem? (i := 15) rfl) rfl
set_option maxRecDepth 100000 in
theorem cw_204 : Cond.code ⟨"AyeJars$House", "clear", "()V"⟩ prog_7_method_2_code 1 (none) ∈ TG := ch_3 (List.mem_of_getElem? (i := 7) rfl) rfl
set_option maxRecDepth 100000 in
theorem cw_205 : Cond.code ⟨"AyeJars$Tokens", "start", "()V"⟩ prog_11_method_4_code 1 (none) ∈ TG := ch_3 (List.mem_of_getElem? (i := 15) rfl) rfl
set_option maxRecDepth 100000 in
theorem cw_206 : Cond.code ⟨"AyeJars$Tokens", "byteAt", "(I)I"⟩ prog_11_method_6_code 2 (some .int) ∈ TG := ch_3 (List.mem_of_getElem? (i := 23) rfl) rfl
set_option maxRecDepth 100000 in
theorem cw_207 : Cond.code ⟨"AyeJars$Tokens", "advance", "()V"⟩ prog_11_method_5_code 2 (none) ∈ TG := ch_3 (List.mem_of_getElem? (i := 19) rfl) rfl
set_option maxRecDepth 1000000 in
theorem cwAll : ∀ q ∈ tM.zip tY, Cond.code q.2 (mBy q.1) (mLoc q.1) (mRet q.1) ∈ TG := List.forall_mem_cons.mpr ⟨cw_0, List.forall_mem_cons.mpr ⟨cw_1, List.forall_mem_cons.mpr ⟨cw_2, List.forall_mem_cons.mpr ⟨cw_3, List.forall_mem_cons.mpr ⟨cw_4, List.forall_mem_cons.mpr ⟨cw_5, List.forall_mem_cons.mpr ⟨cw_6, List.forall_mem_cons.mpr ⟨cw_7, List.forall_mem_cons.mpr ⟨cw_8, List.forall_mem_cons.mpr ⟨cw_9, List.forall_mem_cons.mpr ⟨cw_10, List.forall_mem_cons.mpr ⟨cw_11, List.forall_mem_cons.mpr ⟨cw_12, List.forall_mem_cons.mpr ⟨cw_13, List.forall_mem_cons.mpr ⟨cw_14, List.forall_mem_cons.mpr ⟨cw_15, List.forall_mem_cons.mpr ⟨cw_16, List.forall_mem_cons.mpr ⟨cw_17, List.forall_mem_cons.mpr ⟨cw_18, List.forall_mem_cons.mpr ⟨cw_19, List.forall_mem_cons.mpr ⟨cw_20, List.forall_mem_cons.mpr ⟨cw_21, List.forall_mem_cons.mpr ⟨cw_22, List.forall_mem_cons.mpr ⟨cw_23, List.forall_mem_cons.mpr ⟨cw_24, List.forall_mem_cons.mpr ⟨cw_25, List.forall_mem_cons.mpr ⟨cw_26, List.forall_mem_cons.mpr ⟨cw_27, List.forall_mem_cons.mpr ⟨cw_28, List.forall_mem_cons.mpr ⟨cw_29, List.forall_mem_cons.mpr ⟨cw_30, List.forall_mem_cons.mpr ⟨cw_31, List.forall_mem_cons.mpr ⟨cw_32, List.forall_mem_cons.mpr ⟨cw_33, List.forall_mem_cons.mpr ⟨cw_34, List.forall_mem_cons.mpr ⟨cw_35, List.forall_mem_cons.mpr ⟨cw_36, List.forall_mem_cons.mpr ⟨cw_37, List.forall_mem_cons.mpr ⟨cw_38, List.forall_mem_cons.mpr ⟨cw_39, List.forall_mem_cons.mpr ⟨cw_40, List.forall_mem_cons.mpr ⟨cw_41, List.forall_mem_cons.mpr ⟨cw_42, List.forall_mem_cons.mpr ⟨cw_43, List.forall_mem_cons.mpr ⟨cw_44, List.forall_mem_cons.mpr ⟨cw_45, List.forall_mem_cons.mpr ⟨cw_46, List.forall_mem_cons.mpr ⟨cw_47, List.forall_mem_cons.mpr ⟨cw_48, List.forall_mem_cons.mpr ⟨cw_49, List.forall_mem_cons.mpr ⟨cw_50, List.forall_mem_cons.mpr ⟨cw_51, List.forall_mem_cons.mpr ⟨cw_52, List.forall_mem_cons.mpr ⟨cw_53, List.forall_mem_cons.mpr ⟨cw_54, List.forall_mem_cons.mpr ⟨cw_55, List.forall_mem_cons.mpr ⟨cw_56, List.forall_mem_cons.mpr ⟨cw_57, List.forall_mem_cons.mpr ⟨cw_58, List.forall_mem_cons.mpr ⟨cw_59, List.forall_mem_cons.mpr ⟨cw_60, List.forall_mem_cons.mpr ⟨cw_61, List.forall_mem_cons.mpr ⟨cw_62, List.forall_mem_cons.mpr ⟨cw_63, List.forall_mem_cons.mpr ⟨cw_64, List.forall_mem_cons.mpr ⟨cw_65, List.forall_mem_cons.mpr ⟨cw_66, List.forall_mem_cons.mpr ⟨cw_67, List.forall_mem_cons.mpr ⟨cw_68, List.forall_mem_cons.mpr ⟨cw_69, List.forall_mem_cons.mpr ⟨cw_70, List.forall_mem_cons.mpr ⟨cw_71, List.forall_mem_cons.mpr ⟨cw_72, List.forall_mem_cons.mpr ⟨cw_73, List.forall_mem_cons.mpr ⟨cw_74, List.forall_mem_cons.mpr ⟨cw_75, List.forall_mem_cons.mpr ⟨cw_76, List.forall_mem_cons.mpr ⟨cw_77, List.forall_mem_cons.mpr ⟨cw_78, List.forall_mem_cons.mpr ⟨cw_79, List.forall_mem_cons.mpr ⟨cw_80, List.forall_mem_cons.mpr ⟨cw_81, List.forall_mem_cons.mpr ⟨cw_82, List.forall_mem_cons.mpr ⟨cw_83, List.forall_mem_cons.mpr ⟨cw_84, List.forall_mem_cons.mpr ⟨cw_85, List.forall_mem_cons.mpr ⟨cw_86, List.forall_mem_cons.mpr ⟨cw_87, List.forall_mem_cons.mpr ⟨cw_88, List.forall_mem_cons.mpr ⟨cw_89, List.forall_mem_cons.mpr ⟨cw_90, List.forall_mem_cons.mpr ⟨cw_91, List.forall_mem_cons.mpr ⟨cw_92, List.forall_mem_cons.mpr ⟨cw_93, List.forall_mem_cons.mpr ⟨cw_94, List.forall_mem_cons.mpr ⟨cw_95, List.forall_mem_cons.mpr ⟨cw_96, List.forall_mem_cons.mpr ⟨cw_97, List.forall_mem_cons.mpr ⟨cw_98, List.forall_mem_cons.mpr ⟨cw_99, List.forall_mem_cons.mpr ⟨cw_100, List.forall_mem_cons.mpr ⟨cw_101, List.forall_mem_cons.mpr ⟨cw_102, List.forall_mem_cons.mpr ⟨cw_103, List.forall_mem_cons.mpr ⟨cw_104, List.forall_mem_cons.mpr ⟨cw_105, List.forall_mem_cons.mpr ⟨cw_106, List.forall_mem_cons.mpr ⟨cw_107, List.forall_mem_cons.mpr ⟨cw_108, List.forall_mem_cons.mpr ⟨cw_109, List.forall_mem_cons.mpr ⟨cw_110, List.forall_mem_cons.mpr ⟨cw_111, List.forall_mem_cons.mpr ⟨cw_112, List.forall_mem_cons.mpr ⟨cw_113, List.forall_mem_cons.mpr ⟨cw_114, List.forall_mem_cons.mpr ⟨cw_115, List.forall_mem_cons.mpr ⟨cw_116, List.forall_mem_cons.mpr ⟨cw_117, List.forall_mem_cons.mpr ⟨cw_118, List.forall_mem_cons.mpr ⟨cw_119, List.forall_mem_cons.mpr ⟨cw_120, List.forall_mem_cons.mpr ⟨cw_121, List.forall_mem_cons.mpr ⟨cw_122, List.forall_mem_cons.mpr ⟨cw_123, List.forall_mem_cons.mpr ⟨cw_124, List.forall_mem_cons.mpr ⟨cw_125, List.forall_mem_cons.mpr ⟨cw_126, List.forall_mem_cons.mpr ⟨cw_127, List.forall_mem_cons.mpr ⟨cw_128, List.forall_mem_cons.mpr ⟨cw_129, List.forall_mem_cons.mpr ⟨cw_130, List.forall_mem_cons.mpr ⟨cw_131, List.forall_mem_cons.mpr ⟨cw_132, List.forall_mem_cons.mpr ⟨cw_133, List.forall_mem_cons.mpr ⟨cw_134, List.forall_mem_cons.mpr ⟨cw_135, List.forall_mem_cons.mpr ⟨cw_136, List.forall_mem_cons.mpr ⟨cw_137, List.forall_mem_cons.mpr ⟨cw_138, List.forall_mem_cons.mpr ⟨cw_139, List.forall_mem_cons.mpr ⟨cw_140, List.forall_mem_cons.mpr ⟨cw_141, List.forall_mem_cons.mpr ⟨cw_142, List.forall_mem_cons.mpr ⟨cw_143, List.forall_mem_cons.mpr ⟨cw_144, List.forall_mem_cons.mpr ⟨cw_145, List.forall_mem_cons.mpr ⟨cw_146, List.forall_mem_cons.mpr ⟨cw_147, List.forall_mem_cons.mpr ⟨cw_148, List.forall_mem_cons.mpr ⟨cw_149, List.forall_mem_cons.mpr ⟨cw_150, List.forall_mem_cons.mpr ⟨cw_151, List.forall_mem_cons.mpr ⟨cw_152, List.forall_mem_cons.mpr ⟨cw_153, List.forall_mem_cons.mpr ⟨cw_154, List.forall_mem_cons.mpr ⟨cw_155, List.forall_mem_cons.mpr ⟨cw_156, List.forall_mem_cons.mpr ⟨cw_157, List.forall_mem_cons.mpr ⟨cw_158, List.forall_mem_cons.mpr ⟨cw_159, List.forall_mem_cons.mpr ⟨cw_160, List.forall_mem_cons.mpr ⟨cw_161, List.forall_mem_cons.mpr ⟨cw_162, List.forall_mem_cons.mpr ⟨cw_163, List.forall_mem_cons.mpr ⟨cw_164, List.forall_mem_cons.mpr ⟨cw_165, List.forall_mem_cons.mpr ⟨cw_166, List.forall_mem_cons.mpr ⟨cw_167, List.forall_mem_cons.mpr ⟨cw_168, List.forall_mem_cons.mpr ⟨cw_169, List.forall_mem_cons.mpr ⟨cw_170, List.forall_mem_cons.mpr ⟨cw_171, List.forall_mem_cons.mpr ⟨cw_172, List.forall_mem_cons.mpr ⟨cw_173, List.forall_mem_cons.mpr ⟨cw_174, List.forall_mem_cons.mpr ⟨cw_175, List.forall_mem_cons.mpr ⟨cw_176, List.forall_mem_cons.mpr ⟨cw_177, List.forall_mem_cons.mpr ⟨cw_178, List.forall_mem_cons.mpr ⟨cw_179, List.forall_mem_cons.mpr ⟨cw_180, List.forall_mem_cons.mpr ⟨cw_181, List.forall_mem_cons.mpr ⟨cw_182, List.forall_mem_cons.mpr ⟨cw_183, List.forall_mem_cons.mpr ⟨cw_184, List.forall_mem_cons.mpr ⟨cw_185, List.forall_mem_cons.mpr ⟨cw_186, List.forall_mem_cons.mpr ⟨cw_187, List.forall_mem_cons.mpr ⟨cw_188, List.forall_mem_cons.mpr ⟨cw_189, List.forall_mem_cons.mpr ⟨cw_190, List.forall_mem_cons.mpr ⟨cw_191, List.forall_mem_cons.mpr ⟨cw_192, List.forall_mem_cons.mpr ⟨cw_193, List.forall_mem_cons.mpr ⟨cw_194, List.forall_mem_cons.mpr ⟨cw_195, List.forall_mem_cons.mpr ⟨cw_196, List.forall_mem_cons.mpr ⟨cw_197, List.forall_mem_cons.mpr ⟨cw_198, List.forall_mem_cons.mpr ⟨cw_199, List.forall_mem_cons.mpr ⟨cw_200, List.forall_mem_cons.mpr ⟨cw_201, List.forall_mem_cons.mpr ⟨cw_202, List.forall_mem_cons.mpr ⟨cw_203, List.forall_mem_cons.mpr ⟨cw_204, List.forall_mem_cons.mpr ⟨cw_205, List.forall_mem_cons.mpr ⟨cw_206, List.forall_mem_cons.mpr ⟨cw_207, fun _ h => absurd h List.not_mem_nil⟩⟩⟩⟩⟩⟩⟩⟩⟩⟩⟩⟩⟩⟩⟩⟩⟩⟩⟩⟩⟩⟩⟩⟩⟩⟩⟩⟩⟩⟩⟩⟩⟩⟩⟩⟩⟩⟩⟩⟩⟩⟩⟩⟩⟩⟩⟩⟩⟩⟩⟩⟩⟩⟩⟩⟩⟩⟩⟩⟩⟩⟩⟩⟩⟩⟩⟩⟩⟩⟩⟩⟩⟩⟩⟩⟩⟩⟩⟩⟩⟩⟩⟩⟩⟩⟩⟩⟩⟩⟩⟩⟩⟩⟩⟩⟩⟩⟩⟩⟩⟩⟩⟩⟩⟩⟩⟩⟩⟩⟩⟩⟩⟩⟩⟩⟩⟩⟩⟩⟩⟩⟩⟩⟩⟩⟩⟩⟩⟩⟩⟩⟩⟩⟩⟩⟩⟩⟩⟩⟩⟩⟩⟩⟩⟩⟩⟩⟩⟩⟩⟩⟩⟩⟩⟩⟩⟩⟩⟩⟩⟩⟩⟩⟩⟩⟩⟩⟩⟩⟩⟩⟩⟩⟩⟩⟩⟩⟩⟩⟩⟩⟩⟩⟩⟩⟩⟩⟩⟩⟩⟩⟩⟩⟩⟩⟩⟩⟩⟩⟩⟩⟩⟩⟩⟩⟩⟩⟩
end
