section
-- ===== PART A: goes FIRST, ahead of the names: the tables' words, and 'selects' of the private methods out of them =====
/-- a private method of a class that the tables say can be made, by its rows of tables_1 -/
def lw_okq (q : MethodName × Nat) : Prop := (q.1.cls ≠ "java/lang/invoke/MethodHandle" ∧ q.1.cls ≠ "java/lang/invoke/VarHandle") ∧ Cond.instantiable q.1.cls q.2 ∈ tables_1 ∧ Cond.privateMethod q.1 ∈ tables_1 ∧ Cond.instanceMethod q.1 ∈ tables_1
theorem lw_p0 : lw_okq (⟨"AyeJars$Tokens", "byteAt", "(I)I"⟩, 7) := ⟨⟨by decide +kernel, by decide +kernel⟩, List.mem_of_getElem? (i := 32) (by decide +kernel), List.mem_of_getElem? (i := 501) (by decide +kernel), List.mem_of_getElem? (i := 502) (by decide +kernel)⟩
theorem lw_p1 : lw_okq (⟨"AyeJars$Tokens", "takeWord", "()V"⟩, 7) := ⟨⟨by decide +kernel, by decide +kernel⟩, List.mem_of_getElem? (i := 32) (by decide +kernel), List.mem_of_getElem? (i := 508) (by decide +kernel), List.mem_of_getElem? (i := 509) (by decide +kernel)⟩
theorem lw_p2 : lw_okq (⟨"AyeJars$Tokens", "takeNumber", "()V"⟩, 7) := ⟨⟨by decide +kernel, by decide +kernel⟩, List.mem_of_getElem? (i := 32) (by decide +kernel), List.mem_of_getElem? (i := 568) (by decide +kernel), List.mem_of_getElem? (i := 569) (by decide +kernel)⟩
theorem lw_p3 : lw_okq (⟨"AyeJars$Reader", "readMember", "()Z"⟩, 9) := ⟨⟨by decide +kernel, by decide +kernel⟩, List.mem_of_getElem? (i := 158) (by decide +kernel), List.mem_of_getElem? (i := 575) (by decide +kernel), List.mem_of_getElem? (i := 576) (by decide +kernel)⟩
theorem lw_p4 : lw_okq (⟨"AyeJars$Reader", "refuse", "(I)Z"⟩, 9) := ⟨⟨by decide +kernel, by decide +kernel⟩, List.mem_of_getElem? (i := 158) (by decide +kernel), List.mem_of_getElem? (i := 579) (by decide +kernel), List.mem_of_getElem? (i := 580) (by decide +kernel)⟩
theorem lw_p5 : lw_okq (⟨"AyeJars$Reader", "readName", "([JI)Z"⟩, 9) := ⟨⟨by decide +kernel, by decide +kernel⟩, List.mem_of_getElem? (i := 158) (by decide +kernel), List.mem_of_getElem? (i := 584) (by decide +kernel), List.mem_of_getElem? (i := 585) (by decide +kernel)⟩
theorem lw_p6 : lw_okq (⟨"AyeJars$Reader", "readPart", "(III)Z"⟩, 9) := ⟨⟨by decide +kernel, by decide +kernel⟩, List.mem_of_getElem? (i := 158) (by decide +kernel), List.mem_of_getElem? (i := 588) (by decide +kernel), List.mem_of_getElem? (i := 589) (by decide +kernel)⟩
theorem lw_p7 : lw_okq (⟨"AyeJars$Reader", "readBill", "()Z"⟩, 9) := ⟨⟨by decide +kernel, by decide +kernel⟩, List.mem_of_getElem? (i := 158) (by decide +kernel), List.mem_of_getElem? (i := 592) (by decide +kernel), List.mem_of_getElem? (i := 593) (by decide +kernel)⟩
theorem lw_p8 : lw_okq (⟨"AyeJars$Reader", "readFade", "()Z"⟩, 9) := ⟨⟨by decide +kernel, by decide +kernel⟩, List.mem_of_getElem? (i := 158) (by decide +kernel), List.mem_of_getElem? (i := 596) (by decide +kernel), List.mem_of_getElem? (i := 597) (by decide +kernel)⟩
theorem lw_p9 : lw_okq (⟨"AyeJars$Reader", "readEither", "(I)Z"⟩, 9) := ⟨⟨by decide +kernel, by decide +kernel⟩, List.mem_of_getElem? (i := 158) (by decide +kernel), List.mem_of_getElem? (i := 600) (by decide +kernel), List.mem_of_getElem? (i := 601) (by decide +kernel)⟩
theorem lw_p10 : lw_okq (⟨"AyeJars$Reader", "readBoth", "(I)Z"⟩, 9) := ⟨⟨by decide +kernel, by decide +kernel⟩, List.mem_of_getElem? (i := 158) (by decide +kernel), List.mem_of_getElem? (i := 604) (by decide +kernel), List.mem_of_getElem? (i := 605) (by decide +kernel)⟩
theorem lw_p11 : lw_okq (⟨"AyeJars$Reader", "readOne", "(I)Z"⟩, 9) := ⟨⟨by decide +kernel, by decide +kernel⟩, List.mem_of_getElem? (i := 158) (by decide +kernel), List.mem_of_getElem? (i := 608) (by decide +kernel), List.mem_of_getElem? (i := 609) (by decide +kernel)⟩
theorem lw_p12 : lw_okq (⟨"AyeJars$Reader", "write", "(I)Z"⟩, 9) := ⟨⟨by decide +kernel, by decide +kernel⟩, List.mem_of_getElem? (i := 158) (by decide +kernel), List.mem_of_getElem? (i := 612) (by decide +kernel), List.mem_of_getElem? (i := 613) (by decide +kernel)⟩
theorem lw_p13 : lw_okq (⟨"AyeJars$Reader", "readSum", "(I)Z"⟩, 9) := ⟨⟨by decide +kernel, by decide +kernel⟩, List.mem_of_getElem? (i := 158) (by decide +kernel), List.mem_of_getElem? (i := 620) (by decide +kernel), List.mem_of_getElem? (i := 621) (by decide +kernel)⟩
theorem lw_p14 : lw_okq (⟨"AyeJars$Reader", "readTerm", "(I)Z"⟩, 9) := ⟨⟨by decide +kernel, by decide +kernel⟩, List.mem_of_getElem? (i := 158) (by decide +kernel), List.mem_of_getElem? (i := 624) (by decide +kernel), List.mem_of_getElem? (i := 625) (by decide +kernel)⟩
theorem lw_p15 : lw_okq (⟨"AyeJars$Reader", "readUnit", "(I)Z"⟩, 9) := ⟨⟨by decide +kernel, by decide +kernel⟩, List.mem_of_getElem? (i := 158) (by decide +kernel), List.mem_of_getElem? (i := 628) (by decide +kernel), List.mem_of_getElem? (i := 629) (by decide +kernel)⟩
def lw_privs_1 : List (MethodName × Nat) := [(⟨"AyeJars$Tokens", "byteAt", "(I)I"⟩, 7), (⟨"AyeJars$Tokens", "takeWord", "()V"⟩, 7), (⟨"AyeJars$Tokens", "takeNumber", "()V"⟩, 7), (⟨"AyeJars$Reader", "readMember", "()Z"⟩, 9), (⟨"AyeJars$Reader", "refuse", "(I)Z"⟩, 9), (⟨"AyeJars$Reader", "readName", "([JI)Z"⟩, 9), (⟨"AyeJars$Reader", "readPart", "(III)Z"⟩, 9), (⟨"AyeJars$Reader", "readBill", "()Z"⟩, 9), (⟨"AyeJars$Reader", "readFade", "()Z"⟩, 9), (⟨"AyeJars$Reader", "readEither", "(I)Z"⟩, 9), (⟨"AyeJars$Reader", "readBoth", "(I)Z"⟩, 9), (⟨"AyeJars$Reader", "readOne", "(I)Z"⟩, 9), (⟨"AyeJars$Reader", "write", "(I)Z"⟩, 9), (⟨"AyeJars$Reader", "readSum", "(I)Z"⟩, 9), (⟨"AyeJars$Reader", "readTerm", "(I)Z"⟩, 9), (⟨"AyeJars$Reader", "readUnit", "(I)Z"⟩, 9)]
theorem lw_r1 : ∀ q ∈ lw_privs_1, lw_okq q := List.forall_mem_cons.mpr ⟨lw_p0, List.forall_mem_cons.mpr ⟨lw_p1, List.forall_mem_cons.mpr ⟨lw_p2, List.forall_mem_cons.mpr ⟨lw_p3, List.forall_mem_cons.mpr ⟨lw_p4, List.forall_mem_cons.mpr ⟨lw_p5, List.forall_mem_cons.mpr ⟨lw_p6, List.forall_mem_cons.mpr ⟨lw_p7, List.forall_mem_cons.mpr ⟨lw_p8, List.forall_mem_cons.mpr ⟨lw_p9, List.forall_mem_cons.mpr ⟨lw_p10, List.forall_mem_cons.mpr ⟨lw_p11, List.forall_mem_cons.mpr ⟨lw_p12, List.forall_mem_cons.mpr ⟨lw_p13, List.forall_mem_cons.mpr ⟨lw_p14, List.forall_mem_cons.mpr ⟨lw_p15, fun _ h => absurd h List.not_mem_nil⟩⟩⟩⟩⟩⟩⟩⟩⟩⟩⟩⟩⟩⟩⟩⟩
theorem lw_p16 : lw_okq (⟨"AyeJars$Reader", "readToken", "(I)Z"⟩, 9) := ⟨⟨by decide +kernel, by decide +kernel⟩, List.mem_of_getElem? (i := 158) (by decide +kernel), List.mem_of_getElem? (i := 632) (by decide +kernel), List.mem_of_getElem? (i := 633) (by decide +kernel)⟩
theorem lw_p17 : lw_okq (⟨"AyeJars$Reader", "readYawn", "()Z"⟩, 9) := ⟨⟨by decide +kernel, by decide +kernel⟩, List.mem_of_getElem? (i := 158) (by decide +kernel), List.mem_of_getElem? (i := 636) (by decide +kernel), List.mem_of_getElem? (i := 637) (by decide +kernel)⟩
theorem lw_p18 : lw_okq (⟨"AyeJars$Reader", "readDraw", "()Z"⟩, 9) := ⟨⟨by decide +kernel, by decide +kernel⟩, List.mem_of_getElem? (i := 158) (by decide +kernel), List.mem_of_getElem? (i := 640) (by decide +kernel), List.mem_of_getElem? (i := 641) (by decide +kernel)⟩
theorem lw_p19 : lw_okq (⟨"AyeJars$Acts", "slot", "(I)LAyeJars$Jars;"⟩, 4) := ⟨⟨by decide +kernel, by decide +kernel⟩, List.mem_of_getElem? (i := 222) (by decide +kernel), List.mem_of_getElem? (i := 682) (by decide +kernel), List.mem_of_getElem? (i := 683) (by decide +kernel)⟩
theorem lw_p20 : lw_okq (⟨"AyeJars$Choices", "forcingSets", "(I)J"⟩, 15) := ⟨⟨by decide +kernel, by decide +kernel⟩, List.mem_of_getElem? (i := 322) (by decide +kernel), List.mem_of_getElem? (i := 942) (by decide +kernel), List.mem_of_getElem? (i := 943) (by decide +kernel)⟩
theorem lw_p21 : lw_okq (⟨"AyeJars$Choices", "extendPlan", "(II)V"⟩, 15) := ⟨⟨by decide +kernel, by decide +kernel⟩, List.mem_of_getElem? (i := 322) (by decide +kernel), List.mem_of_getElem? (i := 950) (by decide +kernel), List.mem_of_getElem? (i := 951) (by decide +kernel)⟩
theorem lw_p22 : lw_okq (⟨"AyeJars$Choices", "weighPlan", "(I)V"⟩, 15) := ⟨⟨by decide +kernel, by decide +kernel⟩, List.mem_of_getElem? (i := 322) (by decide +kernel), List.mem_of_getElem? (i := 954) (by decide +kernel), List.mem_of_getElem? (i := 955) (by decide +kernel)⟩
theorem lw_p23 : lw_okq (⟨"AyeJars$Choices", "countForced", "()I"⟩, 15) := ⟨⟨by decide +kernel, by decide +kernel⟩, List.mem_of_getElem? (i := 322) (by decide +kernel), List.mem_of_getElem? (i := 958) (by decide +kernel), List.mem_of_getElem? (i := 959) (by decide +kernel)⟩
theorem lw_p24 : lw_okq (⟨"AyeJars$Choices", "layTried", "(I)V"⟩, 15) := ⟨⟨by decide +kernel, by decide +kernel⟩, List.mem_of_getElem? (i := 322) (by decide +kernel), List.mem_of_getElem? (i := 962) (by decide +kernel), List.mem_of_getElem? (i := 963) (by decide +kernel)⟩
theorem lw_p25 : lw_okq (⟨"AyeJars$Chances", "passesFromEmpty", "(II)Z"⟩, 6) := ⟨⟨by decide +kernel, by decide +kernel⟩, List.mem_of_getElem? (i := 297) (by decide +kernel), List.mem_of_getElem? (i := 980) (by decide +kernel), List.mem_of_getElem? (i := 981) (by decide +kernel)⟩
theorem lw_p26 : lw_okq (⟨"AyeJars$Chances", "mayAllVote", "(III)Z"⟩, 6) := ⟨⟨by decide +kernel, by decide +kernel⟩, List.mem_of_getElem? (i := 297) (by decide +kernel), List.mem_of_getElem? (i := 1034) (by decide +kernel), List.mem_of_getElem? (i := 1035) (by decide +kernel)⟩
theorem lw_p27 : lw_okq (⟨"AyeJars$Chances", "weightOf", "(II)J"⟩, 6) := ⟨⟨by decide +kernel, by decide +kernel⟩, List.mem_of_getElem? (i := 297) (by decide +kernel), List.mem_of_getElem? (i := 1049) (by decide +kernel), List.mem_of_getElem? (i := 1050) (by decide +kernel)⟩
theorem lw_p28 : lw_okq (⟨"AyeJars$Choices", "extendQueue", "(III)V"⟩, 15) := ⟨⟨by decide +kernel, by decide +kernel⟩, List.mem_of_getElem? (i := 322) (by decide +kernel), List.mem_of_getElem? (i := 1083) (by decide +kernel), List.mem_of_getElem? (i := 1084) (by decide +kernel)⟩
theorem lw_p29 : lw_okq (⟨"AyeJars$Choices", "weighQueue", "(II)V"⟩, 15) := ⟨⟨by decide +kernel, by decide +kernel⟩, List.mem_of_getElem? (i := 322) (by decide +kernel), List.mem_of_getElem? (i := 1087) (by decide +kernel), List.mem_of_getElem? (i := 1088) (by decide +kernel)⟩
theorem lw_p30 : lw_okq (⟨"AyeJars$Choices", "fillShaken", "(II)V"⟩, 15) := ⟨⟨by decide +kernel, by decide +kernel⟩, List.mem_of_getElem? (i := 322) (by decide +kernel), List.mem_of_getElem? (i := 1117) (by decide +kernel), List.mem_of_getElem? (i := 1118) (by decide +kernel)⟩
theorem lw_p31 : lw_okq (⟨"AyeJars$Choices", "weighSabotage", "(II)V"⟩, 15) := ⟨⟨by decide +kernel, by decide +kernel⟩, List.mem_of_getElem? (i := 322) (by decide +kernel), List.mem_of_getElem? (i := 1122) (by decide +kernel), List.mem_of_getElem? (i := 1123) (by decide +kernel)⟩
def lw_privs_2 : List (MethodName × Nat) := [(⟨"AyeJars$Reader", "readToken", "(I)Z"⟩, 9), (⟨"AyeJars$Reader", "readYawn", "()Z"⟩, 9), (⟨"AyeJars$Reader", "readDraw", "()Z"⟩, 9), (⟨"AyeJars$Acts", "slot", "(I)LAyeJars$Jars;"⟩, 4), (⟨"AyeJars$Choices", "forcingSets", "(I)J"⟩, 15), (⟨"AyeJars$Choices", "extendPlan", "(II)V"⟩, 15), (⟨"AyeJars$Choices", "weighPlan", "(I)V"⟩, 15), (⟨"AyeJars$Choices", "countForced", "()I"⟩, 15), (⟨"AyeJars$Choices", "layTried", "(I)V"⟩, 15), (⟨"AyeJars$Chances", "passesFromEmpty", "(II)Z"⟩, 6), (⟨"AyeJars$Chances", "mayAllVote", "(III)Z"⟩, 6), (⟨"AyeJars$Chances", "weightOf", "(II)J"⟩, 6), (⟨"AyeJars$Choices", "extendQueue", "(III)V"⟩, 15), (⟨"AyeJars$Choices", "weighQueue", "(II)V"⟩, 15), (⟨"AyeJars$Choices", "fillShaken", "(II)V"⟩, 15), (⟨"AyeJars$Choices", "weighSabotage", "(II)V"⟩, 15)]
theorem lw_r2 : ∀ q ∈ lw_privs_2, lw_okq q := List.forall_mem_cons.mpr ⟨lw_p16, List.forall_mem_cons.mpr ⟨lw_p17, List.forall_mem_cons.mpr ⟨lw_p18, List.forall_mem_cons.mpr ⟨lw_p19, List.forall_mem_cons.mpr ⟨lw_p20, List.forall_mem_cons.mpr ⟨lw_p21, List.forall_mem_cons.mpr ⟨lw_p22, List.forall_mem_cons.mpr ⟨lw_p23, List.forall_mem_cons.mpr ⟨lw_p24, List.forall_mem_cons.mpr ⟨lw_p25, List.forall_mem_cons.mpr ⟨lw_p26, List.forall_mem_cons.mpr ⟨lw_p27, List.forall_mem_cons.mpr ⟨lw_p28, List.forall_mem_cons.mpr ⟨lw_p29, List.forall_mem_cons.mpr ⟨lw_p30, List.forall_mem_cons.mpr ⟨lw_p31, fun _ h => absurd h List.not_mem_nil⟩⟩⟩⟩⟩⟩⟩⟩⟩⟩⟩⟩⟩⟩⟩⟩
theorem lw_p32 : lw_okq (⟨"AyeJars$Nose", "fadeStrangeJars", "()V"⟩, 10) := ⟨⟨by decide +kernel, by decide +kernel⟩, List.mem_of_getElem? (i := 378) (by decide +kernel), List.mem_of_getElem? (i := 1206) (by decide +kernel), List.mem_of_getElem? (i := 1207) (by decide +kernel)⟩
theorem lw_p33 : lw_okq (⟨"AyeJars$Nose", "agrees", "(II)Z"⟩, 10) := ⟨⟨by decide +kernel, by decide +kernel⟩, List.mem_of_getElem? (i := 378) (by decide +kernel), List.mem_of_getElem? (i := 1213) (by decide +kernel), List.mem_of_getElem? (i := 1214) (by decide +kernel)⟩
theorem lw_p34 : lw_okq (⟨"AyeJars", "isBox", "(I)Z"⟩, 14) := ⟨⟨by decide +kernel, by decide +kernel⟩, List.mem_of_getElem? (i := 24) (by decide +kernel), List.mem_of_getElem? (i := 1250) (by decide +kernel), List.mem_of_getElem? (i := 1251) (by decide +kernel)⟩
theorem lw_p35 : lw_okq (⟨"AyeJarsModel", "clearBank", "()V"⟩, 66) := ⟨⟨by decide +kernel, by decide +kernel⟩, List.mem_of_getElem? (i := 1275) (by decide +kernel), List.mem_of_getElem? (i := 1281) (by decide +kernel), List.mem_of_getElem? (i := 1282) (by decide +kernel)⟩
theorem lw_p36 : lw_okq (⟨"AyeJarsModel", "startAnew", "()V"⟩, 66) := ⟨⟨by decide +kernel, by decide +kernel⟩, List.mem_of_getElem? (i := 1275) (by decide +kernel), List.mem_of_getElem? (i := 1285) (by decide +kernel), List.mem_of_getElem? (i := 1286) (by decide +kernel)⟩
theorem lw_p37 : lw_okq (⟨"AyeJarsModel", "goOn", "()V"⟩, 66) := ⟨⟨by decide +kernel, by decide +kernel⟩, List.mem_of_getElem? (i := 1275) (by decide +kernel), List.mem_of_getElem? (i := 1492) (by decide +kernel), List.mem_of_getElem? (i := 1493) (by decide +kernel)⟩
theorem lw_p38 : lw_okq (⟨"AyeJarsModel", "sign", "(I)I"⟩, 66) := ⟨⟨by decide +kernel, by decide +kernel⟩, List.mem_of_getElem? (i := 1275) (by decide +kernel), List.mem_of_getElem? (i := 1496) (by decide +kernel), List.mem_of_getElem? (i := 1497) (by decide +kernel)⟩
theorem lw_p39 : lw_okq (⟨"AyeJarsModel", "isGood", "()Z"⟩, 66) := ⟨⟨by decide +kernel, by decide +kernel⟩, List.mem_of_getElem? (i := 1275) (by decide +kernel), List.mem_of_getElem? (i := 1530) (by decide +kernel), List.mem_of_getElem? (i := 1531) (by decide +kernel)⟩
theorem lw_p40 : lw_okq (⟨"AyeJarsModel", "readLine", "()V"⟩, 66) := ⟨⟨by decide +kernel, by decide +kernel⟩, List.mem_of_getElem? (i := 1275) (by decide +kernel), List.mem_of_getElem? (i := 1534) (by decide +kernel), List.mem_of_getElem? (i := 1535) (by decide +kernel)⟩
theorem lw_p41 : lw_okq (⟨"AyeJarsModel", "isFull", "()Z"⟩, 66) := ⟨⟨by decide +kernel, by decide +kernel⟩, List.mem_of_getElem? (i := 1275) (by decide +kernel), List.mem_of_getElem? (i := 1538) (by decide +kernel), List.mem_of_getElem? (i := 1539) (by decide +kernel)⟩
theorem lw_p42 : lw_okq (⟨"AyeJarsModel", "isWord", "(J)Z"⟩, 66) := ⟨⟨by decide +kernel, by decide +kernel⟩, List.mem_of_getElem? (i := 1275) (by decide +kernel), List.mem_of_getElem? (i := 1542) (by decide +kernel), List.mem_of_getElem? (i := 1543) (by decide +kernel)⟩
theorem lw_p43 : lw_okq (⟨"AyeJarsModel", "misplaced", "()V"⟩, 66) := ⟨⟨by decide +kernel, by decide +kernel⟩, List.mem_of_getElem? (i := 1275) (by decide +kernel), List.mem_of_getElem? (i := 1546) (by decide +kernel), List.mem_of_getElem? (i := 1547) (by decide +kernel)⟩
theorem lw_p44 : lw_okq (⟨"AyeJarsModel", "fails", "(II)V"⟩, 66) := ⟨⟨by decide +kernel, by decide +kernel⟩, List.mem_of_getElem? (i := 1275) (by decide +kernel), List.mem_of_getElem? (i := 1550) (by decide +kernel), List.mem_of_getElem? (i := 1551) (by decide +kernel)⟩
theorem lw_p45 : lw_okq (⟨"AyeJarsModel", "readMember", "()V"⟩, 66) := ⟨⟨by decide +kernel, by decide +kernel⟩, List.mem_of_getElem? (i := 1275) (by decide +kernel), List.mem_of_getElem? (i := 1554) (by decide +kernel), List.mem_of_getElem? (i := 1555) (by decide +kernel)⟩
theorem lw_p46 : lw_okq (⟨"AyeJarsModel", "here", "([JII)I"⟩, 66) := ⟨⟨by decide +kernel, by decide +kernel⟩, List.mem_of_getElem? (i := 1275) (by decide +kernel), List.mem_of_getElem? (i := 1558) (by decide +kernel), List.mem_of_getElem? (i := 1559) (by decide +kernel)⟩
theorem lw_p47 : lw_okq (⟨"AyeJarsModel", "fresh", "(I)J"⟩, 66) := ⟨⟨by decide +kernel, by decide +kernel⟩, List.mem_of_getElem? (i := 1275) (by decide +kernel), List.mem_of_getElem? (i := 1562) (by decide +kernel), List.mem_of_getElem? (i := 1563) (by decide +kernel)⟩
def lw_privs_3 : List (MethodName × Nat) := [(⟨"AyeJars$Nose", "fadeStrangeJars", "()V"⟩, 10), (⟨"AyeJars$Nose", "agrees", "(II)Z"⟩, 10), (⟨"AyeJars", "isBox", "(I)Z"⟩, 14), (⟨"AyeJarsModel", "clearBank", "()V"⟩, 66), (⟨"AyeJarsModel", "startAnew", "()V"⟩, 66), (⟨"AyeJarsModel", "goOn", "()V"⟩, 66), (⟨"AyeJarsModel", "sign", "(I)I"⟩, 66), (⟨"AyeJarsModel", "isGood", "()Z"⟩, 66), (⟨"AyeJarsModel", "readLine", "()V"⟩, 66), (⟨"AyeJarsModel", "isFull", "()Z"⟩, 66), (⟨"AyeJarsModel", "isWord", "(J)Z"⟩, 66), (⟨"AyeJarsModel", "misplaced", "()V"⟩, 66), (⟨"AyeJarsModel", "fails", "(II)V"⟩, 66), (⟨"AyeJarsModel", "readMember", "()V"⟩, 66), (⟨"AyeJarsModel", "here", "([JII)I"⟩, 66), (⟨"AyeJarsModel", "fresh", "(I)J"⟩, 66)]
theorem lw_r3 : ∀ q ∈ lw_privs_3, lw_okq q := List.forall_mem_cons.mpr ⟨lw_p32, List.forall_mem_cons.mpr ⟨lw_p33, List.forall_mem_cons.mpr ⟨lw_p34, List.forall_mem_cons.mpr ⟨lw_p35, List.forall_mem_cons.mpr ⟨lw_p36, List.forall_mem_cons.mpr ⟨lw_p37, List.forall_mem_cons.mpr ⟨lw_p38, List.forall_mem_cons.mpr ⟨lw_p39, List.forall_mem_cons.mpr ⟨lw_p40, List.forall_mem_cons.mpr ⟨lw_p41, List.forall_mem_cons.mpr ⟨lw_p42, List.forall_mem_cons.mpr ⟨lw_p43, List.forall_mem_cons.mpr ⟨lw_p44, List.forall_mem_cons.mpr ⟨lw_p45, List.forall_mem_cons.mpr ⟨lw_p46, List.forall_mem_cons.mpr ⟨lw_p47, fun _ h => absurd h List.not_mem_nil⟩⟩⟩⟩⟩⟩⟩⟩⟩⟩⟩⟩⟩⟩⟩⟩
theorem lw_p48 : lw_okq (⟨"AyeJarsModel", "after", "(JII)I"⟩, 66) := ⟨⟨by decide +kernel, by decide +kernel⟩, List.mem_of_getElem? (i := 1275) (by decide +kernel), List.mem_of_getElem? (i := 1566) (by decide +kernel), List.mem_of_getElem? (i := 1567) (by decide +kernel)⟩
theorem lw_p49 : lw_okq (⟨"AyeJarsModel", "must", "(Z)V"⟩, 66) := ⟨⟨by decide +kernel, by decide +kernel⟩, List.mem_of_getElem? (i := 1275) (by decide +kernel), List.mem_of_getElem? (i := 1570) (by decide +kernel), List.mem_of_getElem? (i := 1571) (by decide +kernel)⟩
theorem lw_p50 : lw_okq (⟨"AyeJarsModel", "numeral", "(II)I"⟩, 66) := ⟨⟨by decide +kernel, by decide +kernel⟩, List.mem_of_getElem? (i := 1275) (by decide +kernel), List.mem_of_getElem? (i := 1574) (by decide +kernel), List.mem_of_getElem? (i := 1575) (by decide +kernel)⟩
theorem lw_p51 : lw_okq (⟨"AyeJarsModel", "perhaps", "(JI)I"⟩, 66) := ⟨⟨by decide +kernel, by decide +kernel⟩, List.mem_of_getElem? (i := 1275) (by decide +kernel), List.mem_of_getElem? (i := 1578) (by decide +kernel), List.mem_of_getElem? (i := 1579) (by decide +kernel)⟩
theorem lw_p52 : lw_okq (⟨"AyeJarsModel", "readBill", "()V"⟩, 66) := ⟨⟨by decide +kernel, by decide +kernel⟩, List.mem_of_getElem? (i := 1275) (by decide +kernel), List.mem_of_getElem? (i := 1582) (by decide +kernel), List.mem_of_getElem? (i := 1583) (by decide +kernel)⟩
theorem lw_p53 : lw_okq (⟨"AyeJarsModel", "readRule", "(I)V"⟩, 66) := ⟨⟨by decide +kernel, by decide +kernel⟩, List.mem_of_getElem? (i := 1275) (by decide +kernel), List.mem_of_getElem? (i := 1586) (by decide +kernel), List.mem_of_getElem? (i := 1587) (by decide +kernel)⟩
theorem lw_p54 : lw_okq (⟨"AyeJarsModel", "e", "()V"⟩, 66) := ⟨⟨by decide +kernel, by decide +kernel⟩, List.mem_of_getElem? (i := 1275) (by decide +kernel), List.mem_of_getElem? (i := 1590) (by decide +kernel), List.mem_of_getElem? (i := 1591) (by decide +kernel)⟩
theorem lw_p55 : lw_okq (⟨"AyeJarsModel", "pushE", "(II)V"⟩, 66) := ⟨⟨by decide +kernel, by decide +kernel⟩, List.mem_of_getElem? (i := 1275) (by decide +kernel), List.mem_of_getElem? (i := 1594) (by decide +kernel), List.mem_of_getElem? (i := 1595) (by decide +kernel)⟩
theorem lw_p56 : lw_okq (⟨"AyeJarsModel", "unit", "()Z"⟩, 66) := ⟨⟨by decide +kernel, by decide +kernel⟩, List.mem_of_getElem? (i := 1275) (by decide +kernel), List.mem_of_getElem? (i := 1598) (by decide +kernel), List.mem_of_getElem? (i := 1599) (by decide +kernel)⟩
theorem lw_p57 : lw_okq (⟨"AyeJarsModel", "isSignHere", "(I)Z"⟩, 66) := ⟨⟨by decide +kernel, by decide +kernel⟩, List.mem_of_getElem? (i := 1275) (by decide +kernel), List.mem_of_getElem? (i := 1602) (by decide +kernel), List.mem_of_getElem? (i := 1603) (by decide +kernel)⟩
theorem lw_p58 : lw_okq (⟨"AyeJarsModel", "wordHere", "()I"⟩, 66) := ⟨⟨by decide +kernel, by decide +kernel⟩, List.mem_of_getElem? (i := 1275) (by decide +kernel), List.mem_of_getElem? (i := 1606) (by decide +kernel), List.mem_of_getElem? (i := 1607) (by decide +kernel)⟩
theorem lw_p59 : lw_okq (⟨"AyeJarsModel", "emit", "(II)V"⟩, 66) := ⟨⟨by decide +kernel, by decide +kernel⟩, List.mem_of_getElem? (i := 1275) (by decide +kernel), List.mem_of_getElem? (i := 1610) (by decide +kernel), List.mem_of_getElem? (i := 1611) (by decide +kernel)⟩
theorem lw_p60 : lw_okq (⟨"AyeJarsModel", "behindUnit", "()Z"⟩, 66) := ⟨⟨by decide +kernel, by decide +kernel⟩, List.mem_of_getElem? (i := 1275) (by decide +kernel), List.mem_of_getElem? (i := 1614) (by decide +kernel), List.mem_of_getElem? (i := 1615) (by decide +kernel)⟩
theorem lw_p61 : lw_okq (⟨"AyeJarsModel", "rankHere", "()I"⟩, 66) := ⟨⟨by decide +kernel, by decide +kernel⟩, List.mem_of_getElem? (i := 1275) (by decide +kernel), List.mem_of_getElem? (i := 1618) (by decide +kernel), List.mem_of_getElem? (i := 1619) (by decide +kernel)⟩
theorem lw_p62 : lw_okq (⟨"AyeJarsModel", "isCompared", "()Z"⟩, 66) := ⟨⟨by decide +kernel, by decide +kernel⟩, List.mem_of_getElem? (i := 1275) (by decide +kernel), List.mem_of_getElem? (i := 1622) (by decide +kernel), List.mem_of_getElem? (i := 1623) (by decide +kernel)⟩
theorem lw_p63 : lw_okq (⟨"AyeJarsModel", "isMember", "(I)Z"⟩, 66) := ⟨⟨by decide +kernel, by decide +kernel⟩, List.mem_of_getElem? (i := 1275) (by decide +kernel), List.mem_of_getElem? (i := 1634) (by decide +kernel), List.mem_of_getElem? (i := 1635) (by decide +kernel)⟩
def lw_privs_4 : List (MethodName × Nat) := [(⟨"AyeJarsModel", "after", "(JII)I"⟩, 66), (⟨"AyeJarsModel", "must", "(Z)V"⟩, 66), (⟨"AyeJarsModel", "numeral", "(II)I"⟩, 66), (⟨"AyeJarsModel", "perhaps", "(JI)I"⟩, 66), (⟨"AyeJarsModel", "readBill", "()V"⟩, 66), (⟨"AyeJarsModel", "readRule", "(I)V"⟩, 66), (⟨"AyeJarsModel", "e", "()V"⟩, 66), (⟨"AyeJarsModel", "pushE", "(II)V"⟩, 66), (⟨"AyeJarsModel", "unit", "()Z"⟩, 66), (⟨"AyeJarsModel", "isSignHere", "(I)Z"⟩, 66), (⟨"AyeJarsModel", "wordHere", "()I"⟩, 66), (⟨"AyeJarsModel", "emit", "(II)V"⟩, 66), (⟨"AyeJarsModel", "behindUnit", "()Z"⟩, 66), (⟨"AyeJarsModel", "rankHere", "()I"⟩, 66), (⟨"AyeJarsModel", "isCompared", "()Z"⟩, 66), (⟨"AyeJarsModel", "isMember", "(I)Z"⟩, 66)]
theorem lw_r4 : ∀ q ∈ lw_privs_4, lw_okq q := List.forall_mem_cons.mpr ⟨lw_p48, List.forall_mem_cons.mpr ⟨lw_p49, List.forall_mem_cons.mpr ⟨lw_p50, List.forall_mem_cons.mpr ⟨lw_p51, List.forall_mem_cons.mpr ⟨lw_p52, List.forall_mem_cons.mpr ⟨lw_p53, List.forall_mem_cons.mpr ⟨lw_p54, List.forall_mem_cons.mpr ⟨lw_p55, List.forall_mem_cons.mpr ⟨lw_p56, List.forall_mem_cons.mpr ⟨lw_p57, List.forall_mem_cons.mpr ⟨lw_p58, List.forall_mem_cons.mpr ⟨lw_p59, List.forall_mem_cons.mpr ⟨lw_p60, List.forall_mem_cons.mpr ⟨lw_p61, List.forall_mem_cons.mpr ⟨lw_p62, List.forall_mem_cons.mpr ⟨lw_p63, fun _ h => absurd h List.not_mem_nil⟩⟩⟩⟩⟩⟩⟩⟩⟩⟩⟩⟩⟩⟩⟩⟩
theorem lw_p64 : lw_okq (⟨"AyeJarsModel", "many", "()I"⟩, 66) := ⟨⟨by decide +kernel, by decide +kernel⟩, List.mem_of_getElem? (i := 1275) (by decide +kernel), List.mem_of_getElem? (i := 1638) (by decide +kernel), List.mem_of_getElem? (i := 1639) (by decide +kernel)⟩
theorem lw_p65 : lw_okq (⟨"AyeJarsModel", "mayVoteFor", "(I)I"⟩, 66) := ⟨⟨by decide +kernel, by decide +kernel⟩, List.mem_of_getElem? (i := 1275) (by decide +kernel), List.mem_of_getElem? (i := 1648) (by decide +kernel), List.mem_of_getElem? (i := 1649) (by decide +kernel)⟩
theorem lw_p66 : lw_okq (⟨"AyeJarsModel", "mayVote", "(II)Z"⟩, 66) := ⟨⟨by decide +kernel, by decide +kernel⟩, List.mem_of_getElem? (i := 1275) (by decide +kernel), List.mem_of_getElem? (i := 1652) (by decide +kernel), List.mem_of_getElem? (i := 1653) (by decide +kernel)⟩
theorem lw_p67 : lw_okq (⟨"AyeJarsModel", "isLeft", "(I)Z"⟩, 66) := ⟨⟨by decide +kernel, by decide +kernel⟩, List.mem_of_getElem? (i := 1275) (by decide +kernel), List.mem_of_getElem? (i := 1656) (by decide +kernel), List.mem_of_getElem? (i := 1657) (by decide +kernel)⟩
theorem lw_p68 : lw_okq (⟨"AyeJarsModel", "isBill", "(I)Z"⟩, 66) := ⟨⟨by decide +kernel, by decide +kernel⟩, List.mem_of_getElem? (i := 1275) (by decide +kernel), List.mem_of_getElem? (i := 1660) (by decide +kernel), List.mem_of_getElem? (i := 1661) (by decide +kernel)⟩
theorem lw_p69 : lw_okq (⟨"AyeJarsModel", "breathedInto", "(I)I"⟩, 66) := ⟨⟨by decide +kernel, by decide +kernel⟩, List.mem_of_getElem? (i := 1275) (by decide +kernel), List.mem_of_getElem? (i := 1664) (by decide +kernel), List.mem_of_getElem? (i := 1665) (by decide +kernel)⟩
theorem lw_p70 : lw_okq (⟨"AyeJarsModel", "needOf", "(I)I"⟩, 66) := ⟨⟨by decide +kernel, by decide +kernel⟩, List.mem_of_getElem? (i := 1275) (by decide +kernel), List.mem_of_getElem? (i := 1672) (by decide +kernel), List.mem_of_getElem? (i := 1673) (by decide +kernel)⟩
theorem lw_p71 : lw_okq (⟨"AyeJarsModel", "dayOf", "(I)I"⟩, 66) := ⟨⟨by decide +kernel, by decide +kernel⟩, List.mem_of_getElem? (i := 1275) (by decide +kernel), List.mem_of_getElem? (i := 1676) (by decide +kernel), List.mem_of_getElem? (i := 1677) (by decide +kernel)⟩
theorem lw_p72 : lw_okq (⟨"AyeJarsModel", "lossOf", "(I)I"⟩, 66) := ⟨⟨by decide +kernel, by decide +kernel⟩, List.mem_of_getElem? (i := 1275) (by decide +kernel), List.mem_of_getElem? (i := 1680) (by decide +kernel), List.mem_of_getElem? (i := 1681) (by decide +kernel)⟩
theorem lw_p73 : lw_okq (⟨"AyeJarsModel", "sumOf", "([II)I"⟩, 66) := ⟨⟨by decide +kernel, by decide +kernel⟩, List.mem_of_getElem? (i := 1275) (by decide +kernel), List.mem_of_getElem? (i := 1684) (by decide +kernel), List.mem_of_getElem? (i := 1685) (by decide +kernel)⟩
theorem lw_p74 : lw_okq (⟨"AyeJarsModel", "fadesNow", "(I)I"⟩, 66) := ⟨⟨by decide +kernel, by decide +kernel⟩, List.mem_of_getElem? (i := 1275) (by decide +kernel), List.mem_of_getElem? (i := 1688) (by decide +kernel), List.mem_of_getElem? (i := 1689) (by decide +kernel)⟩
theorem lw_p75 : lw_okq (⟨"AyeJarsModel", "layAside", "(I)V"⟩, 66) := ⟨⟨by decide +kernel, by decide +kernel⟩, List.mem_of_getElem? (i := 1275) (by decide +kernel), List.mem_of_getElem? (i := 1692) (by decide +kernel), List.mem_of_getElem? (i := 1693) (by decide +kernel)⟩
theorem lw_p76 : lw_okq (⟨"AyeJarsModel", "fades", "()I"⟩, 66) := ⟨⟨by decide +kernel, by decide +kernel⟩, List.mem_of_getElem? (i := 1275) (by decide +kernel), List.mem_of_getElem? (i := 1696) (by decide +kernel), List.mem_of_getElem? (i := 1697) (by decide +kernel)⟩
theorem lw_p77 : lw_okq (⟨"AyeJarsModel", "comes", "()I"⟩, 66) := ⟨⟨by decide +kernel, by decide +kernel⟩, List.mem_of_getElem? (i := 1275) (by decide +kernel), List.mem_of_getElem? (i := 1700) (by decide +kernel), List.mem_of_getElem? (i := 1701) (by decide +kernel)⟩
theorem lw_p78 : lw_okq (⟨"AyeJarsModel", "asked", "(II)I"⟩, 66) := ⟨⟨by decide +kernel, by decide +kernel⟩, List.mem_of_getElem? (i := 1275) (by decide +kernel), List.mem_of_getElem? (i := 1704) (by decide +kernel), List.mem_of_getElem? (i := 1705) (by decide +kernel)⟩
theorem lw_p79 : lw_okq (⟨"AyeJarsModel", "wouldPass", "(I)Z"⟩, 66) := ⟨⟨by decide +kernel, by decide +kernel⟩, List.mem_of_getElem? (i := 1275) (by decide +kernel), List.mem_of_getElem? (i := 1714) (by decide +kernel), List.mem_of_getElem? (i := 1715) (by decide +kernel)⟩
def lw_privs_5 : List (MethodName × Nat) := [(⟨"AyeJarsModel", "many", "()I"⟩, 66), (⟨"AyeJarsModel", "mayVoteFor", "(I)I"⟩, 66), (⟨"AyeJarsModel", "mayVote", "(II)Z"⟩, 66), (⟨"AyeJarsModel", "isLeft", "(I)Z"⟩, 66), (⟨"AyeJarsModel", "isBill", "(I)Z"⟩, 66), (⟨"AyeJarsModel", "breathedInto", "(I)I"⟩, 66), (⟨"AyeJarsModel", "needOf", "(I)I"⟩, 66), (⟨"AyeJarsModel", "dayOf", "(I)I"⟩, 66), (⟨"AyeJarsModel", "lossOf", "(I)I"⟩, 66), (⟨"AyeJarsModel", "sumOf", "([II)I"⟩, 66), (⟨"AyeJarsModel", "fadesNow", "(I)I"⟩, 66), (⟨"AyeJarsModel", "layAside", "(I)V"⟩, 66), (⟨"AyeJarsModel", "fades", "()I"⟩, 66), (⟨"AyeJarsModel", "comes", "()I"⟩, 66), (⟨"AyeJarsModel", "asked", "(II)I"⟩, 66), (⟨"AyeJarsModel", "wouldPass", "(I)Z"⟩, 66)]
theorem lw_r5 : ∀ q ∈ lw_privs_5, lw_okq q := List.forall_mem_cons.mpr ⟨lw_p64, List.forall_mem_cons.mpr ⟨lw_p65, List.forall_mem_cons.mpr ⟨lw_p66, List.forall_mem_cons.mpr ⟨lw_p67, List.forall_mem_cons.mpr ⟨lw_p68, List.forall_mem_cons.mpr ⟨lw_p69, List.forall_mem_cons.mpr ⟨lw_p70, List.forall_mem_cons.mpr ⟨lw_p71, List.forall_mem_cons.mpr ⟨lw_p72, List.forall_mem_cons.mpr ⟨lw_p73, List.forall_mem_cons.mpr ⟨lw_p74, List.forall_mem_cons.mpr ⟨lw_p75, List.forall_mem_cons.mpr ⟨lw_p76, List.forall_mem_cons.mpr ⟨lw_p77, List.forall_mem_cons.mpr ⟨lw_p78, List.forall_mem_cons.mpr ⟨lw_p79, fun _ h => absurd h List.not_mem_nil⟩⟩⟩⟩⟩⟩⟩⟩⟩⟩⟩⟩⟩⟩⟩⟩
theorem lw_p80 : lw_okq (⟨"AyeJarsModel", "openedAt", "(I)I"⟩, 66) := ⟨⟨by decide +kernel, by decide +kernel⟩, List.mem_of_getElem? (i := 1275) (by decide +kernel), List.mem_of_getElem? (i := 1718) (by decide +kernel), List.mem_of_getElem? (i := 1719) (by decide +kernel)⟩
theorem lw_p81 : lw_okq (⟨"AyeJarsModel", "onDay", "(I)I"⟩, 66) := ⟨⟨by decide +kernel, by decide +kernel⟩, List.mem_of_getElem? (i := 1275) (by decide +kernel), List.mem_of_getElem? (i := 1722) (by decide +kernel), List.mem_of_getElem? (i := 1723) (by decide +kernel)⟩
theorem lw_p82 : lw_okq (⟨"AyeJarsModel", "leave", "(I)V"⟩, 66) := ⟨⟨by decide +kernel, by decide +kernel⟩, List.mem_of_getElem? (i := 1275) (by decide +kernel), List.mem_of_getElem? (i := 1726) (by decide +kernel), List.mem_of_getElem? (i := 1727) (by decide +kernel)⟩
theorem lw_p83 : lw_okq (⟨"AyeJarsModel", "keepAct", "()V"⟩, 66) := ⟨⟨by decide +kernel, by decide +kernel⟩, List.mem_of_getElem? (i := 1275) (by decide +kernel), List.mem_of_getElem? (i := 1746) (by decide +kernel), List.mem_of_getElem? (i := 1747) (by decide +kernel)⟩
theorem lw_p84 : lw_okq (⟨"AyeJarsModel", "canShake", "(I)Z"⟩, 66) := ⟨⟨by decide +kernel, by decide +kernel⟩, List.mem_of_getElem? (i := 1275) (by decide +kernel), List.mem_of_getElem? (i := 1754) (by decide +kernel), List.mem_of_getElem? (i := 1755) (by decide +kernel)⟩
theorem lw_p85 : lw_okq (⟨"AyeJarsModel", "isEmpty", "(I)Z"⟩, 66) := ⟨⟨by decide +kernel, by decide +kernel⟩, List.mem_of_getElem? (i := 1275) (by decide +kernel), List.mem_of_getElem? (i := 1758) (by decide +kernel), List.mem_of_getElem? (i := 1759) (by decide +kernel)⟩
theorem lw_p86 : lw_okq (⟨"AyeJarsModel", "canJoin", "(II)Z"⟩, 66) := ⟨⟨by decide +kernel, by decide +kernel⟩, List.mem_of_getElem? (i := 1275) (by decide +kernel), List.mem_of_getElem? (i := 1770) (by decide +kernel), List.mem_of_getElem? (i := 1771) (by decide +kernel)⟩
theorem lw_p87 : lw_okq (⟨"AyeJarsModel", "joinBoth", "(II)V"⟩, 66) := ⟨⟨by decide +kernel, by decide +kernel⟩, List.mem_of_getElem? (i := 1275) (by decide +kernel), List.mem_of_getElem? (i := 1774) (by decide +kernel), List.mem_of_getElem? (i := 1775) (by decide +kernel)⟩
theorem lw_p88 : lw_okq (⟨"AyeJarsModel", "goDay", "()I"⟩, 66) := ⟨⟨by decide +kernel, by decide +kernel⟩, List.mem_of_getElem? (i := 1275) (by decide +kernel), List.mem_of_getElem? (i := 1782) (by decide +kernel), List.mem_of_getElem? (i := 1783) (by decide +kernel)⟩
theorem lw_p89 : lw_okq (⟨"AyeJarsModel", "exchange", "()V"⟩, 66) := ⟨⟨by decide +kernel, by decide +kernel⟩, List.mem_of_getElem? (i := 1275) (by decide +kernel), List.mem_of_getElem? (i := 1790) (by decide +kernel), List.mem_of_getElem? (i := 1791) (by decide +kernel)⟩
theorem lw_p90 : lw_okq (⟨"AyeJarsModel", "openedWith", "(II)I"⟩, 66) := ⟨⟨by decide +kernel, by decide +kernel⟩, List.mem_of_getElem? (i := 1275) (by decide +kernel), List.mem_of_getElem? (i := 1813) (by decide +kernel), List.mem_of_getElem? (i := 1814) (by decide +kernel)⟩
theorem lw_p91 : lw_okq (⟨"AyeJarsModel", "breathe", "(I)V"⟩, 66) := ⟨⟨by decide +kernel, by decide +kernel⟩, List.mem_of_getElem? (i := 1275) (by decide +kernel), List.mem_of_getElem? (i := 1817) (by decide +kernel), List.mem_of_getElem? (i := 1818) (by decide +kernel)⟩
theorem lw_p92 : lw_okq (⟨"AyeJarsModel", "openedLater", "(III)I"⟩, 66) := ⟨⟨by decide +kernel, by decide +kernel⟩, List.mem_of_getElem? (i := 1275) (by decide +kernel), List.mem_of_getElem? (i := 1825) (by decide +kernel), List.mem_of_getElem? (i := 1826) (by decide +kernel)⟩
theorem lw_p93 : lw_okq (⟨"AyeJarsModel", "isSet", "(I)Z"⟩, 66) := ⟨⟨by decide +kernel, by decide +kernel⟩, List.mem_of_getElem? (i := 1275) (by decide +kernel), List.mem_of_getElem? (i := 1833) (by decide +kernel), List.mem_of_getElem? (i := 1834) (by decide +kernel)⟩
theorem lw_p94 : lw_okq (⟨"AyeJarsModel", "openedShaken", "(II)I"⟩, 66) := ⟨⟨by decide +kernel, by decide +kernel⟩, List.mem_of_getElem? (i := 1275) (by decide +kernel), List.mem_of_getElem? (i := 1845) (by decide +kernel), List.mem_of_getElem? (i := 1846) (by decide +kernel)⟩
theorem lw_p95 : lw_okq (⟨"AyeJarsModel", "joined", "(II)I"⟩, 66) := ⟨⟨by decide +kernel, by decide +kernel⟩, List.mem_of_getElem? (i := 1275) (by decide +kernel), List.mem_of_getElem? (i := 1857) (by decide +kernel), List.mem_of_getElem? (i := 1858) (by decide +kernel)⟩
def lw_privs_6 : List (MethodName × Nat) := [(⟨"AyeJarsModel", "openedAt", "(I)I"⟩, 66), (⟨"AyeJarsModel", "onDay", "(I)I"⟩, 66), (⟨"AyeJarsModel", "leave", "(I)V"⟩, 66), (⟨"AyeJarsModel", "keepAct", "()V"⟩, 66), (⟨"AyeJarsModel", "canShake", "(I)Z"⟩, 66), (⟨"AyeJarsModel", "isEmpty", "(I)Z"⟩, 66), (⟨"AyeJarsModel", "canJoin", "(II)Z"⟩, 66), (⟨"AyeJarsModel", "joinBoth", "(II)V"⟩, 66), (⟨"AyeJarsModel", "goDay", "()I"⟩, 66), (⟨"AyeJarsModel", "exchange", "()V"⟩, 66), (⟨"AyeJarsModel", "openedWith", "(II)I"⟩, 66), (⟨"AyeJarsModel", "breathe", "(I)V"⟩, 66), (⟨"AyeJarsModel", "openedLater", "(III)I"⟩, 66), (⟨"AyeJarsModel", "isSet", "(I)Z"⟩, 66), (⟨"AyeJarsModel", "openedShaken", "(II)I"⟩, 66), (⟨"AyeJarsModel", "joined", "(II)I"⟩, 66)]
theorem lw_r6 : ∀ q ∈ lw_privs_6, lw_okq q := List.forall_mem_cons.mpr ⟨lw_p80, List.forall_mem_cons.mpr ⟨lw_p81, List.forall_mem_cons.mpr ⟨lw_p82, List.forall_mem_cons.mpr ⟨lw_p83, List.forall_mem_cons.mpr ⟨lw_p84, List.forall_mem_cons.mpr ⟨lw_p85, List.forall_mem_cons.mpr ⟨lw_p86, List.forall_mem_cons.mpr ⟨lw_p87, List.forall_mem_cons.mpr ⟨lw_p88, List.forall_mem_cons.mpr ⟨lw_p89, List.forall_mem_cons.mpr ⟨lw_p90, List.forall_mem_cons.mpr ⟨lw_p91, List.forall_mem_cons.mpr ⟨lw_p92, List.forall_mem_cons.mpr ⟨lw_p93, List.forall_mem_cons.mpr ⟨lw_p94, List.forall_mem_cons.mpr ⟨lw_p95, fun _ h => absurd h List.not_mem_nil⟩⟩⟩⟩⟩⟩⟩⟩⟩⟩⟩⟩⟩⟩⟩⟩
theorem lw_p96 : lw_okq (⟨"AyeJarsModel", "keepNow", "()V"⟩, 66) := ⟨⟨by decide +kernel, by decide +kernel⟩, List.mem_of_getElem? (i := 1275) (by decide +kernel), List.mem_of_getElem? (i := 1861) (by decide +kernel), List.mem_of_getElem? (i := 1862) (by decide +kernel)⟩
theorem lw_p97 : lw_okq (⟨"AyeJarsModel", "bringBack", "()V"⟩, 66) := ⟨⟨by decide +kernel, by decide +kernel⟩, List.mem_of_getElem? (i := 1275) (by decide +kernel), List.mem_of_getElem? (i := 1865) (by decide +kernel), List.mem_of_getElem? (i := 1866) (by decide +kernel)⟩
theorem lw_p98 : lw_okq (⟨"AyeJarsModel", "layFresh", "(I)V"⟩, 66) := ⟨⟨by decide +kernel, by decide +kernel⟩, List.mem_of_getElem? (i := 1275) (by decide +kernel), List.mem_of_getElem? (i := 1881) (by decide +kernel), List.mem_of_getElem? (i := 1882) (by decide +kernel)⟩
theorem lw_p99 : lw_okq (⟨"AyeJarsModel", "layChoice", "(I)I"⟩, 66) := ⟨⟨by decide +kernel, by decide +kernel⟩, List.mem_of_getElem? (i := 1275) (by decide +kernel), List.mem_of_getElem? (i := 1896) (by decide +kernel), List.mem_of_getElem? (i := 1897) (by decide +kernel)⟩
theorem lw_p100 : lw_okq (⟨"AyeJarsModel", "passedByChoice", "()I"⟩, 66) := ⟨⟨by decide +kernel, by decide +kernel⟩, List.mem_of_getElem? (i := 1275) (by decide +kernel), List.mem_of_getElem? (i := 1900) (by decide +kernel), List.mem_of_getElem? (i := 1901) (by decide +kernel)⟩
theorem lw_p101 : lw_okq (⟨"AyeJarsModel", "passesAlone", "(II)Z"⟩, 66) := ⟨⟨by decide +kernel, by decide +kernel⟩, List.mem_of_getElem? (i := 1275) (by decide +kernel), List.mem_of_getElem? (i := 1908) (by decide +kernel), List.mem_of_getElem? (i := 1909) (by decide +kernel)⟩
theorem lw_p102 : lw_okq (⟨"AyeJarsModel", "mayAll", "(III)Z"⟩, 66) := ⟨⟨by decide +kernel, by decide +kernel⟩, List.mem_of_getElem? (i := 1275) (by decide +kernel), List.mem_of_getElem? (i := 1922) (by decide +kernel), List.mem_of_getElem? (i := 1923) (by decide +kernel)⟩
theorem lw_p103 : lw_okq (⟨"AyeJarsModel", "overParts", "(IIZ)I"⟩, 66) := ⟨⟨by decide +kernel, by decide +kernel⟩, List.mem_of_getElem? (i := 1275) (by decide +kernel), List.mem_of_getElem? (i := 1926) (by decide +kernel), List.mem_of_getElem? (i := 1927) (by decide +kernel)⟩
theorem lw_p104 : lw_okq (⟨"AyeJarsModel", "weightOf", "(II)I"⟩, 66) := ⟨⟨by decide +kernel, by decide +kernel⟩, List.mem_of_getElem? (i := 1275) (by decide +kernel), List.mem_of_getElem? (i := 1930) (by decide +kernel), List.mem_of_getElem? (i := 1931) (by decide +kernel)⟩
theorem lw_p105 : lw_okq (⟨"AyeJarsModel", "partOf", "(III)I"⟩, 66) := ⟨⟨by decide +kernel, by decide +kernel⟩, List.mem_of_getElem? (i := 1275) (by decide +kernel), List.mem_of_getElem? (i := 1934) (by decide +kernel), List.mem_of_getElem? (i := 1935) (by decide +kernel)⟩
theorem lw_p106 : lw_okq (⟨"AyeJarsModel", "layQueue", "(II)Z"⟩, 66) := ⟨⟨by decide +kernel, by decide +kernel⟩, List.mem_of_getElem? (i := 1275) (by decide +kernel), List.mem_of_getElem? (i := 1946) (by decide +kernel), List.mem_of_getElem? (i := 1947) (by decide +kernel)⟩
theorem lw_p107 : lw_okq (⟨"AyeJarsModel", "openedByQueue", "(I)I"⟩, 66) := ⟨⟨by decide +kernel, by decide +kernel⟩, List.mem_of_getElem? (i := 1275) (by decide +kernel), List.mem_of_getElem? (i := 1950) (by decide +kernel), List.mem_of_getElem? (i := 1951) (by decide +kernel)⟩
theorem lw_p108 : lw_okq (⟨"AyeJarsModel", "shakeAll", "(II)I"⟩, 66) := ⟨⟨by decide +kernel, by decide +kernel⟩, List.mem_of_getElem? (i := 1275) (by decide +kernel), List.mem_of_getElem? (i := 1958) (by decide +kernel), List.mem_of_getElem? (i := 1959) (by decide +kernel)⟩
theorem lw_p109 : lw_okq (⟨"AyeJarsModel", "forced", "()I"⟩, 66) := ⟨⟨by decide +kernel, by decide +kernel⟩, List.mem_of_getElem? (i := 1275) (by decide +kernel), List.mem_of_getElem? (i := 1962) (by decide +kernel), List.mem_of_getElem? (i := 1963) (by decide +kernel)⟩
theorem lw_p110 : lw_okq (⟨"AyeJarsModel", "layFits", "(I)V"⟩, 66) := ⟨⟨by decide +kernel, by decide +kernel⟩, List.mem_of_getElem? (i := 1275) (by decide +kernel), List.mem_of_getElem? (i := 1983) (by decide +kernel), List.mem_of_getElem? (i := 1984) (by decide +kernel)⟩
theorem lw_p111 : lw_okq (⟨"AyeJarsModel", "doesFit", "(II)Z"⟩, 66) := ⟨⟨by decide +kernel, by decide +kernel⟩, List.mem_of_getElem? (i := 1275) (by decide +kernel), List.mem_of_getElem? (i := 1987) (by decide +kernel), List.mem_of_getElem? (i := 1988) (by decide +kernel)⟩
def lw_privs_7 : List (MethodName × Nat) := [(⟨"AyeJarsModel", "keepNow", "()V"⟩, 66), (⟨"AyeJarsModel", "bringBack", "()V"⟩, 66), (⟨"AyeJarsModel", "layFresh", "(I)V"⟩, 66), (⟨"AyeJarsModel", "layChoice", "(I)I"⟩, 66), (⟨"AyeJarsModel", "passedByChoice", "()I"⟩, 66), (⟨"AyeJarsModel", "passesAlone", "(II)Z"⟩, 66), (⟨"AyeJarsModel", "mayAll", "(III)Z"⟩, 66), (⟨"AyeJarsModel", "overParts", "(IIZ)I"⟩, 66), (⟨"AyeJarsModel", "weightOf", "(II)I"⟩, 66), (⟨"AyeJarsModel", "partOf", "(III)I"⟩, 66), (⟨"AyeJarsModel", "layQueue", "(II)Z"⟩, 66), (⟨"AyeJarsModel", "openedByQueue", "(I)I"⟩, 66), (⟨"AyeJarsModel", "shakeAll", "(II)I"⟩, 66), (⟨"AyeJarsModel", "forced", "()I"⟩, 66), (⟨"AyeJarsModel", "layFits", "(I)V"⟩, 66), (⟨"AyeJarsModel", "doesFit", "(II)Z"⟩, 66)]
theorem lw_r7 : ∀ q ∈ lw_privs_7, lw_okq q := List.forall_mem_cons.mpr ⟨lw_p96, List.forall_mem_cons.mpr ⟨lw_p97, List.forall_mem_cons.mpr ⟨lw_p98, List.forall_mem_cons.mpr ⟨lw_p99, List.forall_mem_cons.mpr ⟨lw_p100, List.forall_mem_cons.mpr ⟨lw_p101, List.forall_mem_cons.mpr ⟨lw_p102, List.forall_mem_cons.mpr ⟨lw_p103, List.forall_mem_cons.mpr ⟨lw_p104, List.forall_mem_cons.mpr ⟨lw_p105, List.forall_mem_cons.mpr ⟨lw_p106, List.forall_mem_cons.mpr ⟨lw_p107, List.forall_mem_cons.mpr ⟨lw_p108, List.forall_mem_cons.mpr ⟨lw_p109, List.forall_mem_cons.mpr ⟨lw_p110, List.forall_mem_cons.mpr ⟨lw_p111, fun _ h => absurd h List.not_mem_nil⟩⟩⟩⟩⟩⟩⟩⟩⟩⟩⟩⟩⟩⟩⟩⟩
theorem lw_p112 : lw_okq (⟨"AyeJarsModel", "thoseThat", "(I)I"⟩, 66) := ⟨⟨by decide +kernel, by decide +kernel⟩, List.mem_of_getElem? (i := 1275) (by decide +kernel), List.mem_of_getElem? (i := 2011) (by decide +kernel), List.mem_of_getElem? (i := 2012) (by decide +kernel)⟩
def lw_privs_8 : List (MethodName × Nat) := [(⟨"AyeJarsModel", "thoseThat", "(I)I"⟩, 66)]
theorem lw_r8 : ∀ q ∈ lw_privs_8, lw_okq q := List.forall_mem_cons.mpr ⟨lw_p112, fun _ h => absurd h List.not_mem_nil⟩
def lw_privs : List (MethodName × Nat) := lw_privs_1 ++ (lw_privs_2 ++ (lw_privs_3 ++ (lw_privs_4 ++ (lw_privs_5 ++ (lw_privs_6 ++ (lw_privs_7 ++ (lw_privs_8)))))))
def lw_tbl : List Cond := k2_sels lw_privs ++ tables_1
theorem lw_privs_ok : ∀ q ∈ lw_privs, lw_okq q := by
  show ∀ q ∈ lw_privs_1 ++ (lw_privs_2 ++ (lw_privs_3 ++ (lw_privs_4 ++ (lw_privs_5 ++ (lw_privs_6 ++ (lw_privs_7 ++ (lw_privs_8))))))), lw_okq q
  exact List.forall_mem_append.mpr ⟨lw_r1, List.forall_mem_append.mpr ⟨lw_r2, List.forall_mem_append.mpr ⟨lw_r3, List.forall_mem_append.mpr ⟨lw_r4, List.forall_mem_append.mpr ⟨lw_r5, List.forall_mem_append.mpr ⟨lw_r6, List.forall_mem_append.mpr ⟨lw_r7, lw_r8⟩⟩⟩⟩⟩⟩⟩
end
section
def RX0 : String := "AyeJars$Acts"
def TX0 : u_T := fun k => match k with
  | 0 => ("AyeJars$Acts", "ring", "[LAyeJars$Jars;", true)
  | 1 => ("AyeJars$Acts", "first", "I", false)
  | 2 => ("AyeJars$Acts", "done", "I", false)
  | _ => ("AyeJars$Acts", "known", "I", false)
def tyX0 : Nat → FieldType := fun k => match k with
  | 0 => .array (.object "AyeJars$Jars")
  | 1 => .int
  | 2 => .int
  | _ => .int
theorem nmX0 : ∀ a, a < 4 → ∀ b, b < 4 → a ≠ b → (TX0 a).2.1 ≠ (TX0 b).2.1 := by decide +kernel
theorem tyX0_ok : ∀ k, k < 4 → parseFieldDescriptor (TX0 k).2.2.1 = some (tyX0 k) := by decide +kernel
def RX1 : String := "AyeJars$Ahead"
def TX1 : u_T := fun k => match k with
  | 0 => ("AyeJars$Ahead", "house", "LAyeJars$House;", true)
  | 1 => ("AyeJars$Ahead", "jars", "LAyeJars$Jars;", true)
  | _ => ("AyeJars$Ahead", "trial", "LAyeJars$Trial;", true)
def tyX1 : Nat → FieldType := fun k => match k with
  | 0 => .object "AyeJars$House"
  | 1 => .object "AyeJars$Jars"
  | _ => .object "AyeJars$Trial"
theorem nmX1 : ∀ a, a < 3 → ∀ b, b < 3 → a ≠ b → (TX1 a).2.1 ≠ (TX1 b).2.1 := by decide +kernel
theorem tyX1_ok : ∀ k, k < 3 → parseFieldDescriptor (TX1 k).2.2.1 = some (tyX1 k) := by decide +kernel
def RX2 : String := "AyeJars$Chances"
def TX2 : u_T := fun k => match k with
  | 0 => ("AyeJars$Chances", "house", "LAyeJars$House;", true)
  | 1 => ("AyeJars$Chances", "jars", "LAyeJars$Jars;", true)
  | 2 => ("AyeJars$Chances", "trial", "LAyeJars$Trial;", true)
  | 3 => ("AyeJars$Chances", "ahead", "LAyeJars$Ahead;", true)
  | 4 => ("AyeJars$Chances", "upper", "J", false)
  | _ => ("AyeJars$Chances", "lower", "J", false)
def tyX2 : Nat → FieldType := fun k => match k with
  | 0 => .object "AyeJars$House"
  | 1 => .object "AyeJars$Jars"
  | 2 => .object "AyeJars$Trial"
  | 3 => .object "AyeJars$Ahead"
  | 4 => .long
  | _ => .long
theorem nmX2 : ∀ a, a < 6 → ∀ b, b < 6 → a ≠ b → (TX2 a).2.1 ≠ (TX2 b).2.1 := by decide +kernel
theorem tyX2_ok : ∀ k, k < 6 → parseFieldDescriptor (TX2 k).2.2.1 = some (tyX2 k) := by decide +kernel
def RX3 : String := "AyeJars$Choices"
def TX3 : u_T := fun k => match k with
  | 0 => ("AyeJars$Choices", "house", "LAyeJars$House;", true)
  | 1 => ("AyeJars$Choices", "jars", "LAyeJars$Jars;", true)
  | 2 => ("AyeJars$Choices", "trial", "LAyeJars$Trial;", true)
  | 3 => ("AyeJars$Choices", "ahead", "LAyeJars$Ahead;", true)
  | 4 => ("AyeJars$Choices", "lying", "[I", true)
  | 5 => ("AyeJars$Choices", "lyingCount", "I", false)
  | 6 => ("AyeJars$Choices", "tried", "[I", true)
  | 7 => ("AyeJars$Choices", "sets", "[I", true)
  | 8 => ("AyeJars$Choices", "forces", "[J", true)
  | 9 => ("AyeJars$Choices", "allowed", "[J", true)
  | 10 => ("AyeJars$Choices", "best", "I", false)
  | 11 => ("AyeJars$Choices", "fewest", "I", false)
  | 12 => ("AyeJars$Choices", "most", "I", false)
  | 13 => ("AyeJars$Choices", "stages", "[LAyeJars$Trial;", true)
  | _ => ("AyeJars$Choices", "outcomes", "[I", true)
def tyX3 : Nat → FieldType := fun k => match k with
  | 0 => .object "AyeJars$House"
  | 1 => .object "AyeJars$Jars"
  | 2 => .object "AyeJars$Trial"
  | 3 => .object "AyeJars$Ahead"
  | 4 => .array .int
  | 5 => .int
  | 6 => .array .int
  | 7 => .array .int
  | 8 => .array .long
  | 9 => .array .long
  | 10 => .int
  | 11 => .int
  | 12 => .int
  | 13 => .array (.object "AyeJars$Trial")
  | _ => .array .int
theorem nmX3 : ∀ a, a < 15 → ∀ b, b < 15 → a ≠ b → (TX3 a).2.1 ≠ (TX3 b).2.1 := by decide +kernel
theorem tyX3_ok : ∀ k, k < 15 → parseFieldDescriptor (TX3 k).2.2.1 = some (tyX3 k) := by decide +kernel
def RX4 : String := "AyeJars$Formula"
def TX4 : u_T := fun k => match k with
  | 0 => ("AyeJars$Formula", "codes", "[I", true)
  | 1 => ("AyeJars$Formula", "numbers", "[I", true)
  | 2 => ("AyeJars$Formula", "stack", "[I", true)
  | 3 => ("AyeJars$Formula", "known", "[I", true)
  | 4 => ("AyeJars$Formula", "size", "I", false)
  | 5 => ("AyeJars$Formula", "units", "I", false)
  | _ => ("AyeJars$Formula", "told", "Z", false)
def tyX4 : Nat → FieldType := fun k => match k with
  | 0 => .array .int
  | 1 => .array .int
  | 2 => .array .int
  | 3 => .array .int
  | 4 => .int
  | 5 => .int
  | _ => .boolean
theorem nmX4 : ∀ a, a < 7 → ∀ b, b < 7 → a ≠ b → (TX4 a).2.1 ≠ (TX4 b).2.1 := by decide +kernel
theorem tyX4_ok : ∀ k, k < 7 → parseFieldDescriptor (TX4 k).2.2.1 = some (tyX4 k) := by decide +kernel
def RX5 : String := "AyeJars$House"
def TX5 : u_T := fun k => match k with
  | 0 => ("AyeJars$House", "breath", "[I", true)
  | 1 => ("AyeJars$House", "keeps", "[I", true)
  | 2 => ("AyeJars$House", "needs", "[I", true)
  | 3 => ("AyeJars$House", "opens", "[I", true)
  | 4 => ("AyeJars$House", "shelf", "[I", true)
  | 5 => ("AyeJars$House", "fade", "LAyeJars$Formula;", true)
  | 6 => ("AyeJars$House", "members", "I", false)
  | 7 => ("AyeJars$House", "bills", "I", false)
  | 8 => ("AyeJars$House", "yawn", "I", false)
  | _ => ("AyeJars$House", "draw", "I", false)
def tyX5 : Nat → FieldType := fun k => match k with
  | 0 => .array .int
  | 1 => .array .int
  | 2 => .array .int
  | 3 => .array .int
  | 4 => .array .int
  | 5 => .object "AyeJars$Formula"
  | 6 => .int
  | 7 => .int
  | 8 => .int
  | _ => .int
theorem nmX5 : ∀ a, a < 10 → ∀ b, b < 10 → a ≠ b → (TX5 a).2.1 ≠ (TX5 b).2.1 := by decide +kernel
theorem tyX5_ok : ∀ k, k < 10 → parseFieldDescriptor (TX5 k).2.2.1 = some (tyX5 k) := by decide +kernel
def RX6 : String := "AyeJars$Jars"
def TX6 : u_T := fun k => match k with
  | 0 => ("AyeJars$Jars", "cells", "[I", true)
  | 1 => ("AyeJars$Jars", "voted", "I", false)
  | 2 => ("AyeJars$Jars", "day", "I", false)
  | _ => ("AyeJars$Jars", "seed", "I", false)
def tyX6 : Nat → FieldType := fun k => match k with
  | 0 => .array .int
  | 1 => .int
  | 2 => .int
  | _ => .int
theorem nmX6 : ∀ a, a < 4 → ∀ b, b < 4 → a ≠ b → (TX6 a).2.1 ≠ (TX6 b).2.1 := by decide +kernel
theorem tyX6_ok : ∀ k, k < 4 → parseFieldDescriptor (TX6 k).2.2.1 = some (tyX6 k) := by decide +kernel
def RX7 : String := "AyeJars$Nose"
def TX7 : u_T := fun k => match k with
  | 0 => ("AyeJars$Nose", "house", "LAyeJars$House;", true)
  | 1 => ("AyeJars$Nose", "trial", "LAyeJars$Trial;", true)
  | 2 => ("AyeJars$Nose", "ages", "[I", true)
  | 3 => ("AyeJars$Nose", "volumes", "[I", true)
  | 4 => ("AyeJars$Nose", "holds", "[Z", true)
  | 5 => ("AyeJars$Nose", "toldAt", "[I", true)
  | 6 => ("AyeJars$Nose", "untoldAt", "[I", true)
  | 7 => ("AyeJars$Nose", "strange", "[[I", true)
  | 8 => ("AyeJars$Nose", "strangeKnown", "Z", false)
  | _ => ("AyeJars$Nose", "told", "I", false)
def tyX7 : Nat → FieldType := fun k => match k with
  | 0 => .object "AyeJars$House"
  | 1 => .object "AyeJars$Trial"
  | 2 => .array .int
  | 3 => .array .int
  | 4 => .array .boolean
  | 5 => .array .int
  | 6 => .array .int
  | 7 => .array (.array .int)
  | 8 => .boolean
  | _ => .int
theorem nmX7 : ∀ a, a < 10 → ∀ b, b < 10 → a ≠ b → (TX7 a).2.1 ≠ (TX7 b).2.1 := by decide +kernel
theorem tyX7_ok : ∀ k, k < 10 → parseFieldDescriptor (TX7 k).2.2.1 = some (tyX7 k) := by decide +kernel
def RX8 : String := "AyeJars$Reader"
def TX8 : u_T := fun k => match k with
  | 0 => ("AyeJars$Reader", "tokens", "LAyeJars$Tokens;", true)
  | 1 => ("AyeJars$Reader", "house", "LAyeJars$House;", true)
  | 2 => ("AyeJars$Reader", "memberNames", "[J", true)
  | 3 => ("AyeJars$Reader", "billNames", "[J", true)
  | 4 => ("AyeJars$Reader", "yawnTold", "Z", false)
  | 5 => ("AyeJars$Reader", "drawTold", "Z", false)
  | 6 => ("AyeJars$Reader", "lastNumber", "I", false)
  | 7 => ("AyeJars$Reader", "fault", "I", false)
  | _ => ("AyeJars$Reader", "faultPlace", "I", false)
def tyX8 : Nat → FieldType := fun k => match k with
  | 0 => .object "AyeJars$Tokens"
  | 1 => .object "AyeJars$House"
  | 2 => .array .long
  | 3 => .array .long
  | 4 => .boolean
  | 5 => .boolean
  | 6 => .int
  | 7 => .int
  | _ => .int
theorem nmX8 : ∀ a, a < 9 → ∀ b, b < 9 → a ≠ b → (TX8 a).2.1 ≠ (TX8 b).2.1 := by decide +kernel
theorem tyX8_ok : ∀ k, k < 9 → parseFieldDescriptor (TX8 k).2.2.1 = some (tyX8 k) := by decide +kernel
def RX9 : String := "AyeJars$Tokens"
def TX9 : u_T := fun k => match k with
  | 0 => ("AyeJars$Tokens", "bytes", "[B", true)
  | 1 => ("AyeJars$Tokens", "length", "I", false)
  | 2 => ("AyeJars$Tokens", "at", "I", false)
  | 3 => ("AyeJars$Tokens", "token", "I", false)
  | 4 => ("AyeJars$Tokens", "place", "I", false)
  | 5 => ("AyeJars$Tokens", "number", "I", false)
  | _ => ("AyeJars$Tokens", "name", "J", false)
def tyX9 : Nat → FieldType := fun k => match k with
  | 0 => .array .byte
  | 1 => .int
  | 2 => .int
  | 3 => .int
  | 4 => .int
  | 5 => .int
  | _ => .long
theorem nmX9 : ∀ a, a < 7 → ∀ b, b < 7 → a ≠ b → (TX9 a).2.1 ≠ (TX9 b).2.1 := by decide +kernel
theorem tyX9_ok : ∀ k, k < 7 → parseFieldDescriptor (TX9 k).2.2.1 = some (tyX9 k) := by decide +kernel
def RX10 : String := "AyeJars$Trial"
def TX10 : u_T := fun k => match k with
  | 0 => ("AyeJars$Trial", "house", "LAyeJars$House;", true)
  | 1 => ("AyeJars$Trial", "volume", "I", false)
  | 2 => ("AyeJars$Trial", "breaths", "I", false)
  | 3 => ("AyeJars$Trial", "age", "I", false)
  | 4 => ("AyeJars$Trial", "shelf", "I", false)
  | 5 => ("AyeJars$Trial", "shaken", "I", false)
  | _ => ("AyeJars$Trial", "day", "I", false)
def tyX10 : Nat → FieldType := fun k => match k with
  | 0 => .object "AyeJars$House"
  | 1 => .int
  | 2 => .int
  | 3 => .int
  | 4 => .int
  | 5 => .int
  | _ => .int
theorem nmX10 : ∀ a, a < 7 → ∀ b, b < 7 → a ≠ b → (TX10 a).2.1 ≠ (TX10 b).2.1 := by decide +kernel
theorem tyX10_ok : ∀ k, k < 7 → parseFieldDescriptor (TX10 k).2.2.1 = some (tyX10 k) := by decide +kernel
def RX11 : String := "AyeJars"
def TX11 : u_T := fun k => match k with
  | 0 => ("AyeJars", "tape", "LAyeJars$Tokens;", true)
  | 1 => ("AyeJars", "house", "LAyeJars$House;", true)
  | 2 => ("AyeJars", "draft", "LAyeJars$House;", true)
  | 3 => ("AyeJars", "reader", "LAyeJars$Reader;", true)
  | 4 => ("AyeJars", "jars", "LAyeJars$Jars;", true)
  | 5 => ("AyeJars", "boxes", "[LAyeJars$Jars;", true)
  | 6 => ("AyeJars", "boxFull", "[Z", true)
  | 7 => ("AyeJars", "acts", "LAyeJars$Acts;", true)
  | 8 => ("AyeJars", "trial", "LAyeJars$Trial;", true)
  | 9 => ("AyeJars", "ahead", "LAyeJars$Ahead;", true)
  | 10 => ("AyeJars", "chances", "LAyeJars$Chances;", true)
  | 11 => ("AyeJars", "choices", "LAyeJars$Choices;", true)
  | 12 => ("AyeJars", "nose", "LAyeJars$Nose;", true)
  | _ => ("AyeJars", "time", "I", false)
def tyX11 : Nat → FieldType := fun k => match k with
  | 0 => .object "AyeJars$Tokens"
  | 1 => .object "AyeJars$House"
  | 2 => .object "AyeJars$House"
  | 3 => .object "AyeJars$Reader"
  | 4 => .object "AyeJars$Jars"
  | 5 => .array (.object "AyeJars$Jars")
  | 6 => .array .boolean
  | 7 => .object "AyeJars$Acts"
  | 8 => .object "AyeJars$Trial"
  | 9 => .object "AyeJars$Ahead"
  | 10 => .object "AyeJars$Chances"
  | 11 => .object "AyeJars$Choices"
  | 12 => .object "AyeJars$Nose"
  | _ => .int
theorem nmX11 : ∀ a, a < 14 → ∀ b, b < 14 → a ≠ b → (TX11 a).2.1 ≠ (TX11 b).2.1 := by decide +kernel
theorem tyX11_ok : ∀ k, k < 14 → parseFieldDescriptor (TX11 k).2.2.1 = some (tyX11 k) := by decide +kernel
def RX12 : String := "AyeJarsModel"
def TX12 : u_T := fun k => match k with
  | 0 => ("AyeJarsModel", "tape", "[B", true)
  | 1 => ("AyeJarsModel", "text", "[B", true)
  | 2 => ("AyeJarsModel", "taped", "I", false)
  | 3 => ("AyeJarsModel", "size", "I", false)
  | 4 => ("AyeJarsModel", "faultKind", "I", false)
  | 5 => ("AyeJarsModel", "faultPlace", "I", false)
  | 6 => ("AyeJarsModel", "at", "I", false)
  | 7 => ("AyeJarsModel", "end", "I", false)
  | 8 => ("AyeJarsModel", "token", "I", false)
  | 9 => ("AyeJarsModel", "number", "I", false)
  | 10 => ("AyeJarsModel", "name", "J", false)
  | 11 => ("AyeJarsModel", "members", "[I", true)
  | 12 => ("AyeJarsModel", "bills", "[I", true)
  | 13 => ("AyeJarsModel", "units", "[I", true)
  | 14 => ("AyeJarsModel", "yawn", "[I", true)
  | 15 => ("AyeJarsModel", "draw", "[I", true)
  | 16 => ("AyeJarsModel", "breath", "[I", true)
  | 17 => ("AyeJarsModel", "keeps", "[I", true)
  | 18 => ("AyeJarsModel", "needs", "[I", true)
  | 19 => ("AyeJarsModel", "opens", "[I", true)
  | 20 => ("AyeJarsModel", "shelfTold", "[I", true)
  | 21 => ("AyeJarsModel", "ruleFrom", "[I", true)
  | 22 => ("AyeJarsModel", "ruleTo", "[I", true)
  | 23 => ("AyeJarsModel", "hasFade", "[Z", true)
  | 24 => ("AyeJarsModel", "hasYawn", "[Z", true)
  | 25 => ("AyeJarsModel", "isDraw", "[Z", true)
  | 26 => ("AyeJarsModel", "mName", "[J", true)
  | 27 => ("AyeJarsModel", "bName", "[J", true)
  | 28 => ("AyeJarsModel", "code", "[I", true)
  | 29 => ("AyeJarsModel", "codeNumber", "[I", true)
  | 30 => ("AyeJarsModel", "eWhat", "[I", true)
  | 31 => ("AyeJarsModel", "eSign", "[I", true)
  | 32 => ("AyeJarsModel", "pile", "[I", true)
  | 33 => ("AyeJarsModel", "bank", "I", false)
  | 34 => ("AyeJarsModel", "rb", "I", false)
  | 35 => ("AyeJarsModel", "codes", "I", false)
  | 36 => ("AyeJarsModel", "within", "I", false)
  | 37 => ("AyeJarsModel", "piled", "I", false)
  | 38 => ("AyeJarsModel", "unitsInRule", "I", false)
  | 39 => ("AyeJarsModel", "jarVolume", "I", false)
  | 40 => ("AyeJarsModel", "jarIn", "I", false)
  | 41 => ("AyeJarsModel", "jarAge", "I", false)
  | 42 => ("AyeJarsModel", "jarShelf", "I", false)
  | 43 => ("AyeJarsModel", "jarShaken", "I", false)
  | 44 => ("AyeJarsModel", "jarDay", "I", false)
  | 45 => ("AyeJarsModel", "all", "[I", true)
  | 46 => ("AyeJarsModel", "was", "[I", true)
  | 47 => ("AyeJarsModel", "acts", "I", false)
  | 48 => ("AyeJarsModel", "undone", "I", false)
  | 49 => ("AyeJarsModel", "kept", "[I", true)
  | 50 => ("AyeJarsModel", "passesWith", "[Z", true)
  | 51 => ("AyeJarsModel", "laidRow", "[I", true)
  | 52 => ("AyeJarsModel", "choice", "[I", true)
  | 53 => ("AyeJarsModel", "laid", "I", false)
  | 54 => ("AyeJarsModel", "queued", "I", false)
  | 55 => ("AyeJarsModel", "sAge", "[I", true)
  | 56 => ("AyeJarsModel", "sVolume", "[I", true)
  | 57 => ("AyeJarsModel", "sIs", "[I", true)
  | 58 => ("AyeJarsModel", "sTold", "[I", true)
  | 59 => ("AyeJarsModel", "sUntold", "[I", true)
  | 60 => ("AyeJarsModel", "inFits", "[I", true)
  | 61 => ("AyeJarsModel", "sniffs", "I", false)
  | 62 => ("AyeJarsModel", "time", "I", false)
  | 63 => ("AyeJarsModel", "fitting", "I", false)
  | 64 => ("AyeJarsModel", "boxAll", "[I", true)
  | _ => ("AyeJarsModel", "isBoxed", "[Z", true)
def tyX12 : Nat → FieldType := fun k => match k with
  | 0 => .array .byte
  | 1 => .array .byte
  | 2 => .int
  | 3 => .int
  | 4 => .int
  | 5 => .int
  | 6 => .int
  | 7 => .int
  | 8 => .int
  | 9 => .int
  | 10 => .long
  | 11 => .array .int
  | 12 => .array .int
  | 13 => .array .int
  | 14 => .array .int
  | 15 => .array .int
  | 16 => .array .int
  | 17 => .array .int
  | 18 => .array .int
  | 19 => .array .int
  | 20 => .array .int
  | 21 => .array .int
  | 22 => .array .int
  | 23 => .array .boolean
  | 24 => .array .boolean
  | 25 => .array .boolean
  | 26 => .array .long
  | 27 => .array .long
  | 28 => .array .int
  | 29 => .array .int
  | 30 => .array .int
  | 31 => .array .int
  | 32 => .array .int
  | 33 => .int
  | 34 => .int
  | 35 => .int
  | 36 => .int
  | 37 => .int
  | 38 => .int
  | 39 => .int
  | 40 => .int
  | 41 => .int
  | 42 => .int
  | 43 => .int
  | 44 => .int
  | 45 => .array .int
  | 46 => .array .int
  | 47 => .int
  | 48 => .int
  | 49 => .array .int
  | 50 => .array .boolean
  | 51 => .array .int
  | 52 => .array .int
  | 53 => .int
  | 54 => .int
  | 55 => .array .int
  | 56 => .array .int
  | 57 => .array .int
  | 58 => .array .int
  | 59 => .array .int
  | 60 => .array .int
  | 61 => .int
  | 62 => .int
  | 63 => .int
  | 64 => .array .int
  | _ => .array .boolean
theorem nmX12 : ∀ a, a < 66 → ∀ b, b < 66 → a ≠ b → (TX12 a).2.1 ≠ (TX12 b).2.1 := by decide +kernel
theorem tyX12_ok : ∀ k, k < 66 → parseFieldDescriptor (TX12 k).2.2.1 = some (tyX12 k) := by decide +kernel
abbrev vwCl : List vw_C := [(RX0, TX0, 4), (RX1, TX1, 3), (RX2, TX2, 6), (RX3, TX3, 15), (RX4, TX4, 7), (RX5, TX5, 10), (RX6, TX6, 4), (RX7, TX7, 10), (RX8, TX8, 9), (RX9, TX9, 7), (RX10, TX10, 7), (RX11, TX11, 14), (RX12, TX12, 66)]
end
section
/-! A machine of plain lists that runs the law on a fresh object: ints are codes below 2^32, or unknowns above; a place k + 1 is the k-th cell that was made, place 0 the script -/
abbrev rV : Type := Nat ⊕ (Nat ⊕ Option Nat)
abbrev rC : Type := Nat × List rV
abbrev rE : Type := List (Nat × Nat)
abbrev rK : Type := List (Nat × rV)
abbrev rX : Type := Nat × rK × List rV × List rC × Nat × Nat
abbrev rO : Type := rX ⊕ ((Nat × Nat) ⊕ ((rX × rX) ⊕ ((Option rV) ⊕ (Nat × List rV × List rV))))
abbrev rF : Type := rE × Option rV × List rC
def ri (sg : Nat → Int32) (n : Nat) : Int32 := if n < 4294967296 then nI n else sg (n - 4294967296)
def ra (b B : Nat) (k : Nat) : Nat := match k with
  | 0 => b
  | k + 1 => B + k
def rv (sg : Nat → Int32) (b B : Nat) (v : rV) : Value := match v with
  | .inl n => .int (ri sg n)
  | .inr (.inl z) => .long (lN z)
  | .inr (.inr (some k)) => .ref (ra b B k)
  | .inr (.inr none) => .null
def rI (sg : Nat → Int32) (v : rV) : Int32 := match v with
  | .inl n => ri sg n
  | _ => 0
def rL (v : rV) : Int64 := match v with
  | .inr (.inl z) => lN z
  | _ => 0
def rR (b B : Nat) (v : rV) : Option Nat := match v with
  | .inr (.inr (some k)) => some (ra b B k)
  | _ => none
def rd : rV := .inr (.inr none)
def rA (sg : Nat → Int32) (b B : Nat) (t : Nat) (l : List rV) : vp_A := (l.length, if t = 15 then .inr (.inl (fun j => rL (l.getD j rd))) else if t < 17 then .inl (fun j => rI sg (l.getD j rd)) else .inr (.inr (.inr (.inr (fun j => rR b B (l.getD j rd))))))
def rce (sg : Nat → Int32) (b B : Nat) (cy : Nat → ClassId) (q : rC) : va_E := if q.1 < 13 then .inr (q.1, q.2.map (rv sg b B)) else .inl (cy q.1, rA sg b B q.1 q.2)
def rW (sg : Nat → Int32) (b B : Nat) (cy : Nat → ClassId) (aw : List rC) : va_W := aw.zipIdx.map (fun q => (B + q.2, rce sg b B cy q.1))
def rG (B : Nat) : Nat → Prop := fun q => B ≤ q
theorem rW_at {sg : Nat → Int32} {b B : Nat} {cy : Nat → ClassId} (aw : List rC) (k : Nat) : (rW sg b B cy aw)[k]? = aw[k]?.map (fun q => (B + k, rce sg b B cy q)) := by
  unfold rW
  rw [List.getElem?_map, List.getElem?_zipIdx]
  cases aw[k]? with
  | none => rfl
  | some q => simp
theorem rW_get {sg : Nat → Int32} {b B : Nat} {cy : Nat → ClassId} {aw : List rC} {k : Nat} {q : rC} (h : aw[k]? = some q) : (rW sg b B cy aw)[k]? = some (B + k, rce sg b B cy q) := by
  rw [rW_at, h]; rfl
theorem rW_set {sg : Nat → Int32} {b B : Nat} {cy : Nat → ClassId} (aw : List rC) (k : Nat) (q : rC) : (rW sg b B cy aw).set k (B + k, rce sg b B cy q) = rW sg b B cy (aw.set k q) := by
  apply List.ext_getElem?
  intro i
  rw [rW_at, List.getElem?_set, List.getElem?_set]
  have hl : (rW sg b B cy aw).length = aw.length := by unfold rW; simp
  by_cases e : k = i
  · subst e
    by_cases h : k < aw.length
    · simp [hl, h]
    · simp [hl, h]
  · simp [e, rW_at]
theorem rW_app {sg : Nat → Int32} {b B : Nat} {cy : Nat → ClassId} (aw : List rC) (q : rC) : rW sg b B cy (aw ++ [q]) = rW sg b B cy aw ++ [(B + aw.length, rce sg b B cy q)] := by
  unfold rW
  rw [List.zipIdx_append]
  simp
theorem rW_D {sg : Nat → Int32} {b B : Nat} {cy : Nat → ClassId} (aw : List rC) : va_D (rG B) (rW sg b B cy aw) := by
  have key : ∀ (k : Nat) (q : Nat × va_E), (rW sg b B cy aw)[k]? = some q → q.1 = B + k := by
    intro k q h
    rw [rW_at] at h
    cases hk : aw[k]? with
    | none => rw [hk] at h; cases h
    | some z => rw [hk] at h; cases h; rfl
  refine ⟨fun i j x y hi hj hxy => ?_, fun k q hk => ?_⟩
  · have h1 := key i x hi
    have h2 := key j y hj
    omega
  · have h1 := key k q hk
    show B ≤ q.1
    omega
/-! codes -/
def cN (x : Int32) : Nat := x.toUInt32.toNat
def cL (x : Int64) : Nat := x.toUInt64.toNat
theorem cN_lt (x : Int32) : cN x < 4294967296 := x.toUInt32.toNat_lt
theorem nI_cN (x : Int32) : nI (cN x) = x := by
  unfold nI cN
  apply Int32.toBitVec_inj.mp
  simp
theorem lN_cL (x : Int64) : lN (cL x) = x := by
  unfold lN cL
  apply Int64.toBitVec_inj.mp
  simp
theorem ri_c {sg : Nat → Int32} {n : Nat} (h : n < 4294967296) : ri sg n = nI n := if_pos h
theorem ri_cN {sg : Nat → Int32} (x : Int32) : ri sg (cN x) = x := by rw [ri_c (cN_lt x), nI_cN]
theorem ri_u {sg : Nat → Int32} (j : Nat) : ri sg (4294967296 + j) = sg j := by
  unfold ri
  rw [if_neg (by omega), Nat.add_sub_cancel_left]
/-! the order of ints as an order of numbers -/
def bz (x : Int32) : Nat := (x.toInt + 2147483648).toNat
def un (n : Nat) : Nat := Nat.mod (Nat.add n 2147483648) 4294967296
theorem bz_in (x : Int32) : (bz x : Int) = x.toInt + 2147483648 := by
  unfold bz
  have h1 := x.minValue_le_toInt
  have h2 : Int32.minValue.toInt = -2147483648 := by decide
  omega
theorem bz_lt (x y : Int32) : x < y ↔ bz x < bz y := by
  rw [Int32.lt_iff_toInt_lt]
  have h1 := bz_in x
  have h2 := bz_in y
  omega
theorem bz_le (x y : Int32) : x ≤ y ↔ bz x ≤ bz y := by
  rw [Int32.le_iff_toInt_le]
  have h1 := bz_in x
  have h2 := bz_in y
  omega
theorem bz_eq (x y : Int32) : x = y ↔ bz x = bz y := by
  rw [← Int32.toInt_inj]
  have h1 := bz_in x
  have h2 := bz_in y
  omega
theorem bz_top (x : Int32) : bz x < 4294967296 := by
  have h1 := bz_in x
  have h2 := x.toInt_lt
  omega
theorem nI_int (n : Nat) : (nI n).toInt = (n : Int).bmod 4294967296 := by
  unfold nI
  simp [Int32.toInt_ofNat']
theorem bz_nI {n : Nat} (h : n < 4294967296) : bz (nI n) = un n := by
  have h1 := bz_in (nI n)
  rw [nI_int, Int.bmod_def] at h1
  unfold un
  show bz (nI n) = (n + 2147483648) % 4294967296
  omega
theorem un_un {n : Nat} (h : n < 4294967296) : un (un n) = n := by
  unfold un
  show ((n + 2147483648) % 4294967296 + 2147483648) % 4294967296 = n
  omega
theorem un_lt (n : Nat) : un n < 4294967296 := Nat.mod_lt _ (by decide)
theorem un_bz (x : Int32) : nI (un (bz x)) = x := by
  rw [bz_eq, bz_nI (un_lt _), un_un (bz_top x)]
/-! what is known of the unknowns -/
def eOK (sg : Nat → Int32) (E : rE) : Prop := ∀ (j lo hi : Nat), E[j]? = some (lo, hi) → lo ≤ bz (sg j) ∧ bz (sg j) ≤ hi
def iu (E : rE) (j : Nat) : Nat × Nat := E.getD j (0, 4294967295)
def iv (E : rE) (n : Nat) : Nat × Nat := bif Nat.ble n 4294967295 then (un n, un n) else iu E (Nat.sub n 4294967296)
theorem iu_ok {sg : Nat → Int32} {E : rE} (h : eOK sg E) (j : Nat) : (iu E j).1 ≤ bz (sg j) ∧ bz (sg j) ≤ (iu E j).2 := by
  unfold iu
  rw [List.getD_eq_getElem?_getD]
  cases hj : E[j]? with
  | none =>
    have := bz_top (sg j)
    exact ⟨Nat.zero_le _, by show _ ≤ 4294967295; omega⟩
  | some q => exact h j q.1 q.2 hj
theorem iv_ok {sg : Nat → Int32} {E : rE} (h : eOK sg E) (n : Nat) : (iv E n).1 ≤ bz (ri sg n) ∧ bz (ri sg n) ≤ (iv E n).2 := by
  unfold iv
  cases hb : Nat.ble n 4294967295 with
  | true =>
    have hn : n < 4294967296 := Nat.lt_succ_of_le (Nat.le_of_ble_eq_true hb)
    rw [ri_c hn, bz_nI hn, cond_true]
    generalize un n = z
    exact ⟨Nat.le_refl z, Nat.le_refl z⟩
  | false =>
    have hn : ¬ n < 4294967296 := fun q => by
      have := Nat.ble_eq_true_of_le (Nat.le_of_lt_succ q)
      rw [hb] at this
      cases this
    unfold ri
    rw [if_neg hn]
    exact iu_ok h _
/-- the value, where it is known -/
def nd (E : rE) (n : Nat) : Option Nat := bif Nat.ble n 4294967295 then some n else (bif Nat.beq (iu E (Nat.sub n 4294967296)).1 (iu E (Nat.sub n 4294967296)).2 then some (un (iu E (Nat.sub n 4294967296)).1) else none)
theorem nd_ok {sg : Nat → Int32} {E : rE} (h : eOK sg E) {n k : Nat} (hk : nd E n = some k) : k < 4294967296 ∧ ri sg n = nI k := by
  unfold nd at hk
  cases hb : Nat.ble n 4294967295 with
  | true =>
    rw [hb] at hk
    cases hk
    have hn : n < 4294967296 := Nat.lt_succ_of_le (Nat.le_of_ble_eq_true hb)
    exact ⟨hn, ri_c hn⟩
  | false =>
    rw [hb] at hk
    have hn : ¬ n < 4294967296 := fun q => by
      have := Nat.ble_eq_true_of_le (Nat.le_of_lt_succ q)
      rw [hb] at this
      cases this
    cases hq : Nat.beq (iu E (Nat.sub n 4294967296)).1 (iu E (Nat.sub n 4294967296)).2 with
    | false => rw [hq] at hk; cases hk
    | true =>
      rw [hq, cond_false, cond_true] at hk
      have hk := Option.some.inj hk
      subst hk
      have h1 := Nat.eq_of_beq_eq_true hq
      have h2 := iu_ok h (Nat.sub n 4294967296)
      have h3 : bz (sg (Nat.sub n 4294967296)) = (iu E (Nat.sub n 4294967296)).1 := by omega
      refine ⟨un_lt _, ?_⟩
      unfold ri
      rw [if_neg hn, ← h3, un_bz]
      rfl
/-! lists, read and written at a place, so that the kernel goes straight -/
noncomputable def rget {α : Type} (l : List α) : Nat → Option α := List.rec (motive := fun _ => Nat → Option α) (fun _ => none) (fun x _ ih n => Nat.rec (motive := fun _ => Option α) (some x) (fun m _ => ih m) n) l
theorem rget_eq {α : Type} (l : List α) : ∀ n, rget l n = l[n]? := by
  induction l with
  | nil => intro n; simp [rget]
  | cons x t ih =>
    intro n
    cases n with
    | zero => rfl
    | succ m => rw [List.getElem?_cons_succ, ← ih m]; rfl
noncomputable def rset {α β : Type} (v : α) (l : List α) : Nat → (List α → β) → β := List.rec (motive := fun _ => Nat → (List α → β) → β) (fun _ k => k []) (fun x t ih n k => Nat.rec (motive := fun _ => β) (k (v :: t)) (fun m _ => ih m (fun t' => k (x :: t'))) n) l
theorem rset_eq {α β : Type} (v : α) (l : List α) : ∀ (n : Nat) (k : List α → β), rset v l n k = k (l.set n v) := by
  induction l with
  | nil => intro n k; rfl
  | cons x t ih =>
    intro n k
    cases n with
    | zero => rfl
    | succ m =>
      show rset v t m (fun t' => k (x :: t')) = _
      rw [ih]
      rfl
noncomputable def fN {β : Type} (n : Nat) (k : Nat → β) : β := Nat.rec (motive := fun _ => β) (k 0) (fun m _ => k (Nat.succ m)) n
theorem fN_eq {β : Type} (n : Nat) (k : Nat → β) : fN n k = k n := by cases n <;> rfl
noncomputable def lget (lv : rK) (i : Nat) : Option rV := List.rec (motive := fun _ => Option rV) none (fun q _ ih => bif Nat.beq q.1 i then some q.2 else ih) lv
theorem lget_mem {lv : rK} {i : Nat} {v : rV} (h : lget lv i = some v) : (i, v) ∈ lv := by
  induction lv with
  | nil => cases h
  | cons q t ih =>
    have h' : (bif Nat.beq q.1 i then some q.2 else lget t i) = some v := h
    cases hb : Nat.beq q.1 i with
    | true =>
      rw [hb] at h'
      cases h'
      have := Nat.eq_of_beq_eq_true hb
      subst this
      exact List.mem_cons_self
    | false =>
      rw [hb] at h'
      exact List.mem_cons_of_mem _ (ih h')
def ct (v : rV) : Nat := match v with
  | .inr (.inl _) => 2
  | _ => 1
theorem ct_eq {sg : Nat → Int32} {b B : Nat} (v : rV) : (rv sg b B v).category = ct v := by
  match v with
  | .inl _ => rfl
  | .inr (.inl _) => rfl
  | .inr (.inr (some _)) => rfl
  | .inr (.inr none) => rfl
end
