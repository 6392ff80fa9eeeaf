section
-- ===== PART A: goes FIRST, ahead of the names: the tables' words, and 'selects' of the private methods out of them =====
/-- a private method of a class that the tables say can be made, by its rows of tables_1 -/
def lw_okq (q : MethodName × Nat) : Prop := (q.1.cls ≠ "java/lang/invoke/MethodHandle" ∧ q.1.cls ≠ "java/lang/invoke/VarHandle") ∧ Cond.instantiable q.1.cls q.2 ∈ tables_1 ∧ Cond.privateMethod q.1 ∈ tables_1 ∧ Cond.instanceMethod q.1 ∈ tables_1
theorem lw_p0 : lw_okq (⟨"AyeJars$Tokens", "byteAt", "(I)I"⟩, 7) := ⟨⟨by decide +kernel, by decide +kernel⟩, List.mem_of_getElem? (i := 32) (by decide +kernel), List.mem_of_getElem? (i := 501) (by decide +kernel), List.mem_of_getElem? (i := 502) (by decide +kernel)⟩
theorem lw_p1 : lw_okq (⟨"AyeJars$Tokens", "takeWord", "()V"⟩, 7) := ⟨⟨by decide +kernel, by decide +kernel⟩, List.mem_of_getElem? (i := 32) (by decide +kernel), List.mem_of_getElem? (i := 508) (by decide +kernel), List.mem_of_getElem? (i := 509) (by decide +kernel)⟩
theorem lw_p2 : lw_okq (⟨"AyeJars$Tokens", "takeNumber", "()V"⟩, 7) := ⟨⟨by decide +kernel, by decide +kernel⟩, List.mem_of_getElem? (i := 32) (by decide +kernel), List.mem_of_getElem? (i := 568) (by decide +kernel), List.mem_of_getElem? (i := 569) (by decide +kernel)⟩
theorem lw_p3 : lw_okq (⟨"AyeJars$Reader", "readMember", "()Z"⟩, 9) := ⟨⟨by decide +kernel, by decide +kernel⟩, List.mem_of_getElem? (i := 158) (by decide +kernel), List.mem_of_getElem? (i := 575) (by decide +kernel), List.mem_of_getElem? (i := 576) (by decide +kernel)⟩
theorem lw_p4 : lw_okq (⟨"AyeJars$Reader", "refuse", "(I)Z"⟩, 9) := ⟨⟨by decide +kernel, by decide +kernel⟩, List.mem_of_getElem? (i := 158) (by decide +kernel), List.mem_of_getElem? (i := 579) (by decide +kernel), List.mem_of_getElem? (i := 580) (by decide +kernel)⟩
theorem lw_p5 : lw_okq (⟨"AyeJars$Reader", "readName", "([JI)Z"⟩, 9) := ⟨⟨by decide +kernel, by decide +kernel⟩, List.mem_of_getElem? (i := 158) (by decide +kernel), List.mem_of_getElem? (i := 584) (by decide +kernel), List.mem_of_getElem? (i := 585) (by decide +kernel)⟩
theorem lw_p6 : lw_okq (⟨"AyeJars$Reader", "readPart", "(III)Z"⟩, 9) := ⟨⟨by decide +kernel, by decide +kernel⟩, List.mem_of_getElem? (i := 158) (by decide +kernel), List.mem_of_getElem? (i := 588) (by decide +kernel), List.mem_of_getElem? (i := 589) (by decide +kernel)⟩
theorem lw_p7 : lw_okq (⟨"AyeJars$Reader", "readBill", "()Z"⟩, 9) := ⟨⟨by decide +kernel, by decide +kernel⟩, List.mem_of_getElem? (i := 158) (by decide +kernel), List.mem_of_getElem? (i := 592) (by decide +kernel), List.mem_of_getElem? (i := 593) (by decide +kernel)⟩
theorem lw_p8 : lw_okq (⟨"AyeJars$Reader", "readFade", "()Z"⟩, 9) := ⟨⟨by decide +kernel, by decide +kernel⟩, List.mem_of_getElem? (i := 158) (by decide +kernel), List.mem_of_getElem? (i := 596) (by decide +kernel), List.mem_of_getElem? (i := 597) (by decide +kernel)⟩
theorem lw_p9 : lw_okq (⟨"AyeJars$Reader", "readEither", "(I)Z"⟩, 9) := ⟨⟨by decide +kernel, by decide +kernel⟩, List.mem_of_getElem? (i := 158) (by decide +kernel), List.mem_of_getElem? (i := 600) (by decide +kernel), List.mem_of_getElem? (i := 601) (by decide +kernel)⟩
theorem lw_p10 : lw_okq (⟨"AyeJars$Reader", "readBoth", "(I)Z"⟩, 9) := ⟨⟨by decide +kernel, by decide +kernel⟩, List.mem_of_getElem? (i := 158) (by decide +kernel), List.mem_of_getElem? (i := 604) (by decide +kernel), List.mem_of_getElem? (i := 605) (by decide +kernel)⟩
theorem lw_p11 : lw_okq (⟨"AyeJars$Reader", "readOne", "(I)Z"⟩, 9) := ⟨⟨by decide +kernel, by decide +kernel⟩, List.mem_of_getElem? (i := 158) (by decide +kernel), List.mem_of_getElem? (i := 608) (by decide +kernel), List.mem_of_getElem? (i := 609) (by decide +kernel)⟩
theorem lw_p12 : lw_okq (⟨"AyeJars$Reader", "write", "(I)Z"⟩, 9) := ⟨⟨by decide +kernel, by decide +kernel⟩, List.mem_of_getElem? (i := 158) (by decide +kernel), List.mem_of_getElem? (i := 612) (by decide +kernel), List.mem_of_getElem? (i := 613) (by decide +kernel)⟩
theorem lw_p13 : lw_okq (⟨"AyeJars$Reader", "readSum", "(I)Z"⟩, 9) := ⟨⟨by decide +kernel, by decide +kernel⟩, List.mem_of_getElem? (i := 158) (by decide +kernel), List.mem_of_getElem? (i := 620) (by decide +kernel), List.mem_of_getElem? (i := 621) (by decide +kernel)⟩
theorem lw_p14 : lw_okq (⟨"AyeJars$Reader", "readTerm", "(I)Z"⟩, 9) := ⟨⟨by decide +kernel, by decide +kernel⟩, List.mem_of_getElem? (i := 158) (by decide +kernel), List.mem_of_getElem? (i := 624) (by decide +kernel), List.mem_of_getElem? (i := 625) (by decide +kernel)⟩
theorem lw_p15 : lw_okq (⟨"AyeJars$Reader", "readUnit", "(I)Z"⟩, 9) := ⟨⟨by decide +kernel, by decide +kernel⟩, List.mem_of_getElem? (i := 158) (by decide +kernel), List.mem_of_getElem? (i := 628) (by decide +kernel), List.mem_of_getElem? (i := 629) (by decide +kernel)⟩
def lw_privs_1 : List (MethodName × Nat) := [(⟨"AyeJars$Tokens", "byteAt", "(I)I"⟩, 7), (⟨"AyeJars$Tokens", "takeWord", "()V"⟩, 7), (⟨"AyeJars$Tokens", "takeNumber", "()V"⟩, 7), (⟨"AyeJars$Reader", "readMember", "()Z"⟩, 9), (⟨"AyeJars$Reader", "refuse", "(I)Z"⟩, 9), (⟨"AyeJars$Reader", "readName", "([JI)Z"⟩, 9), (⟨"AyeJars$Reader", "readPart", "(III)Z"⟩, 9), (⟨"AyeJars$Reader", "readBill", "()Z"⟩, 9), (⟨"AyeJars$Reader", "readFade", "()Z"⟩, 9), (⟨"AyeJars$Reader", "readEither", "(I)Z"⟩, 9), (⟨"AyeJars$Reader", "readBoth", "(I)Z"⟩, 9), (⟨"AyeJars$Reader", "readOne", "(I)Z"⟩, 9), (⟨"AyeJars$Reader", "write", "(I)Z"⟩, 9), (⟨"AyeJars$Reader", "readSum", "(I)Z"⟩, 9), (⟨"AyeJars$Reader", "readTerm", "(I)Z"⟩, 9), (⟨"AyeJars$Reader", "readUnit", "(I)Z"⟩, 9)]
theorem lw_r1 : ∀ q ∈ lw_privs_1, lw_okq q := List.forall_mem_cons.mpr ⟨lw_p0, List.forall_mem_cons.mpr ⟨lw_p1, List.forall_mem_cons.mpr ⟨lw_p2, List.forall_mem_cons.mpr ⟨lw_p3, List.forall_mem_cons.mpr ⟨lw_p4, List.forall_mem_cons.mpr ⟨lw_p5, List.forall_mem_cons.mpr ⟨lw_p6, List.forall_mem_cons.mpr ⟨lw_p7, List.forall_mem_cons.mpr ⟨lw_p8, List.forall_mem_cons.mpr ⟨lw_p9, List.forall_mem_cons.mpr ⟨lw_p10, List.forall_mem_cons.mpr ⟨lw_p11, List.forall_mem_cons.mpr ⟨lw_p12, List.forall_mem_cons.mpr ⟨lw_p13, List.forall_mem_cons.mpr ⟨lw_p14, List.forall_mem_cons.mpr ⟨lw_p15, fun _ h => absurd h List.not_mem_nil⟩⟩⟩⟩⟩⟩⟩⟩⟩⟩⟩⟩⟩⟩⟩⟩
theorem lw_p16 : lw_okq (⟨"AyeJars$Reader", "readToken", "(I)Z"⟩, 9) := ⟨⟨by decide +kernel, by decide +kernel⟩, List.mem_of_getElem? (i := 158) (by decide +kernel), List.mem_of_getElem? (i := 632) (by decide +kernel), List.mem_of_getElem? (i := 633) (by decide +kernel)⟩
theorem lw_p17 : lw_okq (⟨"AyeJars$Reader", "readYawn", "()Z"⟩, 9) := ⟨⟨by decide +kernel, by decide +kernel⟩, List.mem_of_getElem? (i := 158) (by decide +kernel), List.mem_of_getElem? (i := 636) (by decide +kernel), List.mem_of_getElem? (i := 637) (by decide +kernel)⟩
theorem lw_p18 : lw_okq (⟨"AyeJars$Reader", "readDraw", "()Z"⟩, 9) := ⟨⟨by decide +kernel, by decide +kernel⟩, List.mem_of_getElem? (i := 158) (by decide +kernel), List.mem_of_getElem? (i := 640) (by decide +kernel), List.mem_of_getElem? (i := 641) (by decide +kernel)⟩
theorem lw_p19 : lw_okq (⟨"AyeJars$Acts", "slot", "(I)LAyeJars$Jars;"⟩, 4) := ⟨⟨by decide +kernel, by decide +kernel⟩, List.mem_of_getElem? (i := 222) (by decide +kernel), List.mem_of_getElem? (i := 682) (by decide +kernel), List.mem_of_getElem? (i := 683) (by decide +kernel)⟩
theorem lw_p20 : lw_okq (⟨"AyeJars$Choices", "forcingSets", "(I)J"⟩, 15) := ⟨⟨by decide +kernel, by decide +kernel⟩, List.mem_of_getElem? (i := 322) (by decide +kernel), List.mem_of_getElem? (i := 942) (by decide +kernel), List.mem_of_getElem? (i := 943) (by decide +kernel)⟩
theorem lw_p21 : lw_okq (⟨"AyeJars$Choices", "extendPlan", "(II)V"⟩, 15) := ⟨⟨by decide +kernel, by decide +kernel⟩, List.mem_of_getElem? (i := 322) (by decide +kernel), List.mem_of_getElem? (i := 950) (by decide +kernel), List.mem_of_getElem? (i := 951) (by decide +kernel)⟩
theorem lw_p22 : lw_okq (⟨"AyeJars$Choices", "weighPlan", "(I)V"⟩, 15) := ⟨⟨by decide +kernel, by decide +kernel⟩, List.mem_of_getElem? (i := 322) (by decide +kernel), List.mem_of_getElem? (i := 954) (by decide +kernel), List.mem_of_getElem? (i := 955) (by decide +kernel)⟩
theorem lw_p23 : lw_okq (⟨"AyeJars$Choices", "countForced", "()I"⟩, 15) := ⟨⟨by decide +kernel, by decide +kernel⟩, List.mem_of_getElem? (i := 322) (by decide +kernel), List.mem_of_getElem? (i := 958) (by decide +kernel), List.mem_of_getElem? (i := 959) (by decide +kernel)⟩
theorem lw_p24 : lw_okq (⟨"AyeJars$Choices", "layTried", "(I)V"⟩, 15) := ⟨⟨by decide +kernel, by decide +kernel⟩, List.mem_of_getElem? (i := 322) (by decide +kernel), List.mem_of_getElem? (i := 962) (by decide +kernel), List.mem_of_getElem? (i := 963) (by decide +kernel)⟩
theorem lw_p25 : lw_okq (⟨"AyeJars$Chances", "passesFromEmpty", "(II)Z"⟩, 6) := ⟨⟨by decide +kernel, by decide +kernel⟩, List.mem_of_getElem? (i := 297) (by decide +kernel), List.mem_of_getElem? (i := 980) (by decide +kernel), List.mem_of_getElem? (i := 981) (by decide +kernel)⟩
theorem lw_p26 : lw_okq (⟨"AyeJars$Chances", "mayAllVote", "(III)Z"⟩, 6) := ⟨⟨by decide +kernel, by decide +kernel⟩, List.mem_of_getElem? (i := 297) (by decide +kernel), List.mem_of_getElem? (i := 1034) (by decide +kernel), List.mem_of_getElem? (i := 1035) (by decide +kernel)⟩
theorem lw_p27 : lw_okq (⟨"AyeJars$Chances", "weightOf", "(II)J"⟩, 6) := ⟨⟨by decide +kernel, by decide +kernel⟩, List.mem_of_getElem? (i := 297) (by decide +kernel), List.mem_of_getElem? (i := 1049) (by decide +kernel), List.mem_of_getElem? (i := 1050) (by decide +kernel)⟩
theorem lw_p28 : lw_okq (⟨"AyeJars$Choices", "extendQueue", "(III)V"⟩, 15) := ⟨⟨by decide +kernel, by decide +kernel⟩, List.mem_of_getElem? (i := 322) (by decide +kernel), List.mem_of_getElem? (i := 1083) (by decide +kernel), List.mem_of_getElem? (i := 1084) (by decide +kernel)⟩
theorem lw_p29 : lw_okq (⟨"AyeJars$Choices", "weighQueue", "(II)V"⟩, 15) := ⟨⟨by decide +kernel, by decide +kernel⟩, List.mem_of_getElem? (i := 322) (by decide +kernel), List.mem_of_getElem? (i := 1087) (by decide +kernel), List.mem_of_getElem? (i := 1088) (by decide +kernel)⟩
theorem lw_p30 : lw_okq (⟨"AyeJars$Choices", "fillShaken", "(II)V"⟩, 15) := ⟨⟨by decide +kernel, by decide +kernel⟩, List.mem_of_getElem? (i := 322) (by decide +kernel), List.mem_of_getElem? (i := 1117) (by decide +kernel), List.mem_of_getElem? (i := 1118) (by decide +kernel)⟩
theorem lw_p31 : lw_okq (⟨"AyeJars$Choices", "weighSabotage", "(II)V"⟩, 15) := ⟨⟨by decide +kernel, by decide +kernel⟩, List.mem_of_getElem? (i := 322) (by decide +kernel), List.mem_of_getElem? (i := 1122) (by decide +kernel), List.mem_of_getElem? (i := 1123) (by decide +kernel)⟩
def lw_privs_2 : List (MethodName × Nat) := [(⟨"AyeJars$Reader", "readToken", "(I)Z"⟩, 9), (⟨"AyeJars$Reader", "readYawn", "()Z"⟩, 9), (⟨"AyeJars$Reader", "readDraw", "()Z"⟩, 9), (⟨"AyeJars$Acts", "slot", "(I)LAyeJars$Jars;"⟩, 4), (⟨"AyeJars$Choices", "forcingSets", "(I)J"⟩, 15), (⟨"AyeJars$Choices", "extendPlan", "(II)V"⟩, 15), (⟨"AyeJars$Choices", "weighPlan", "(I)V"⟩, 15), (⟨"AyeJars$Choices", "countForced", "()I"⟩, 15), (⟨"AyeJars$Choices", "layTried", "(I)V"⟩, 15), (⟨"AyeJars$Chances", "passesFromEmpty", "(II)Z"⟩, 6), (⟨"AyeJars$Chances", "mayAllVote", "(III)Z"⟩, 6), (⟨"AyeJars$Chances", "weightOf", "(II)J"⟩, 6), (⟨"AyeJars$Choices", "extendQueue", "(III)V"⟩, 15), (⟨"AyeJars$Choices", "weighQueue", "(II)V"⟩, 15), (⟨"AyeJars$Choices", "fillShaken", "(II)V"⟩, 15), (⟨"AyeJars$Choices", "weighSabotage", "(II)V"⟩, 15)]
theorem lw_r2 : ∀ q ∈ lw_privs_2, lw_okq q := List.forall_mem_cons.mpr ⟨lw_p16, List.forall_mem_cons.mpr ⟨lw_p17, List.forall_mem_cons.mpr ⟨lw_p18, List.forall_mem_cons.mpr ⟨lw_p19, List.forall_mem_cons.mpr ⟨lw_p20, List.forall_mem_cons.mpr ⟨lw_p21, List.forall_mem_cons.mpr ⟨lw_p22, List.forall_mem_cons.mpr ⟨lw_p23, List.forall_mem_cons.mpr ⟨lw_p24, List.forall_mem_cons.mpr ⟨lw_p25, List.forall_mem_cons.mpr ⟨lw_p26, List.forall_mem_cons.mpr ⟨lw_p27, List.forall_mem_cons.mpr ⟨lw_p28, List.forall_mem_cons.mpr ⟨lw_p29, List.forall_mem_cons.mpr ⟨lw_p30, List.forall_mem_cons.mpr ⟨lw_p31, fun _ h => absurd h List.not_mem_nil⟩⟩⟩⟩⟩⟩⟩⟩⟩⟩⟩⟩⟩⟩⟩⟩
theorem lw_p32 : lw_okq (⟨"AyeJars$Nose", "fadeStrangeJars", "()V"⟩, 10) := ⟨⟨by decide +kernel, by decide +kernel⟩, List.mem_of_getElem? (i := 378) (by decide +kernel), List.mem_of_getElem? (i := 1206) (by decide +kernel), List.mem_of_getElem? (i := 1207) (by decide +kernel)⟩
theorem lw_p33 : lw_okq (⟨"AyeJars$Nose", "agrees", "(II)Z"⟩, 10) := ⟨⟨by decide +kernel, by decide +kernel⟩, List.mem_of_getElem? (i := 378) (by decide +kernel), List.mem_of_getElem? (i := 1213) (by decide +kernel), List.mem_of_getElem? (i := 1214) (by decide +kernel)⟩
theorem lw_p34 : lw_okq (⟨"AyeJars", "isBox", "(I)Z"⟩, 14) := ⟨⟨by decide +kernel, by decide +kernel⟩, List.mem_of_getElem? (i := 24) (by decide +kernel), List.mem_of_getElem? (i := 1250) (by decide +kernel), List.mem_of_getElem? (i := 1251) (by decide +kernel)⟩
theorem lw_p35 : lw_okq (⟨"AyeJarsModel", "clearBank", "()V"⟩, 66) := ⟨⟨by decide +kernel, by decide +kernel⟩, List.mem_of_getElem? (i := 1275) (by decide +kernel), List.mem_of_getElem? (i := 1281) (by decide +kernel), List.mem_of_getElem? (i := 1282) (by decide +kernel)⟩
theorem lw_p36 : lw_okq (⟨"AyeJarsModel", "startAnew", "()V"⟩, 66) := ⟨⟨by decide +kernel, by decide +kernel⟩, List.mem_of_getElem? (i := 1275) (by decide +kernel), List.mem_of_getElem? (i := 1285) (by decide +kernel), List.mem_of_getElem? (i := 1286) (by decide +kernel)⟩
theorem lw_p37 : lw_okq (⟨"AyeJarsModel", "goOn", "()V"⟩, 66) := ⟨⟨by decide +kernel, by decide +kernel⟩, List.mem_of_getElem? (i := 1275) (by decide +kernel), List.mem_of_getElem? (i := 1492) (by decide +kernel), List.mem_of_getElem? (i := 1493) (by decide +kernel)⟩
theorem lw_p38 : lw_okq (⟨"AyeJarsModel", "sign", "(I)I"⟩, 66) := ⟨⟨by decide +kernel, by decide +kernel⟩, List.mem_of_getElem? (i := 1275) (by decide +kernel), List.mem_of_getElem? (i := 1496) (by decide +kernel), List.mem_of_getElem? (i := 1497) (by decide +kernel)⟩
theorem lw_p39 : lw_okq (⟨"AyeJarsModel", "isGood", "()Z"⟩, 66) := ⟨⟨by decide +kernel, by decide +kernel⟩, List.mem_of_getElem? (i := 1275) (by decide +kernel), List.mem_of_getElem? (i := 1530) (by decide +kernel), List.mem_of_getElem? (i := 1531) (by decide +kernel)⟩
theorem lw_p40 : lw_okq (⟨"AyeJarsModel", "readLine", "()V"⟩, 66) := ⟨⟨by decide +kernel, by decide +kernel⟩, List.mem_of_getElem? (i := 1275) (by decide +kernel), List.mem_of_getElem? (i := 1534) (by decide +kernel), List.mem_of_getElem? (i := 1535) (by decide +kernel)⟩
theorem lw_p41 : lw_okq (⟨"AyeJarsModel", "isFull", "()Z"⟩, 66) := ⟨⟨by decide +kernel, by decide +kernel⟩, List.mem_of_getElem? (i := 1275) (by decide +kernel), List.mem_of_getElem? (i := 1538) (by decide +kernel), List.mem_of_getElem? (i := 1539) (by decide +kernel)⟩
theorem lw_p42 : lw_okq (⟨"AyeJarsModel", "isWord", "(J)Z"⟩, 66) := ⟨⟨by decide +kernel, by decide +kernel⟩, List.mem_of_getElem? (i := 1275) (by decide +kernel), List.mem_of_getElem? (i := 1542) (by decide +kernel), List.mem_of_getElem? (i := 1543) (by decide +kernel)⟩
theorem lw_p43 : lw_okq (⟨"AyeJarsModel", "misplaced", "()V"⟩, 66) := ⟨⟨by decide +kernel, by decide +kernel⟩, List.mem_of_getElem? (i := 1275) (by decide +kernel), List.mem_of_getElem? (i := 1546) (by decide +kernel), List.mem_of_getElem? (i := 1547) (by decide +kernel)⟩
theorem lw_p44 : lw_okq (⟨"AyeJarsModel", "fails", "(II)V"⟩, 66) := ⟨⟨by decide +kernel, by decide +kernel⟩, List.mem_of_getElem? (i := 1275) (by decide +kernel), List.mem_of_getElem? (i := 1550) (by decide +kernel), List.mem_of_getElem? (i := 1551) (by decide +kernel)⟩
theorem lw_p45 : lw_okq (⟨"AyeJarsModel", "readMember", "()V"⟩, 66) := ⟨⟨by decide +kernel, by decide +kernel⟩, List.mem_of_getElem? (i := 1275) (by decide +kernel), List.mem_of_getElem? (i := 1554) (by decide +kernel), List.mem_of_getElem? (i := 1555) (by decide +kernel)⟩
theorem lw_p46 : lw_okq (⟨"AyeJarsModel", "here", "([JII)I"⟩, 66) := ⟨⟨by decide +kernel, by decide +kernel⟩, List.mem_of_getElem? (i := 1275) (by decide +kernel), List.mem_of_getElem? (i := 1558) (by decide +kernel), List.mem_of_getElem? (i := 1559) (by decide +kernel)⟩
theorem lw_p47 : lw_okq (⟨"AyeJarsModel", "fresh", "(I)J"⟩, 66) := ⟨⟨by decide +kernel, by decide +kernel⟩, List.mem_of_getElem? (i := 1275) (by decide +kernel), List.mem_of_getElem? (i := 1562) (by decide +kernel), List.mem_of_getElem? (i := 1563) (by decide +kernel)⟩
def lw_privs_3 : List (MethodName × Nat) := [(⟨"AyeJars$Nose", "fadeStrangeJars", "()V"⟩, 10), (⟨"AyeJars$Nose", "agrees", "(II)Z"⟩, 10), (⟨"AyeJars", "isBox", "(I)Z"⟩, 14), (⟨"AyeJarsModel", "clearBank", "()V"⟩, 66), (⟨"AyeJarsModel", "startAnew", "()V"⟩, 66), (⟨"AyeJarsModel", "goOn", "()V"⟩, 66), (⟨"AyeJarsModel", "sign", "(I)I"⟩, 66), (⟨"AyeJarsModel", "isGood", "()Z"⟩, 66), (⟨"AyeJarsModel", "readLine", "()V"⟩, 66), (⟨"AyeJarsModel", "isFull", "()Z"⟩, 66), (⟨"AyeJarsModel", "isWord", "(J)Z"⟩, 66), (⟨"AyeJarsModel", "misplaced", "()V"⟩, 66), (⟨"AyeJarsModel", "fails", "(II)V"⟩, 66), (⟨"AyeJarsModel", "readMember", "()V"⟩, 66), (⟨"AyeJarsModel", "here", "([JII)I"⟩, 66), (⟨"AyeJarsModel", "fresh", "(I)J"⟩, 66)]
theorem lw_r3 : ∀ q ∈ lw_privs_3, lw_okq q := List.forall_mem_cons.mpr ⟨lw_p32, List.forall_mem_cons.mpr ⟨lw_p33, List.forall_mem_cons.mpr ⟨lw_p34, List.forall_mem_cons.mpr ⟨lw_p35, List.forall_mem_cons.mpr ⟨lw_p36, List.forall_mem_cons.mpr ⟨lw_p37, List.forall_mem_cons.mpr ⟨lw_p38, List.forall_mem_cons.mpr ⟨lw_p39, List.forall_mem_cons.mpr ⟨lw_p40, List.forall_mem_cons.mpr ⟨lw_p41, List.forall_mem_cons.mpr ⟨lw_p42, List.forall_mem_cons.mpr ⟨lw_p43, List.forall_mem_cons.mpr ⟨lw_p44, List.forall_mem_cons.mpr ⟨lw_p45, List.forall_mem_cons.mpr ⟨lw_p46, List.forall_mem_cons.mpr ⟨lw_p47, fun _ h => absurd h List.not_mem_nil⟩⟩⟩⟩⟩⟩⟩⟩⟩⟩⟩⟩⟩⟩⟩⟩
theorem lw_p48 : lw_okq (⟨"AyeJarsModel", "after", "(JII)I"⟩, 66) := ⟨⟨by decide +kernel, by decide +kernel⟩, List.mem_of_getElem? (i := 1275) (by decide +kernel), List.mem_of_getElem? (i := 1566) (by decide +kernel), List.mem_of_getElem? (i := 1567) (by decide +kernel)⟩
theorem lw_p49 : lw_okq (⟨"AyeJarsModel", "must", "(Z)V"⟩, 66) := ⟨⟨by decide +kernel, by decide +kernel⟩, List.mem_of_getElem? (i := 1275) (by decide +kernel), List.mem_of_getElem? (i := 1570) (by decide +kernel), List.mem_of_getElem? (i := 1571) (by decide +kernel)⟩
theorem lw_p50 : lw_okq (⟨"AyeJarsModel", "numeral", "(II)I"⟩, 66) := ⟨⟨by decide +kernel, by decide +kernel⟩, List.mem_of_getElem? (i := 1275) (by decide +kernel), List.mem_of_getElem? (i := 1574) (by decide +kernel), List.mem_of_getElem? (i := 1575) (by decide +kernel)⟩
theorem lw_p51 : lw_okq (⟨"AyeJarsModel", "perhaps", "(JI)I"⟩, 66) := ⟨⟨by decide +kernel, by decide +kernel⟩, List.mem_of_getElem? (i := 1275) (by decide +kernel), List.mem_of_getElem? (i := 1578) (by decide +kernel), List.mem_of_getElem? (i := 1579) (by decide +kernel)⟩
theorem lw_p52 : lw_okq (⟨"AyeJarsModel", "readBill", "()V"⟩, 66) := ⟨⟨by decide +kernel, by decide +kernel⟩, List.mem_of_getElem? (i := 1275) (by decide +kernel), List.mem_of_getElem? (i := 1582) (by decide +kernel), List.mem_of_getElem? (i := 1583) (by decide +kernel)⟩
theorem lw_p53 : lw_okq (⟨"AyeJarsModel", "readRule", "(I)V"⟩, 66) := ⟨⟨by decide +kernel, by decide +kernel⟩, List.mem_of_getElem? (i := 1275) (by decide +kernel), List.mem_of_getElem? (i := 1586) (by decide +kernel), List.mem_of_getElem? (i := 1587) (by decide +kernel)⟩
theorem lw_p54 : lw_okq (⟨"AyeJarsModel", "e", "()V"⟩, 66) := ⟨⟨by decide +kernel, by decide +kernel⟩, List.mem_of_getElem? (i := 1275) (by decide +kernel), List.mem_of_getElem? (i := 1590) (by decide +kernel), List.mem_of_getElem? (i := 1591) (by decide +kernel)⟩
theorem lw_p55 : lw_okq (⟨"AyeJarsModel", "pushE", "(II)V"⟩, 66) := ⟨⟨by decide +kernel, by decide +kernel⟩, List.mem_of_getElem? (i := 1275) (by decide +kernel), List.mem_of_getElem? (i := 1594) (by decide +kernel), List.mem_of_getElem? (i := 1595) (by decide +kernel)⟩
theorem lw_p56 : lw_okq (⟨"AyeJarsModel", "unit", "()Z"⟩, 66) := ⟨⟨by decide +kernel, by decide +kernel⟩, List.mem_of_getElem? (i := 1275) (by decide +kernel), List.mem_of_getElem? (i := 1598) (by decide +kernel), List.mem_of_getElem? (i := 1599) (by decide +kernel)⟩
theorem lw_p57 : lw_okq (⟨"AyeJarsModel", "isSignHere", "(I)Z"⟩, 66) := ⟨⟨by decide +kernel, by decide +kernel⟩, List.mem_of_getElem? (i := 1275) (by decide +kernel), List.mem_of_getElem? (i := 1602) (by decide +kernel), List.mem_of_getElem? (i := 1603) (by decide +kernel)⟩
theorem lw_p58 : lw_okq (⟨"AyeJarsModel", "wordHere", "()I"⟩, 66) := ⟨⟨by decide +kernel, by decide +kernel⟩, List.mem_of_getElem? (i := 1275) (by decide +kernel), List.mem_of_getElem? (i := 1606) (by decide +kernel), List.mem_of_getElem? (i := 1607) (by decide +kernel)⟩
theorem lw_p59 : lw_okq (⟨"AyeJarsModel", "emit", "(II)V"⟩, 66) := ⟨⟨by decide +kernel, by decide +kernel⟩, List.mem_of_getElem? (i := 1275) (by decide +kernel), List.mem_of_getElem? (i := 1610) (by decide +kernel), List.mem_of_getElem? (i := 1611) (by decide +kernel)⟩
theorem lw_p60 : lw_okq (⟨"AyeJarsModel", "behindUnit", "()Z"⟩, 66) := ⟨⟨by decide +kernel, by decide +kernel⟩, List.mem_of_getElem? (i := 1275) (by decide +kernel), List.mem_of_getElem? (i := 1614) (by decide +kernel), List.mem_of_getElem? (i := 1615) (by decide +kernel)⟩
theorem lw_p61 : lw_okq (⟨"AyeJarsModel", "rankHere", "()I"⟩, 66) := ⟨⟨by decide +kernel, by decide +kernel⟩, List.mem_of_getElem? (i := 1275) (by decide +kernel), List.mem_of_getElem? (i := 1618) (by decide +kernel), List.mem_of_getElem? (i := 1619) (by decide +kernel)⟩
theorem lw_p62 : lw_okq (⟨"AyeJarsModel", "isCompared", "()Z"⟩, 66) := ⟨⟨by decide +kernel, by decide +kernel⟩, List.mem_of_getElem? (i := 1275) (by decide +kernel), List.mem_of_getElem? (i := 1622) (by decide +kernel), List.mem_of_getElem? (i := 1623) (by decide +kernel)⟩
theorem lw_p63 : lw_okq (⟨"AyeJarsModel", "isMember", "(I)Z"⟩, 66) := ⟨⟨by decide +kernel, by decide +kernel⟩, List.mem_of_getElem? (i := 1275) (by decide +kernel), List.mem_of_getElem? (i := 1634) (by decide +kernel), List.mem_of_getElem? (i := 1635) (by decide +kernel)⟩
def lw_privs_4 : List (MethodName × Nat) := [(⟨"AyeJarsModel", "after", "(JII)I"⟩, 66), (⟨"AyeJarsModel", "must", "(Z)V"⟩, 66), (⟨"AyeJarsModel", "numeral", "(II)I"⟩, 66), (⟨"AyeJarsModel", "perhaps", "(JI)I"⟩, 66), (⟨"AyeJarsModel", "readBill", "()V"⟩, 66), (⟨"AyeJarsModel", "readRule", "(I)V"⟩, 66), (⟨"AyeJarsModel", "e", "()V"⟩, 66), (⟨"AyeJarsModel", "pushE", "(II)V"⟩, 66), (⟨"AyeJarsModel", "unit", "()Z"⟩, 66), (⟨"AyeJarsModel", "isSignHere", "(I)Z"⟩, 66), (⟨"AyeJarsModel", "wordHere", "()I"⟩, 66), (⟨"AyeJarsModel", "emit", "(II)V"⟩, 66), (⟨"AyeJarsModel", "behindUnit", "()Z"⟩, 66), (⟨"AyeJarsModel", "rankHere", "()I"⟩, 66), (⟨"AyeJarsModel", "isCompared", "()Z"⟩, 66), (⟨"AyeJarsModel", "isMember", "(I)Z"⟩, 66)]
theorem lw_r4 : ∀ q ∈ lw_privs_4, lw_okq q := List.forall_mem_cons.mpr ⟨lw_p48, List.forall_mem_cons.mpr ⟨lw_p49, List.forall_mem_cons.mpr ⟨lw_p50, List.forall_mem_cons.mpr ⟨lw_p51, List.forall_mem_cons.mpr ⟨lw_p52, List.forall_mem_cons.mpr ⟨lw_p53, List.forall_mem_cons.mpr ⟨lw_p54, List.forall_mem_cons.mpr ⟨lw_p55, List.forall_mem_cons.mpr ⟨lw_p56, List.forall_mem_cons.mpr ⟨lw_p57, List.forall_mem_cons.mpr ⟨lw_p58, List.forall_mem_cons.mpr ⟨lw_p59, List.forall_mem_cons.mpr ⟨lw_p60, List.forall_mem_cons.mpr ⟨lw_p61, List.forall_mem_cons.mpr ⟨lw_p62, List.forall_mem_cons.mpr ⟨lw_p63, fun _ h => absurd h List.not_mem_nil⟩⟩⟩⟩⟩⟩⟩⟩⟩⟩⟩⟩⟩⟩⟩⟩
theorem lw_p64 : lw_okq (⟨"AyeJarsModel", "many", "()I"⟩, 66) := ⟨⟨by decide +kernel, by decide +kernel⟩, List.mem_of_getElem? (i := 1275) (by decide +kernel), List.mem_of_getElem? (i := 1638) (by decide +kernel), List.mem_of_getElem? (i := 1639) (by decide +kernel)⟩
theorem lw_p65 : lw_okq (⟨"AyeJarsModel", "mayVoteFor", "(I)I"⟩, 66) := ⟨⟨by decide +kernel, by decide +kernel⟩, List.mem_of_getElem? (i := 1275) (by decide +kernel), List.mem_of_getElem? (i := 1648) (by decide +kernel), List.mem_of_getElem? (i := 1649) (by decide +kernel)⟩
theorem lw_p66 : lw_okq (⟨"AyeJarsModel", "mayVote", "(II)Z"⟩, 66) := ⟨⟨by decide +kernel, by decide +kernel⟩, List.mem_of_getElem? (i := 1275) (by decide +kernel), List.mem_of_getElem? (i := 1652) (by decide +kernel), List.mem_of_getElem? (i := 1653) (by decide +kernel)⟩
theorem lw_p67 : lw_okq (⟨"AyeJarsModel", "isLeft", "(I)Z"⟩, 66) := ⟨⟨by decide +kernel, by decide +kernel⟩, List.mem_of_getElem? (i := 1275) (by decide +kernel), List.mem_of_getElem? (i := 1656) (by decide +kernel), List.mem_of_getElem? (i := 1657) (by decide +kernel)⟩
theorem lw_p68 : lw_okq (⟨"AyeJarsModel", "isBill", "(I)Z"⟩, 66) := ⟨⟨by decide +kernel, by decide +kernel⟩, List.mem_of_getElem? (i := 1275) (by decide +kernel), List.mem_of_getElem? (i := 1660) (by decide +kernel), List.mem_of_getElem? (i := 1661) (by decide +kernel)⟩
theorem lw_p69 : lw_okq (⟨"AyeJarsModel", "breathedInto", "(I)I"⟩, 66) := ⟨⟨by decide +kernel, by decide +kernel⟩, List.mem_of_getElem? (i := 1275) (by decide +kernel), List.mem_of_getElem? (i := 1664) (by decide +kernel), List.mem_of_getElem? (i := 1665) (by decide +kernel)⟩
theorem lw_p70 : lw_okq (⟨"AyeJarsModel", "needOf", "(I)I"⟩, 66) := ⟨⟨by decide +kernel, by decide +kernel⟩, List.mem_of_getElem? (i := 1275) (by decide +kernel), List.mem_of_getElem? (i := 1672) (by decide +kernel), List.mem_of_getElem? (i := 1673) (by decide +kernel)⟩
theorem lw_p71 : lw_okq (⟨"AyeJarsModel", "dayOf", "(I)I"⟩, 66) := ⟨⟨by decide +kernel, by decide +kernel⟩, List.mem_of_getElem? (i := 1275) (by decide +kernel), List.mem_of_getElem? (i := 1676) (by decide +kernel), List.mem_of_getElem? (i := 1677) (by decide +kernel)⟩
theorem lw_p72 : lw_okq (⟨"AyeJarsModel", "lossOf", "(I)I"⟩, 66) := ⟨⟨by decide +kernel, by decide +kernel⟩, List.mem_of_getElem? (i := 1275) (by decide +kernel), List.mem_of_getElem? (i := 1680) (by decide +kernel), List.mem_of_getElem? (i := 1681) (by decide +kernel)⟩
theorem lw_p73 : lw_okq (⟨"AyeJarsModel", "sumOf", "([II)I"⟩, 66) := ⟨⟨by decide +kernel, by decide +kernel⟩, List.mem_of_getElem? (i := 1275) (by decide +kernel), List.mem_of_getElem? (i := 1684) (by decide +kernel), List.mem_of_getElem? (i := 1685) (by decide +kernel)⟩
theorem lw_p74 : lw_okq (⟨"AyeJarsModel", "fadesNow", "(I)I"⟩, 66) := ⟨⟨by decide +kernel, by decide +kernel⟩, List.mem_of_getElem? (i := 1275) (by decide +kernel), List.mem_of_getElem? (i := 1688) (by decide +kernel), List.mem_of_getElem? (i := 1689) (by decide +kernel)⟩
theorem lw_p75 : lw_okq (⟨"AyeJarsModel", "layAside", "(I)V"⟩, 66) := ⟨⟨by decide +kernel, by decide +kernel⟩, List.mem_of_getElem? (i := 1275) (by decide +kernel), List.mem_of_getElem? (i := 1692) (by decide +kernel), List.mem_of_getElem? (i := 1693) (by decide +kernel)⟩
theorem lw_p76 : lw_okq (⟨"AyeJarsModel", "fades", "()I"⟩, 66) := ⟨⟨by decide +kernel, by decide +kernel⟩, List.mem_of_getElem? (i := 1275) (by decide +kernel), List.mem_of_getElem? (i := 1696) (by decide +kernel), List.mem_of_getElem? (i := 1697) (by decide +kernel)⟩
theorem lw_p77 : lw_okq (⟨"AyeJarsModel", "comes", "()I"⟩, 66) := ⟨⟨by decide +kernel, by decide +kernel⟩, List.mem_of_getElem? (i := 1275) (by decide +kernel), List.mem_of_getElem? (i := 1700) (by decide +kernel), List.mem_of_getElem? (i := 1701) (by decide +kernel)⟩
theorem lw_p78 : lw_okq (⟨"AyeJarsModel", "asked", "(II)I"⟩, 66) := ⟨⟨by decide +kernel, by decide +kernel⟩, List.mem_of_getElem? (i := 1275) (by decide +kernel), List.mem_of_getElem? (i := 1704) (by decide +kernel), List.mem_of_getElem? (i := 1705) (by decide +kernel)⟩
theorem lw_p79 : lw_okq (⟨"AyeJarsModel", "wouldPass", "(I)Z"⟩, 66) := ⟨⟨by decide +kernel, by decide +kernel⟩, List.mem_of_getElem? (i := 1275) (by decide +kernel), List.mem_of_getElem? (i := 1714) (by decide +kernel), List.mem_of_getElem? (i := 1715) (by decide +kernel)⟩
def lw_privs_5 : List (MethodName × Nat) := [(⟨"AyeJarsModel", "many", "()I"⟩, 66), (⟨"AyeJarsModel", "mayVoteFor", "(I)I"⟩, 66), (⟨"AyeJarsModel", "mayVote", "(II)Z"⟩, 66), (⟨"AyeJarsModel", "isLeft", "(I)Z"⟩, 66), (⟨"AyeJarsModel", "isBill", "(I)Z"⟩, 66), (⟨"AyeJarsModel", "breathedInto", "(I)I"⟩, 66), (⟨"AyeJarsModel", "needOf", "(I)I"⟩, 66), (⟨"AyeJarsModel", "dayOf", "(I)I"⟩, 66), (⟨"AyeJarsModel", "lossOf", "(I)I"⟩, 66), (⟨"AyeJarsModel", "sumOf", "([II)I"⟩, 66), (⟨"AyeJarsModel", "fadesNow", "(I)I"⟩, 66), (⟨"AyeJarsModel", "layAside", "(I)V"⟩, 66), (⟨"AyeJarsModel", "fades", "()I"⟩, 66), (⟨"AyeJarsModel", "comes", "()I"⟩, 66), (⟨"AyeJarsModel", "asked", "(II)I"⟩, 66), (⟨"AyeJarsModel", "wouldPass", "(I)Z"⟩, 66)]
theorem lw_r5 : ∀ q ∈ lw_privs_5, lw_okq q := List.forall_mem_cons.mpr ⟨lw_p64, List.forall_mem_cons.mpr ⟨lw_p65, List.forall_mem_cons.mpr ⟨lw_p66, List.forall_mem_cons.mpr ⟨lw_p67, List.forall_mem_cons.mpr ⟨lw_p68, List.forall_mem_cons.mpr ⟨lw_p69, List.forall_mem_cons.mpr ⟨lw_p70, List.forall_mem_cons.mpr ⟨lw_p71, List.forall_mem_cons.mpr ⟨lw_p72, List.forall_mem_cons.mpr ⟨lw_p73, List.forall_mem_cons.mpr ⟨lw_p74, List.forall_mem_cons.mpr ⟨lw_p75, List.forall_mem_cons.mpr ⟨lw_p76, List.forall_mem_cons.mpr ⟨lw_p77, List.forall_mem_cons.mpr ⟨lw_p78, List.forall_mem_cons.mpr ⟨lw_p79, fun _ h => absurd h List.not_mem_nil⟩⟩⟩⟩⟩⟩⟩⟩⟩⟩⟩⟩⟩⟩⟩⟩
theorem lw_p80 : lw_okq (⟨"AyeJarsModel", "openedAt", "(I)I"⟩, 66) := ⟨⟨by decide +kernel, by decide +kernel⟩, List.mem_of_getElem? (i := 1275) (by decide +kernel), List.mem_of_getElem? (i := 1718) (by decide +kernel), List.mem_of_getElem? (i := 1719) (by decide +kernel)⟩
theorem lw_p81 : lw_okq (⟨"AyeJarsModel", "onDay", "(I)I"⟩, 66) := ⟨⟨by decide +kernel, by decide +kernel⟩, List.mem_of_getElem? (i := 1275) (by decide +kernel), List.mem_of_getElem? (i := 1722) (by decide +kernel), List.mem_of_getElem? (i := 1723) (by decide +kernel)⟩
theorem lw_p82 : lw_okq (⟨"AyeJarsModel", "leave", "(I)V"⟩, 66) := ⟨⟨by decide +kernel, by decide +kernel⟩, List.mem_of_getElem? (i := 1275) (by decide +kernel), List.mem_of_getElem? (i := 1726) (by decide +kernel), List.mem_of_getElem? (i := 1727) (by decide +kernel)⟩
theorem lw_p83 : lw_okq (⟨"AyeJarsModel", "keepAct", "()V"⟩, 66) := ⟨⟨by decide +kernel, by decide +kernel⟩, List.mem_of_getElem? (i := 1275) (by decide +kernel), List.mem_of_getElem? (i := 1746) (by decide +kernel), List.mem_of_getElem? (i := 1747) (by decide +kernel)⟩
theorem lw_p84 : lw_okq (⟨"AyeJarsModel", "canShake", "(I)Z"⟩, 66) := ⟨⟨by decide +kernel, by decide +kernel⟩, List.mem_of_getElem? (i := 1275) (by decide +kernel), List.mem_of_getElem? (i := 1754) (by decide +kernel), List.mem_of_getElem? (i := 1755) (by decide +kernel)⟩
theorem lw_p85 : lw_okq (⟨"AyeJarsModel", "isEmpty", "(I)Z"⟩, 66) := ⟨⟨by decide +kernel, by decide +kernel⟩, List.mem_of_getElem? (i := 1275) (by decide +kernel), List.mem_of_getElem? (i := 1758) (by decide +kernel), List.mem_of_getElem? (i := 1759) (by decide +kernel)⟩
theorem lw_p86 : lw_okq (⟨"AyeJarsModel", "canJoin", "(II)Z"⟩, 66) := ⟨⟨by decide +kernel, by decide +kernel⟩, List.mem_of_getElem? (i := 1275) (by decide +kernel), List.mem_of_getElem? (i := 1770) (by decide +kernel), List.mem_of_getElem? (i := 1771) (by decide +kernel)⟩
theorem lw_p87 : lw_okq (⟨"AyeJarsModel", "joinBoth", "(II)V"⟩, 66) := ⟨⟨by decide +kernel, by decide +kernel⟩, List.mem_of_getElem? (i := 1275) (by decide +kernel), List.mem_of_getElem? (i := 1774) (by decide +kernel), List.mem_of_getElem? (i := 1775) (by decide +kernel)⟩
theorem lw_p88 : lw_okq (⟨"AyeJarsModel", "goDay", "()I"⟩, 66) := ⟨⟨by decide +kernel, by decide +kernel⟩, List.mem_of_getElem? (i := 1275) (by decide +kernel), List.mem_of_getElem? (i := 1782) (by decide +kernel), List.mem_of_getElem? (i := 1783) (by decide +kernel)⟩
theorem lw_p89 : lw_okq (⟨"AyeJarsModel", "exchange", "()V"⟩, 66) := ⟨⟨by decide +kernel, by decide +kernel⟩, List.mem_of_getElem? (i := 1275) (by decide +kernel), List.mem_of_getElem? (i := 1790) (by decide +kernel), List.mem_of_getElem? (i := 1791) (by decide +kernel)⟩
theorem lw_p90 : lw_okq (⟨"AyeJarsModel", "openedWith", "(II)I"⟩, 66) := ⟨⟨by decide +kernel, by decide +kernel⟩, List.mem_of_getElem? (i := 1275) (by decide +kernel), List.mem_of_getElem? (i := 1813) (by decide +kernel), List.mem_of_getElem? (i := 1814) (by decide +kernel)⟩
theorem lw_p91 : lw_okq (⟨"AyeJarsModel", "breathe", "(I)V"⟩, 66) := ⟨⟨by decide +kernel, by decide +kernel⟩, List.mem_of_getElem? (i := 1275) (by decide +kernel), List.mem_of_getElem? (i := 1817) (by decide +kernel), List.mem_of_getElem? (i := 1818) (by decide +kernel)⟩
theorem lw_p92 : lw_okq (⟨"AyeJarsModel", "openedLater", "(III)I"⟩, 66) := ⟨⟨by decide +kernel, by decide +kernel⟩, List.mem_of_getElem? (i := 1275) (by decide +kernel), List.mem_of_getElem? (i := 1825) (by decide +kernel), List.mem_of_getElem? (i := 1826) (by decide +kernel)⟩
theorem lw_p93 : lw_okq (⟨"AyeJarsModel", "isSet", "(I)Z"⟩, 66) := ⟨⟨by decide +kernel, by decide +kernel⟩, List.mem_of_getElem? (i := 1275) (by decide +kernel), List.mem_of_getElem? (i := 1833) (by decide +kernel), List.mem_of_getElem? (i := 1834) (by decide +kernel)⟩
theorem lw_p94 : lw_okq (⟨"AyeJarsModel", "openedShaken", "(II)I"⟩, 66) := ⟨⟨by decide +kernel, by decide +kernel⟩, List.mem_of_getElem? (i := 1275) (by decide +kernel), List.mem_of_getElem? (i := 1845) (by decide +kernel), List.mem_of_getElem? (i := 1846) (by decide +kernel)⟩
theorem lw_p95 : lw_okq (⟨"AyeJarsModel", "joined", "(II)I"⟩, 66) := ⟨⟨by decide +kernel, by decide +kernel⟩, List.mem_of_getElem? (i := 1275) (by decide +kernel), List.mem_of_getElem? (i := 1857) (by decide +kernel), List.mem_of_getElem? (i := 1858) (by decide +kernel)⟩
def lw_privs_6 : List (MethodName × Nat) := [(⟨"AyeJarsModel", "openedAt", "(I)I"⟩, 66), (⟨"AyeJarsModel", "onDay", "(I)I"⟩, 66), (⟨"AyeJarsModel", "leave", "(I)V"⟩, 66), (⟨"AyeJarsModel", "keepAct", "()V"⟩, 66), (⟨"AyeJarsModel", "canShake", "(I)Z"⟩, 66), (⟨"AyeJarsModel", "isEmpty", "(I)Z"⟩, 66), (⟨"AyeJarsModel", "canJoin", "(II)Z"⟩, 66), (⟨"AyeJarsModel", "joinBoth", "(II)V"⟩, 66), (⟨"AyeJarsModel", "goDay", "()I"⟩, 66), (⟨"AyeJarsModel", "exchange", "()V"⟩, 66), (⟨"AyeJarsModel", "openedWith", "(II)I"⟩, 66), (⟨"AyeJarsModel", "breathe", "(I)V"⟩, 66), (⟨"AyeJarsModel", "openedLater", "(III)I"⟩, 66), (⟨"AyeJarsModel", "isSet", "(I)Z"⟩, 66), (⟨"AyeJarsModel", "openedShaken", "(II)I"⟩, 66), (⟨"AyeJarsModel", "joined", "(II)I"⟩, 66)]
theorem lw_r6 : ∀ q ∈ lw_privs_6, lw_okq q := List.forall_mem_cons.mpr ⟨lw_p80, List.forall_mem_cons.mpr ⟨lw_p81, List.forall_mem_cons.mpr ⟨lw_p82, List.forall_mem_cons.mpr ⟨lw_p83, List.forall_mem_cons.mpr ⟨lw_p84, List.forall_mem_cons.mpr ⟨lw_p85, List.forall_mem_cons.mpr ⟨lw_p86, List.forall_mem_cons.mpr ⟨lw_p87, List.forall_mem_cons.mpr ⟨lw_p88, List.forall_mem_cons.mpr ⟨lw_p89, List.forall_mem_cons.mpr ⟨lw_p90, List.forall_mem_cons.mpr ⟨lw_p91, List.forall_mem_cons.mpr ⟨lw_p92, List.forall_mem_cons.mpr ⟨lw_p93, List.forall_mem_cons.mpr ⟨lw_p94, List.forall_mem_cons.mpr ⟨lw_p95, fun _ h => absurd h List.not_mem_nil⟩⟩⟩⟩⟩⟩⟩⟩⟩⟩⟩⟩⟩⟩⟩⟩
theorem lw_p96 : lw_okq (⟨"AyeJarsModel", "keepNow", "()V"⟩, 66) := ⟨⟨by decide +kernel, by decide +kernel⟩, List.mem_of_getElem? (i := 1275) (by decide +kernel), List.mem_of_getElem? (i := 1861) (by decide +kernel), List.mem_of_getElem? (i := 1862) (by decide +kernel)⟩
theorem lw_p97 : lw_okq (⟨"AyeJarsModel", "bringBack", "()V"⟩, 66) := ⟨⟨by decide +kernel, by decide +kernel⟩, List.mem_of_getElem? (i := 1275) (by decide +kernel), List.mem_of_getElem? (i := 1865) (by decide +kernel), List.mem_of_getElem? (i := 1866) (by decide +kernel)⟩
theorem lw_p98 : lw_okq (⟨"AyeJarsModel", "layFresh", "(I)V"⟩, 66) := ⟨⟨by decide +kernel, by decide +kernel⟩, List.mem_of_getElem? (i := 1275) (by decide +kernel), List.mem_of_getElem? (i := 1881) (by decide +kernel), List.mem_of_getElem? (i := 1882) (by decide +kernel)⟩
theorem lw_p99 : lw_okq (⟨"AyeJarsModel", "layChoice", "(I)I"⟩, 66) := ⟨⟨by decide +kernel, by decide +kernel⟩, List.mem_of_getElem? (i := 1275) (by decide +kernel), List.mem_of_getElem? (i := 1896) (by decide +kernel), List.mem_of_getElem? (i := 1897) (by decide +kernel)⟩
theorem lw_p100 : lw_okq (⟨"AyeJarsModel", "passedByChoice", "()I"⟩, 66) := ⟨⟨by decide +kernel, by decide +kernel⟩, List.mem_of_getElem? (i := 1275) (by decide +kernel), List.mem_of_getElem? (i := 1900) (by decide +kernel), List.mem_of_getElem? (i := 1901) (by decide +kernel)⟩
theorem lw_p101 : lw_okq (⟨"AyeJarsModel", "passesAlone", "(II)Z"⟩, 66) := ⟨⟨by decide +kernel, by decide +kernel⟩, List.mem_of_getElem? (i := 1275) (by decide +kernel), List.mem_of_getElem? (i := 1908) (by decide +kernel), List.mem_of_getElem? (i := 1909) (by decide +kernel)⟩
theorem lw_p102 : lw_okq (⟨"AyeJarsModel", "mayAll", "(III)Z"⟩, 66) := ⟨⟨by decide +kernel, by decide +kernel⟩, List.mem_of_getElem? (i := 1275) (by decide +kernel), List.mem_of_getElem? (i := 1922) (by decide +kernel), List.mem_of_getElem? (i := 1923) (by decide +kernel)⟩
theorem lw_p103 : lw_okq (⟨"AyeJarsModel", "overParts", "(IIZ)I"⟩, 66) := ⟨⟨by decide +kernel, by decide +kernel⟩, List.mem_of_getElem? (i := 1275) (by decide +kernel), List.mem_of_getElem? (i := 1926) (by decide +kernel), List.mem_of_getElem? (i := 1927) (by decide +kernel)⟩
theorem lw_p104 : lw_okq (⟨"AyeJarsModel", "weightOf", "(II)I"⟩, 66) := ⟨⟨by decide +kernel, by decide +kernel⟩, List.mem_of_getElem? (i := 1275) (by decide +kernel), List.mem_of_getElem? (i := 1930) (by decide +kernel), List.mem_of_getElem? (i := 1931) (by decide +kernel)⟩
theorem lw_p105 : lw_okq (⟨"AyeJarsModel", "partOf", "(III)I"⟩, 66) := ⟨⟨by decide +kernel, by decide +kernel⟩, List.mem_of_getElem? (i := 1275) (by decide +kernel), List.mem_of_getElem? (i := 1934) (by decide +kernel), List.mem_of_getElem? (i := 1935) (by decide +kernel)⟩
theorem lw_p106 : lw_okq (⟨"AyeJarsModel", "layQueue", "(II)Z"⟩, 66) := ⟨⟨by decide +kernel, by decide +kernel⟩, List.mem_of_getElem? (i := 1275) (by decide +kernel), List.mem_of_getElem? (i := 1946) (by decide +kernel), List.mem_of_getElem? (i := 1947) (by decide +kernel)⟩
theorem lw_p107 : lw_okq (⟨"AyeJarsModel", "openedByQueue", "(I)I"⟩, 66) := ⟨⟨by decide +kernel, by decide +kernel⟩, List.mem_of_getElem? (i := 1275) (by decide +kernel), List.mem_of_getElem? (i := 1950) (by decide +kernel), List.mem_of_getElem? (i := 1951) (by decide +kernel)⟩
theorem lw_p108 : lw_okq (⟨"AyeJarsModel", "shakeAll", "(II)I"⟩, 66) := ⟨⟨by decide +kernel, by decide +kernel⟩, List.mem_of_getElem? (i := 1275) (by decide +kernel), List.mem_of_getElem? (i := 1958) (by decide +kernel), List.mem_of_getElem? (i := 1959) (by decide +kernel)⟩
theorem lw_p109 : lw_okq (⟨"AyeJarsModel", "forced", "()I"⟩, 66) := ⟨⟨by decide +kernel, by decide +kernel⟩, List.mem_of_getElem? (i := 1275) (by decide +kernel), List.mem_of_getElem? (i := 1962) (by decide +kernel), List.mem_of_getElem? (i := 1963) (by decide +kernel)⟩
theorem lw_p110 : lw_okq (⟨"AyeJarsModel", "layFits", "(I)V"⟩, 66) := ⟨⟨by decide +kernel, by decide +kernel⟩, List.mem_of_getElem? (i := 1275) (by decide +kernel), List.mem_of_getElem? (i := 1983) (by decide +kernel), List.mem_of_getElem? (i := 1984) (by decide +kernel)⟩
theorem lw_p111 : lw_okq (⟨"AyeJarsModel", "doesFit", "(II)Z"⟩, 66) := ⟨⟨by decide +kernel, by decide +kernel⟩, List.mem_of_getElem? (i := 1275) (by decide +kernel), List.mem_of_getElem? (i := 1987) (by decide +kernel), List.mem_of_getElem? (i := 1988) (by decide +kernel)⟩
def lw_privs_7 : List (MethodName × Nat) := [(⟨"AyeJarsModel", "keepNow", "()V"⟩, 66), (⟨"AyeJarsModel", "bringBack", "()V"⟩, 66), (⟨"AyeJarsModel", "layFresh", "(I)V"⟩, 66), (⟨"AyeJarsModel", "layChoice", "(I)I"⟩, 66), (⟨"AyeJarsModel", "passedByChoice", "()I"⟩, 66), (⟨"AyeJarsModel", "passesAlone", "(II)Z"⟩, 66), (⟨"AyeJarsModel", "mayAll", "(III)Z"⟩, 66), (⟨"AyeJarsModel", "overParts", "(IIZ)I"⟩, 66), (⟨"AyeJarsModel", "weightOf", "(II)I"⟩, 66), (⟨"AyeJarsModel", "partOf", "(III)I"⟩, 66), (⟨"AyeJarsModel", "layQueue", "(II)Z"⟩, 66), (⟨"AyeJarsModel", "openedByQueue", "(I)I"⟩, 66), (⟨"AyeJarsModel", "shakeAll", "(II)I"⟩, 66), (⟨"AyeJarsModel", "forced", "()I"⟩, 66), (⟨"AyeJarsModel", "layFits", "(I)V"⟩, 66), (⟨"AyeJarsModel", "doesFit", "(II)Z"⟩, 66)]
theorem lw_r7 : ∀ q ∈ lw_privs_7, lw_okq q := List.forall_mem_cons.mpr ⟨lw_p96, List.forall_mem_cons.mpr ⟨lw_p97, List.forall_mem_cons.mpr ⟨lw_p98, List.forall_mem_cons.mpr ⟨lw_p99, List.forall_mem_cons.mpr ⟨lw_p100, List.forall_mem_cons.mpr ⟨lw_p101, List.forall_mem_cons.mpr ⟨lw_p102, List.forall_mem_cons.mpr ⟨lw_p103, List.forall_mem_cons.mpr ⟨lw_p104, List.forall_mem_cons.mpr ⟨lw_p105, List.forall_mem_cons.mpr ⟨lw_p106, List.forall_mem_cons.mpr ⟨lw_p107, List.forall_mem_cons.mpr ⟨lw_p108, List.forall_mem_cons.mpr ⟨lw_p109, List.forall_mem_cons.mpr ⟨lw_p110, List.forall_mem_cons.mpr ⟨lw_p111, fun _ h => absurd h List.not_mem_nil⟩⟩⟩⟩⟩⟩⟩⟩⟩⟩⟩⟩⟩⟩⟩⟩
theorem lw_p112 : lw_okq (⟨"AyeJarsModel", "thoseThat", "(I)I"⟩, 66) := ⟨⟨by decide +kernel, by decide +kernel⟩, List.mem_of_getElem? (i := 1275) (by decide +kernel), List.mem_of_getElem? (i := 2011) (by decide +kernel), List.mem_of_getElem? (i := 2012) (by decide +kernel)⟩
def lw_privs_8 : List (MethodName × Nat) := [(⟨"AyeJarsModel", "thoseThat", "(I)I"⟩, 66)]
theorem lw_r8 : ∀ q ∈ lw_privs_8, lw_okq q := List.forall_mem_cons.mpr ⟨lw_p112, fun _ h => absurd h List.not_mem_nil⟩
def lw_privs : List (MethodName × Nat) := lw_privs_1 ++ (lw_privs_2 ++ (lw_privs_3 ++ (lw_privs_4 ++ (lw_privs_5 ++ (lw_privs_6 ++ (lw_privs_7 ++ (lw_privs_8)))))))
def lw_tbl : List Cond := k2_sels lw_privs ++ tables_1
theorem lw_privs_ok : ∀ q ∈ lw_privs, lw_okq q := by
  show ∀ q ∈ lw_privs_1 ++ (lw_privs_2 ++ (lw_privs_3 ++ (lw_privs_4 ++ (lw_privs_5 ++ (lw_privs_6 ++ (lw_privs_7 ++ (lw_privs_8))))))), lw_okq q
  exact List.forall_mem_append.mpr ⟨lw_r1, List.forall_mem_append.mpr ⟨lw_r2, List.forall_mem_append.mpr ⟨lw_r3, List.forall_mem_append.mpr ⟨lw_r4, List.forall_mem_append.mpr ⟨lw_r5, List.forall_mem_append.mpr ⟨lw_r6, List.forall_mem_append.mpr ⟨lw_r7, lw_r8⟩⟩⟩⟩⟩⟩⟩
end
section
def RX0 : String := "AyeJars$Acts"
def TX0 : u_T := fun k => match k with
  | 0 => ("AyeJars$Acts", "ring", "[LAyeJars$Jars;", true)
  | 1 => ("AyeJars$Acts", "first", "I", false)
  | 2 => ("AyeJars$Acts", "done", "I", false)
  | _ => ("AyeJars$Acts", "known", "I", false)
def tyX0 : Nat → FieldType := fun k => match k with
  | 0 => .array (.object "AyeJars$Jars")
  | 1 => .int
  | 2 => .int
  | _ => .int
theorem nmX0 : ∀ a, a < 4 → ∀ b, b < 4 → a ≠ b → (TX0 a).2.1 ≠ (TX0 b).2.1 := by decide +kernel
theorem tyX0_ok : ∀ k, k < 4 → parseFieldDescriptor (TX0 k).2.2.1 = some (tyX0 k) := by decide +kernel
def RX1 : String := "AyeJars$Ahead"
def TX1 : u_T := fun k => match k with
  | 0 => ("AyeJars$Ahead", "house", "LAyeJars$House;", true)
  | 1 => ("AyeJars$Ahead", "jars", "LAyeJars$Jars;", true)
  | _ => ("AyeJars$Ahead", "trial", "LAyeJars$Trial;", true)
def tyX1 : Nat → FieldType := fun k => match k with
  | 0 => .object "AyeJars$House"
  | 1 => .object "AyeJars$Jars"
  | _ => .object "AyeJars$Trial"
theorem nmX1 : ∀ a, a < 3 → ∀ b, b < 3 → a ≠ b → (TX1 a).2.1 ≠ (TX1 b).2.1 := by decide +kernel
theorem tyX1_ok : ∀ k, k < 3 → parseFieldDescriptor (TX1 k).2.2.1 = some (tyX1 k) := by decide +kernel
def RX2 : String := "AyeJars$Chances"
def TX2 : u_T := fun k => match k with
  | 0 => ("AyeJars$Chances", "house", "LAyeJars$House;", true)
  | 1 => ("AyeJars$Chances", "jars", "LAyeJars$Jars;", true)
  | 2 => ("AyeJars$Chances", "trial", "LAyeJars$Trial;", true)
  | 3 => ("AyeJars$Chances", "ahead", "LAyeJars$Ahead;", true)
  | 4 => ("AyeJars$Chances", "upper", "J", false)
  | _ => ("AyeJars$Chances", "lower", "J", false)
def tyX2 : Nat → FieldType := fun k => match k with
  | 0 => .object "AyeJars$House"
  | 1 => .object "AyeJars$Jars"
  | 2 => .object "AyeJars$Trial"
  | 3 => .object "AyeJars$Ahead"
  | 4 => .long
  | _ => .long
theorem nmX2 : ∀ a, a < 6 → ∀ b, b < 6 → a ≠ b → (TX2 a).2.1 ≠ (TX2 b).2.1 := by decide +kernel
theorem tyX2_ok : ∀ k, k < 6 → parseFieldDescriptor (TX2 k).2.2.1 = some (tyX2 k) := by decide +kernel
def RX3 : String := "AyeJars$Choices"
def TX3 : u_T := fun k => match k with
  | 0 => ("AyeJars$Choices", "house", "LAyeJars$House;", true)
  | 1 => ("AyeJars$Choices", "jars", "LAyeJars$Jars;", true)
  | 2 => ("AyeJars$Choices", "trial", "LAyeJars$Trial;", true)
  | 3 => ("AyeJars$Choices", "ahead", "LAyeJars$Ahead;", true)
  | 4 => ("AyeJars$Choices", "lying", "[I", true)
  | 5 => ("AyeJars$Choices", "lyingCount", "I", false)
  | 6 => ("AyeJars$Choices", "tried", "[I", true)
  | 7 => ("AyeJars$Choices", "sets", "[I", true)
  | 8 => ("AyeJars$Choices", "forces", "[J", true)
  | 9 => ("AyeJars$Choices", "allowed", "[J", true)
  | 10 => ("AyeJars$Choices", "best", "I", false)
  | 11 => ("AyeJars$Choices", "fewest", "I", false)
  | 12 => ("AyeJars$Choices", "most", "I", false)
  | 13 => ("AyeJars$Choices", "stages", "[LAyeJars$Trial;", true)
  | _ => ("AyeJars$Choices", "outcomes", "[I", true)
def tyX3 : Nat → FieldType := fun k => match k with
  | 0 => .object "AyeJars$House"
  | 1 => .object "AyeJars$Jars"
  | 2 => .object "AyeJars$Trial"
  | 3 => .object "AyeJars$Ahead"
  | 4 => .array .int
  | 5 => .int
  | 6 => .array .int
  | 7 => .array .int
  | 8 => .array .long
  | 9 => .array .long
  | 10 => .int
  | 11 => .int
  | 12 => .int
  | 13 => .array (.object "AyeJars$Trial")
  | _ => .array .int
theorem nmX3 : ∀ a, a < 15 → ∀ b, b < 15 → a ≠ b → (TX3 a).2.1 ≠ (TX3 b).2.1 := by decide +kernel
theorem tyX3_ok : ∀ k, k < 15 → parseFieldDescriptor (TX3 k).2.2.1 = some (tyX3 k) := by decide +kernel
def RX4 : String := "AyeJars$Formula"
def TX4 : u_T := fun k => match k with
  | 0 => ("AyeJars$Formula", "codes", "[I", true)
  | 1 => ("AyeJars$Formula", "numbers", "[I", true)
  | 2 => ("AyeJars$Formula", "stack", "[I", true)
  | 3 => ("AyeJars$Formula", "known", "[I", true)
  | 4 => ("AyeJars$Formula", "size", "I", false)
  | 5 => ("AyeJars$Formula", "units", "I", false)
  | _ => ("AyeJars$Formula", "told", "Z", false)
def tyX4 : Nat → FieldType := fun k => match k with
  | 0 => .array .int
  | 1 => .array .int
  | 2 => .array .int
  | 3 => .array .int
  | 4 => .int
  | 5 => .int
  | _ => .boolean
theorem nmX4 : ∀ a, a < 7 → ∀ b, b < 7 → a ≠ b → (TX4 a).2.1 ≠ (TX4 b).2.1 := by decide +kernel
theorem tyX4_ok : ∀ k, k < 7 → parseFieldDescriptor (TX4 k).2.2.1 = some (tyX4 k) := by decide +kernel
def RX5 : String := "AyeJars$House"
def TX5 : u_T := fun k => match k with
  | 0 => ("AyeJars$House", "breath", "[I", true)
  | 1 => ("AyeJars$House", "keeps", "[I", true)
  | 2 => ("AyeJars$House", "needs", "[I", true)
  | 3 => ("AyeJars$House", "opens", "[I", true)
  | 4 => ("AyeJars$House", "shelf", "[I", true)
  | 5 => ("AyeJars$House", "fade", "LAyeJars$Formula;", true)
  | 6 => ("AyeJars$House", "members", "I", false)
  | 7 => ("AyeJars$House", "bills", "I", false)
  | 8 => ("AyeJars$House", "yawn", "I", false)
  | _ => ("AyeJars$House", "draw", "I", false)
def tyX5 : Nat → FieldType := fun k => match k with
  | 0 => .array .int
  | 1 => .array .int
  | 2 => .array .int
  | 3 => .array .int
  | 4 => .array .int
  | 5 => .object "AyeJars$Formula"
  | 6 => .int
  | 7 => .int
  | 8 => .int
  | _ => .int
theorem nmX5 : ∀ a, a < 10 → ∀ b, b < 10 → a ≠ b → (TX5 a).2.1 ≠ (TX5 b).2.1 := by decide +kernel
theorem tyX5_ok : ∀ k, k < 10 → parseFieldDescriptor (TX5 k).2.2.1 = some (tyX5 k) := by decide +kernel
def RX6 : String := "AyeJars$Jars"
def TX6 : u_T := fun k => match k with
  | 0 => ("AyeJars$Jars", "cells", "[I", true)
  | 1 => ("AyeJars$Jars", "voted", "I", false)
  | 2 => ("AyeJars$Jars", "day", "I", false)
  | _ => ("AyeJars$Jars", "seed", "I", false)
def tyX6 : Nat → FieldType := fun k => match k with
  | 0 => .array .int
  | 1 => .int
  | 2 => .int
  | _ => .int
theorem nmX6 : ∀ a, a < 4 → ∀ b, b < 4 → a ≠ b → (TX6 a).2.1 ≠ (TX6 b).2.1 := by decide +kernel
theorem tyX6_ok : ∀ k, k < 4 → parseFieldDescriptor (TX6 k).2.2.1 = some (tyX6 k) := by decide +kernel
def RX7 : String := "AyeJars$Nose"
def TX7 : u_T := fun k => match k with
  | 0 => ("AyeJars$Nose", "house", "LAyeJars$House;", true)
  | 1 => ("AyeJars$Nose", "trial", "LAyeJars$Trial;", true)
  | 2 => ("AyeJars$Nose", "ages", "[I", true)
  | 3 => ("AyeJars$Nose", "volumes", "[I", true)
  | 4 => ("AyeJars$Nose", "holds", "[Z", true)
  | 5 => ("AyeJars$Nose", "toldAt", "[I", true)
  | 6 => ("AyeJars$Nose", "untoldAt", "[I", true)
  | 7 => ("AyeJars$Nose", "strange", "[[I", true)
  | 8 => ("AyeJars$Nose", "strangeKnown", "Z", false)
  | _ => ("AyeJars$Nose", "told", "I", false)
def tyX7 : Nat → FieldType := fun k => match k with
  | 0 => .object "AyeJars$House"
  | 1 => .object "AyeJars$Trial"
  | 2 => .array .int
  | 3 => .array .int
  | 4 => .array .boolean
  | 5 => .array .int
  | 6 => .array .int
  | 7 => .array (.array .int)
  | 8 => .boolean
  | _ => .int
theorem nmX7 : ∀ a, a < 10 → ∀ b, b < 10 → a ≠ b → (TX7 a).2.1 ≠ (TX7 b).2.1 := by decide +kernel
theorem tyX7_ok : ∀ k, k < 10 → parseFieldDescriptor (TX7 k).2.2.1 = some (tyX7 k) := by decide +kernel
def RX8 : String := "AyeJars$Reader"
def TX8 : u_T := fun k => match k with
  | 0 => ("AyeJars$Reader", "tokens", "LAyeJars$Tokens;", true)
  | 1 => ("AyeJars$Reader", "house", "LAyeJars$House;", true)
  | 2 => ("AyeJars$Reader", "memberNames", "[J", true)
  | 3 => ("AyeJars$Reader", "billNames", "[J", true)
  | 4 => ("AyeJars$Reader", "yawnTold", "Z", false)
  | 5 => ("AyeJars$Reader", "drawTold", "Z", false)
  | 6 => ("AyeJars$Reader", "lastNumber", "I", false)
  | 7 => ("AyeJars$Reader", "fault", "I", false)
  | _ => ("AyeJars$Reader", "faultPlace", "I", false)
def tyX8 : Nat → FieldType := fun k => match k with
  | 0 => .object "AyeJars$Tokens"
  | 1 => .object "AyeJars$House"
  | 2 => .array .long
  | 3 => .array .long
  | 4 => .boolean
  | 5 => .boolean
  | 6 => .int
  | 7 => .int
  | _ => .int
theorem nmX8 : ∀ a, a < 9 → ∀ b, b < 9 → a ≠ b → (TX8 a).2.1 ≠ (TX8 b).2.1 := by decide +kernel
theorem tyX8_ok : ∀ k, k < 9 → parseFieldDescriptor (TX8 k).2.2.1 = some (tyX8 k) := by decide +kernel
def RX9 : String := "AyeJars$Tokens"
def TX9 : u_T := fun k => match k with
  | 0 => ("AyeJars$Tokens", "bytes", "[B", true)
  | 1 => ("AyeJars$Tokens", "length", "I", false)
  | 2 => ("AyeJars$Tokens", "at", "I", false)
  | 3 => ("AyeJars$Tokens", "token", "I", false)
  | 4 => ("AyeJars$Tokens", "place", "I", false)
  | 5 => ("AyeJars$Tokens", "number", "I", false)
  | _ => ("AyeJars$Tokens", "name", "J", false)
def tyX9 : Nat → FieldType := fun k => match k with
  | 0 => .array .byte
  | 1 => .int
  | 2 => .int
  | 3 => .int
  | 4 => .int
  | 5 => .int
  | _ => .long
theorem nmX9 : ∀ a, a < 7 → ∀ b, b < 7 → a ≠ b → (TX9 a).2.1 ≠ (TX9 b).2.1 := by decide +kernel
theorem tyX9_ok : ∀ k, k < 7 → parseFieldDescriptor (TX9 k).2.2.1 = some (tyX9 k) := by decide +kernel
def RX10 : String := "AyeJars$Trial"
def TX10 : u_T := fun k => match k with
  | 0 => ("AyeJars$Trial", "house", "LAyeJars$House;", true)
  | 1 => ("AyeJars$Trial", "volume", "I", false)
  | 2 => ("AyeJars$Trial", "breaths", "I", false)
  | 3 => ("AyeJars$Trial", "age", "I", false)
  | 4 => ("AyeJars$Trial", "shelf", "I", false)
  | 5 => ("AyeJars$Trial", "shaken", "I", false)
  | _ => ("AyeJars$Trial", "day", "I", false)
def tyX10 : Nat → FieldType := fun k => match k with
  | 0 => .object "AyeJars$House"
  | 1 => .int
  | 2 => .int
  | 3 => .int
  | 4 => .int
  | 5 => .int
  | _ => .int
theorem nmX10 : ∀ a, a < 7 → ∀ b, b < 7 → a ≠ b → (TX10 a).2.1 ≠ (TX10 b).2.1 := by decide +kernel
theorem tyX10_ok : ∀ k, k < 7 → parseFieldDescriptor (TX10 k).2.2.1 = some (tyX10 k) := by decide +kernel
def RX11 : String := "AyeJars"
def TX11 : u_T := fun k => match k with
  | 0 => ("AyeJars", "tape", "LAyeJars$Tokens;", true)
  | 1 => ("AyeJars", "house", "LAyeJars$House;", true)
  | 2 => ("AyeJars", "draft", "LAyeJars$House;", true)
  | 3 => ("AyeJars", "reader", "LAyeJars$Reader;", true)
  | 4 => ("AyeJars", "jars", "LAyeJars$Jars;", true)
  | 5 => ("AyeJars", "boxes", "[LAyeJars$Jars;", true)
  | 6 => ("AyeJars", "boxFull", "[Z", true)
  | 7 => ("AyeJars", "acts", "LAyeJars$Acts;", true)
  | 8 => ("AyeJars", "trial", "LAyeJars$Trial;", true)
  | 9 => ("AyeJars", "ahead", "LAyeJars$Ahead;", true)
  | 10 => ("AyeJars", "chances", "LAyeJars$Chances;", true)
  | 11 => ("AyeJars", "choices", "LAyeJars$Choices;", true)
  | 12 => ("AyeJars", "nose", "LAyeJars$Nose;", true)
  | _ => ("AyeJars", "time", "I", false)
def tyX11 : Nat → FieldType := fun k => match k with
  | 0 => .object "AyeJars$Tokens"
  | 1 => .object "AyeJars$House"
  | 2 => .object "AyeJars$House"
  | 3 => .object "AyeJars$Reader"
  | 4 => .object "AyeJars$Jars"
  | 5 => .array (.object "AyeJars$Jars")
  | 6 => .array .boolean
  | 7 => .object "AyeJars$Acts"
  | 8 => .object "AyeJars$Trial"
  | 9 => .object "AyeJars$Ahead"
  | 10 => .object "AyeJars$Chances"
  | 11 => .object "AyeJars$Choices"
  | 12 => .object "AyeJars$Nose"
  | _ => .int
theorem nmX11 : ∀ a, a < 14 → ∀ b, b < 14 → a ≠ b → (TX11 a).2.1 ≠ (TX11 b).2.1 := by decide +kernel
theorem tyX11_ok : ∀ k, k < 14 → parseFieldDescriptor (TX11 k).2.2.1 = some (tyX11 k) := by decide +kernel
def RX12 : String := "AyeJarsModel"
def TX12 : u_T := fun k => match k with
  | 0 => ("AyeJarsModel", "tape", "[B", true)
  | 1 => ("AyeJarsModel", "text", "[B", true)
  | 2 => ("AyeJarsModel", "taped", "I", false)
  | 3 => ("AyeJarsModel", "size", "I", false)
  | 4 => ("AyeJarsModel", "faultKind", "I", false)
  | 5 => ("AyeJarsModel", "faultPlace", "I", false)
  | 6 => ("AyeJarsModel", "at", "I", false)
  | 7 => ("AyeJarsModel", "end", "I", false)
  | 8 => ("AyeJarsModel", "token", "I", false)
  | 9 => ("AyeJarsModel", "number", "I", false)
  | 10 => ("AyeJarsModel", "name", "J", false)
  | 11 => ("AyeJarsModel", "members", "[I", true)
  | 12 => ("AyeJarsModel", "bills", "[I", true)
  | 13 => ("AyeJarsModel", "units", "[I", true)
  | 14 => ("AyeJarsModel", "yawn", "[I", true)
  | 15 => ("AyeJarsModel", "draw", "[I", true)
  | 16 => ("AyeJarsModel", "breath", "[I", true)
  | 17 => ("AyeJarsModel", "keeps", "[I", true)
  | 18 => ("AyeJarsModel", "needs", "[I", true)
  | 19 => ("AyeJarsModel", "opens", "[I", true)
  | 20 => ("AyeJarsModel", "shelfTold", "[I", true)
  | 21 => ("AyeJarsModel", "ruleFrom", "[I", true)
  | 22 => ("AyeJarsModel", "ruleTo", "[I", true)
  | 23 => ("AyeJarsModel", "hasFade", "[Z", true)
  | 24 => ("AyeJarsModel", "hasYawn", "[Z", true)
  | 25 => ("AyeJarsModel", "isDraw", "[Z", true)
  | 26 => ("AyeJarsModel", "mName", "[J", true)
  | 27 => ("AyeJarsModel", "bName", "[J", true)
  | 28 => ("AyeJarsModel", "code", "[I", true)
  | 29 => ("AyeJarsModel", "codeNumber", "[I", true)
  | 30 => ("AyeJarsModel", "eWhat", "[I", true)
  | 31 => ("AyeJarsModel", "eSign", "[I", true)
  | 32 => ("AyeJarsModel", "pile", "[I", true)
  | 33 => ("AyeJarsModel", "bank", "I", false)
  | 34 => ("AyeJarsModel", "rb", "I", false)
  | 35 => ("AyeJarsModel", "codes", "I", false)
  | 36 => ("AyeJarsModel", "within", "I", false)
  | 37 => ("AyeJarsModel", "piled", "I", false)
  | 38 => ("AyeJarsModel", "unitsInRule", "I", false)
  | 39 => ("AyeJarsModel", "jarVolume", "I", false)
  | 40 => ("AyeJarsModel", "jarIn", "I", false)
  | 41 => ("AyeJarsModel", "jarAge", "I", false)
  | 42 => ("AyeJarsModel", "jarShelf", "I", false)
  | 43 => ("AyeJarsModel", "jarShaken", "I", false)
  | 44 => ("AyeJarsModel", "jarDay", "I", false)
  | 45 => ("AyeJarsModel", "all", "[I", true)
  | 46 => ("AyeJarsModel", "was", "[I", true)
  | 47 => ("AyeJarsModel", "acts", "I", false)
  | 48 => ("AyeJarsModel", "undone", "I", false)
  | 49 => ("AyeJarsModel", "kept", "[I", true)
  | 50 => ("AyeJarsModel", "passesWith", "[Z", true)
  | 51 => ("AyeJarsModel", "laidRow", "[I", true)
  | 52 => ("AyeJarsModel", "choice", "[I", true)
  | 53 => ("AyeJarsModel", "laid", "I", false)
  | 54 => ("AyeJarsModel", "queued", "I", false)
  | 55 => ("AyeJarsModel", "sAge", "[I", true)
  | 56 => ("AyeJarsModel", "sVolume", "[I", true)
  | 57 => ("AyeJarsModel", "sIs", "[I", true)
  | 58 => ("AyeJarsModel", "sTold", "[I", true)
  | 59 => ("AyeJarsModel", "sUntold", "[I", true)
  | 60 => ("AyeJarsModel", "inFits", "[I", true)
  | 61 => ("AyeJarsModel", "sniffs", "I", false)
  | 62 => ("AyeJarsModel", "time", "I", false)
  | 63 => ("AyeJarsModel", "fitting", "I", false)
  | 64 => ("AyeJarsModel", "boxAll", "[I", true)
  | _ => ("AyeJarsModel", "isBoxed", "[Z", true)
def tyX12 : Nat → FieldType := fun k => match k with
  | 0 => .array .byte
  | 1 => .array .byte
  | 2 => .int
  | 3 => .int
  | 4 => .int
  | 5 => .int
  | 6 => .int
  | 7 => .int
  | 8 => .int
  | 9 => .int
  | 10 => .long
  | 11 => .array .int
  | 12 => .array .int
  | 13 => .array .int
  | 14 => .array .int
  | 15 => .array .int
  | 16 => .array .int
  | 17 => .array .int
  | 18 => .array .int
  | 19 => .array .int
  | 20 => .array .int
  | 21 => .array .int
  | 22 => .array .int
  | 23 => .array .boolean
  | 24 => .array .boolean
  | 25 => .array .boolean
  | 26 => .array .long
  | 27 => .array .long
  | 28 => .array .int
  | 29 => .array .int
  | 30 => .array .int
  | 31 => .array .int
  | 32 => .array .int
  | 33 => .int
  | 34 => .int
  | 35 => .int
  | 36 => .int
  | 37 => .int
  | 38 => .int
  | 39 => .int
  | 40 => .int
  | 41 => .int
  | 42 => .int
  | 43 => .int
  | 44 => .int
  | 45 => .array .int
  | 46 => .array .int
  | 47 => .int
  | 48 => .int
  | 49 => .array .int
  | 50 => .array .boolean
  | 51 => .array .int
  | 52 => .array .int
  | 53 => .int
  | 54 => .int
  | 55 => .array .int
  | 56 => .array .int
  | 57 => .array .int
  | 58 => .array .int
  | 59 => .array .int
  | 60 => .array .int
  | 61 => .int
  | 62 => .int
  | 63 => .int
  | 64 => .array .int
  | _ => .array .boolean
theorem nmX12 : ∀ a, a < 66 → ∀ b, b < 66 → a ≠ b → (TX12 a).2.1 ≠ (TX12 b).2.1 := by decide +kernel
theorem tyX12_ok : ∀ k, k < 66 → parseFieldDescriptor (TX12 k).2.2.1 = some (tyX12 k) := by decide +kernel
abbrev vwCl : List vw_C := [(RX0, TX0, 4), (RX1, TX1, 3), (RX2, TX2, 6), (RX3, TX3, 15), (RX4, TX4, 7), (RX5, TX5, 10), (RX6, TX6, 4), (RX7, TX7, 10), (RX8, TX8, 9), (RX9, TX9, 7), (RX10, TX10, 7), (RX11, TX11, 14), (RX12, TX12, 66)]
end
section
/-! A machine of plain lists that runs the law on a fresh object: ints are codes below 2^32, or unknowns above; a place k + 1 is the k-th cell that was made, place 0 the script -/
abbrev rV : Type := Nat ⊕ (Nat ⊕ Option Nat)
abbrev rC : Type := Nat × List rV
abbrev rE : Type := List (Nat × Nat)
abbrev rK : Type := List (Nat × rV)
/-- the cells: how many, and they in rows of sixteen -/
abbrev rD : Type := Nat × List (List rC)
abbrev rX : Type := Nat × rK × List rV × rD × Nat × Nat
abbrev rO : Type := rX ⊕ ((Nat × Nat) ⊕ ((rX × rX) ⊕ ((Option rV) ⊕ (Nat × List rV × List rV))))
abbrev rF : Type := rE × Option rV × rD
def ri (sg : Nat → Int32) (n : Nat) : Int32 := if n < 4294967296 then nI n else sg (n - 4294967296)
def ra (b B : Nat) (k : Nat) : Nat := match k with
  | 0 => b
  | k + 1 => B + k
def rv (sg : Nat → Int32) (b B : Nat) (v : rV) : Value := match v with
  | .inl n => .int (ri sg n)
  | .inr (.inl z) => .long (lN z)
  | .inr (.inr (some k)) => .ref (ra b B k)
  | .inr (.inr none) => .null
def rI (sg : Nat → Int32) (v : rV) : Int32 := match v with
  | .inl n => ri sg n
  | _ => 0
def rL (v : rV) : Int64 := match v with
  | .inr (.inl z) => lN z
  | _ => 0
def rR (b B : Nat) (v : rV) : Option Nat := match v with
  | .inr (.inr (some k)) => some (ra b B k)
  | _ => none
def rd : rV := .inr (.inr none)
def rA (sg : Nat → Int32) (b B : Nat) (t : Nat) (l : List rV) : vp_A := (l.length, if t = 15 then .inr (.inl (fun j => rL (l.getD j rd))) else if t < 17 then .inl (fun j => rI sg (l.getD j rd)) else .inr (.inr (.inr (.inr (fun j => rR b B (l.getD j rd))))))
def rce (sg : Nat → Int32) (b B : Nat) (cy : Nat → ClassId) (q : rC) : va_E := if q.1 < 13 then .inr (q.1, q.2.map (rv sg b B)) else .inl (cy q.1, rA sg b B q.1 q.2)
def rW (sg : Nat → Int32) (b B : Nat) (cy : Nat → ClassId) (aw : List rC) : va_W := aw.zipIdx.map (fun q => (B + q.2, rce sg b B cy q.1))
def rG (B : Nat) : Nat → Prop := fun q => B ≤ q
theorem rW_at {sg : Nat → Int32} {b B : Nat} {cy : Nat → ClassId} (aw : List rC) (k : Nat) : (rW sg b B cy aw)[k]? = aw[k]?.map (fun q => (B + k, rce sg b B cy q)) := by
  unfold rW
  rw [List.getElem?_map, List.getElem?_zipIdx]
  cases aw[k]? with
  | none => rfl
  | some q => simp
theorem rW_get {sg : Nat → Int32} {b B : Nat} {cy : Nat → ClassId} {aw : List rC} {k : Nat} {q : rC} (h : aw[k]? = some q) : (rW sg b B cy aw)[k]? = some (B + k, rce sg b B cy q) := by
  rw [rW_at, h]; rfl
theorem rW_set {sg : Nat → Int32} {b B : Nat} {cy : Nat → ClassId} (aw : List rC) (k : Nat) (q : rC) : (rW sg b B cy aw).set k (B + k, rce sg b B cy q) = rW sg b B cy (aw.set k q) := by
  apply List.ext_getElem?
  intro i
  rw [rW_at, List.getElem?_set, List.getElem?_set]
  have hl : (rW sg b B cy aw).length = aw.length := by unfold rW; simp
  by_cases e : k = i
  · subst e
    by_cases h : k < aw.length
    · simp [hl, h]
    · simp [hl, h]
  · simp [e, rW_at]
theorem rW_app {sg : Nat → Int32} {b B : Nat} {cy : Nat → ClassId} (aw : List rC) (q : rC) : rW sg b B cy (aw ++ [q]) = rW sg b B cy aw ++ [(B + aw.length, rce sg b B cy q)] := by
  unfold rW
  rw [List.zipIdx_append]
  simp
theorem rW_D {sg : Nat → Int32} {b B : Nat} {cy : Nat → ClassId} (aw : List rC) : va_D (rG B) (rW sg b B cy aw) := by
  have key : ∀ (k : Nat) (q : Nat × va_E), (rW sg b B cy aw)[k]? = some q → q.1 = B + k := by
    intro k q h
    rw [rW_at] at h
    cases hk : aw[k]? with
    | none => rw [hk] at h; cases h
    | some z => rw [hk] at h; cases h; rfl
  refine ⟨fun i j x y hi hj hxy => ?_, fun k q hk => ?_⟩
  · have h1 := key i x hi
    have h2 := key j y hj
    omega
  · have h1 := key k q hk
    show B ≤ q.1
    omega
/-! codes -/
def cN (x : Int32) : Nat := x.toUInt32.toNat
def cL (x : Int64) : Nat := x.toUInt64.toNat
theorem cN_lt (x : Int32) : cN x < 4294967296 := x.toUInt32.toNat_lt
theorem nI_cN (x : Int32) : nI (cN x) = x := by
  unfold nI cN
  apply Int32.toBitVec_inj.mp
  simp
theorem lN_cL (x : Int64) : lN (cL x) = x := by
  unfold lN cL
  apply Int64.toBitVec_inj.mp
  simp
theorem ri_c {sg : Nat → Int32} {n : Nat} (h : n < 4294967296) : ri sg n = nI n := if_pos h
theorem ri_cN {sg : Nat → Int32} (x : Int32) : ri sg (cN x) = x := by rw [ri_c (cN_lt x), nI_cN]
theorem ri_u {sg : Nat → Int32} (j : Nat) : ri sg (4294967296 + j) = sg j := by
  unfold ri
  rw [if_neg (by omega), Nat.add_sub_cancel_left]
/-! the order of ints as an order of numbers -/
def bz (x : Int32) : Nat := (x.toInt + 2147483648).toNat
def un (n : Nat) : Nat := Nat.mod (Nat.add n 2147483648) 4294967296
theorem bz_in (x : Int32) : (bz x : Int) = x.toInt + 2147483648 := by
  unfold bz
  have h1 := x.minValue_le_toInt
  have h2 : Int32.minValue.toInt = -2147483648 := by decide
  omega
theorem bz_lt (x y : Int32) : x < y ↔ bz x < bz y := by
  rw [Int32.lt_iff_toInt_lt]
  have h1 := bz_in x
  have h2 := bz_in y
  omega
theorem bz_le (x y : Int32) : x ≤ y ↔ bz x ≤ bz y := by
  rw [Int32.le_iff_toInt_le]
  have h1 := bz_in x
  have h2 := bz_in y
  omega
theorem bz_eq (x y : Int32) : x = y ↔ bz x = bz y := by
  rw [← Int32.toInt_inj]
  have h1 := bz_in x
  have h2 := bz_in y
  omega
theorem bz_top (x : Int32) : bz x < 4294967296 := by
  have h1 := bz_in x
  have h2 := x.toInt_lt
  omega
theorem nI_int (n : Nat) : (nI n).toInt = (n : Int).bmod 4294967296 := by
  unfold nI
  simp [Int32.toInt_ofNat']
theorem bz_nI {n : Nat} (h : n < 4294967296) : bz (nI n) = un n := by
  have h1 := bz_in (nI n)
  rw [nI_int, Int.bmod_def] at h1
  unfold un
  show bz (nI n) = (n + 2147483648) % 4294967296
  omega
theorem un_un {n : Nat} (h : n < 4294967296) : un (un n) = n := by
  unfold un
  show ((n + 2147483648) % 4294967296 + 2147483648) % 4294967296 = n
  omega
theorem un_lt (n : Nat) : un n < 4294967296 := Nat.mod_lt _ (by decide)
theorem un_bz (x : Int32) : nI (un (bz x)) = x := by
  rw [bz_eq, bz_nI (un_lt _), un_un (bz_top x)]
/-! what is known of the unknowns -/
def eOK (sg : Nat → Int32) (E : rE) : Prop := ∀ (j lo hi : Nat), E[j]? = some (lo, hi) → lo ≤ bz (sg j) ∧ bz (sg j) ≤ hi
def iu (E : rE) (j : Nat) : Nat × Nat := E.getD j (0, 4294967295)
def iv (E : rE) (n : Nat) : Nat × Nat := bif Nat.ble n 4294967295 then (un n, un n) else iu E (Nat.sub n 4294967296)
theorem iu_ok {sg : Nat → Int32} {E : rE} (h : eOK sg E) (j : Nat) : (iu E j).1 ≤ bz (sg j) ∧ bz (sg j) ≤ (iu E j).2 := by
  unfold iu
  rw [List.getD_eq_getElem?_getD]
  cases hj : E[j]? with
  | none =>
    have := bz_top (sg j)
    exact ⟨Nat.zero_le _, by show _ ≤ 4294967295; omega⟩
  | some q => exact h j q.1 q.2 hj
theorem iv_ok {sg : Nat → Int32} {E : rE} (h : eOK sg E) (n : Nat) : (iv E n).1 ≤ bz (ri sg n) ∧ bz (ri sg n) ≤ (iv E n).2 := by
  unfold iv
  cases hb : Nat.ble n 4294967295 with
  | true =>
    have hn : n < 4294967296 := Nat.lt_succ_of_le (Nat.le_of_ble_eq_true hb)
    rw [ri_c hn, bz_nI hn, cond_true]
    generalize un n = z
    exact ⟨Nat.le_refl z, Nat.le_refl z⟩
  | false =>
    have hn : ¬ n < 4294967296 := fun q => by
      have := Nat.ble_eq_true_of_le (Nat.le_of_lt_succ q)
      rw [hb] at this
      cases this
    unfold ri
    rw [if_neg hn]
    exact iu_ok h _
/-- the value, where it is known -/
def nd (E : rE) (n : Nat) : Option Nat := bif Nat.ble n 4294967295 then some n else (bif Nat.beq (iu E (Nat.sub n 4294967296)).1 (iu E (Nat.sub n 4294967296)).2 then some (un (iu E (Nat.sub n 4294967296)).1) else none)
theorem nd_ok {sg : Nat → Int32} {E : rE} (h : eOK sg E) {n k : Nat} (hk : nd E n = some k) : k < 4294967296 ∧ ri sg n = nI k := by
  unfold nd at hk
  cases hb : Nat.ble n 4294967295 with
  | true =>
    rw [hb] at hk
    cases hk
    have hn : n < 4294967296 := Nat.lt_succ_of_le (Nat.le_of_ble_eq_true hb)
    exact ⟨hn, ri_c hn⟩
  | false =>
    rw [hb] at hk
    have hn : ¬ n < 4294967296 := fun q => by
      have := Nat.ble_eq_true_of_le (Nat.le_of_lt_succ q)
      rw [hb] at this
      cases this
    cases hq : Nat.beq (iu E (Nat.sub n 4294967296)).1 (iu E (Nat.sub n 4294967296)).2 with
    | false => rw [hq] at hk; cases hk
    | true =>
      rw [hq, cond_false, cond_true] at hk
      have hk := Option.some.inj hk
      subst hk
      have h1 := Nat.eq_of_beq_eq_true hq
      have h2 := iu_ok h (Nat.sub n 4294967296)
      have h3 : bz (sg (Nat.sub n 4294967296)) = (iu E (Nat.sub n 4294967296)).1 := by omega
      refine ⟨un_lt _, ?_⟩
      unfold ri
      rw [if_neg hn, ← h3, un_bz]
      rfl
/-! lists, read and written at a place, so that the kernel goes straight -/
noncomputable def rget {α : Type} (l : List α) : Nat → Option α := List.rec (motive := fun _ => Nat → Option α) (fun _ => none) (fun x _ ih n => Nat.rec (motive := fun _ => Option α) (some x) (fun m _ => ih m) n) l
theorem rget_eq {α : Type} (l : List α) : ∀ n, rget l n = l[n]? := by
  induction l with
  | nil => intro n; simp [rget]
  | cons x t ih =>
    intro n
    cases n with
    | zero => rfl
    | succ m => rw [List.getElem?_cons_succ, ← ih m]; rfl
noncomputable def rset {α β : Type} (v : α) (l : List α) : Nat → (List α → β) → β := List.rec (motive := fun _ => Nat → (List α → β) → β) (fun _ k => k []) (fun x t ih n k => Nat.rec (motive := fun _ => β) (k (v :: t)) (fun m _ => ih m (fun t' => k (x :: t'))) n) l
theorem rset_eq {α β : Type} (v : α) (l : List α) : ∀ (n : Nat) (k : List α → β), rset v l n k = k (l.set n v) := by
  induction l with
  | nil => intro n k; rfl
  | cons x t ih =>
    intro n k
    cases n with
    | zero => rfl
    | succ m =>
      show rset v t m (fun t' => k (x :: t')) = _
      rw [ih]
      rfl
noncomputable def fN {β : Type} (n : Nat) (k : Nat → β) : β := Nat.rec (motive := fun _ => β) (k 0) (fun m _ => k (Nat.succ m)) n
theorem fN_eq {β : Type} (n : Nat) (k : Nat → β) : fN n k = k n := by cases n <;> rfl
noncomputable def lget (lv : rK) (i : Nat) : Option rV := List.rec (motive := fun _ => Option rV) none (fun q _ ih => bif Nat.beq q.1 i then some q.2 else ih) lv
theorem lget_mem {lv : rK} {i : Nat} {v : rV} (h : lget lv i = some v) : (i, v) ∈ lv := by
  induction lv with
  | nil => cases h
  | cons q t ih =>
    have h' : (bif Nat.beq q.1 i then some q.2 else lget t i) = some v := h
    cases hb : Nat.beq q.1 i with
    | true =>
      rw [hb] at h'
      cases h'
      have := Nat.eq_of_beq_eq_true hb
      subst this
      exact List.mem_cons_self
    | false =>
      rw [hb] at h'
      exact List.mem_cons_of_mem _ (ih h')
def ct (v : rV) : Nat := match v with
  | .inr (.inl _) => 2
  | _ => 1
theorem ct_eq {sg : Nat → Int32} {b B : Nat} (v : rV) : (rv sg b B v).category = ct v := by
  match v with
  | .inl _ => rfl
  | .inr (.inl _) => rfl
  | .inr (.inr (some _)) => rfl
  | .inr (.inr none) => rfl
/-! the cells in rows of sixteen -/
noncomputable def rsnoc {α β : Type} (v : α) (l : List α) (k : List α → β) : β := List.rec (motive := fun _ => (List α → β) → β) (fun k => k [v]) (fun x _ ih k => ih (fun t => k (x :: t))) l k
theorem rsnoc_eq {α β : Type} (v : α) (l : List α) : ∀ (k : List α → β), rsnoc v l k = k (l ++ [v]) := by
  induction l with
  | nil => intro k; rfl
  | cons x t ih =>
    intro k
    show rsnoc v t (fun t => k (x :: t)) = _
    rw [ih]
    rfl
noncomputable def wget (D : rD) (k : Nat) : Option rC := match rget D.2 (Nat.div k 16) with
  | some ch => rget ch (Nat.mod k 16)
  | none => none
noncomputable def wset {β : Type} (v : rC) (D : rD) (k : Nat) (K : rD → β) : β := match rget D.2 (Nat.div k 16) with
  | some ch => rset v ch (Nat.mod k 16) (fun ch => rset ch D.2 (Nat.div k 16) (fun l => K (D.1, l)))
  | none => K D
noncomputable def wsnoc {β : Type} (v : rC) (D : rD) (K : rD → β) : β := fN D.1 (fun n => match rget D.2 (Nat.div n 16) with
  | some ch => rsnoc v ch (fun ch => rset ch D.2 (Nat.div n 16) (fun l => K (Nat.succ n, l)))
  | none => rsnoc [v] D.2 (fun l => K (Nat.succ n, l)))
/-- the rows hold the list -/
def rep (D : rD) (aw : List rC) : Prop := D.1 = aw.length ∧ ∀ k, wget D k = aw[k]?
theorem rep_set {β : Type} {D : rD} {aw : List rC} (h : rep D aw) {k : Nat} (hk : k < aw.length) (v : rC) : ∃ D' : rD, rep D' (aw.set k v) ∧ ∀ K : rD → β, wset v D k K = K D' := by
  have hg := h.2 k
  unfold wget at hg
  cases hc : rget D.2 (Nat.div k 16) with
  | none =>
    rw [hc] at hg
    rw [List.getElem?_eq_getElem hk] at hg
    cases hg
  | some ch =>
    rw [hc] at hg
    refine ⟨(D.1, D.2.set (Nat.div k 16) (ch.set (Nat.mod k 16) v)), ⟨by rw [List.length_set]; exact h.1, fun i => ?_⟩, fun K => ?_⟩
    · have hi := h.2 i
      unfold wget at hi ⊢
      rw [rget_eq] at hc hi ⊢
      have hl : Nat.div k 16 < D.2.length := (List.getElem?_eq_some_iff.mp hc).1
      have hl2 : Nat.mod k 16 < ch.length := by
        dsimp only at hg
        rw [rget_eq] at hg
        have hg : ch[Nat.mod k 16]? = some aw[k] := by
          have e : aw[k]? = some aw[k] := List.getElem?_eq_getElem hk
          rw [← e]; exact hg
        exact (List.getElem?_eq_some_iff.mp hg).1
      rw [List.getElem?_set, List.getElem?_set]
      by_cases e : k = i
      · subst e
        rw [if_pos rfl, if_pos hl, if_pos rfl, if_pos hk]
        dsimp only
        rw [rget_eq, List.getElem?_set, if_pos rfl, if_pos hl2]
      · rw [if_neg e, ← hi]
        by_cases e2 : Nat.div k 16 = Nat.div i 16
        · rw [if_pos e2, if_pos hl, ← e2, hc]
          dsimp only
          rw [rget_eq, rget_eq, List.getElem?_set, if_neg]
          intro e3
          have h1 : k / 16 = i / 16 := e2
          have h2 : k % 16 = i % 16 := e3
          omega
        · rw [if_neg e2]
    · unfold wset
      rw [hc]
      dsimp only
      rw [rset_eq, rset_eq]
theorem rep_snoc {β : Type} {D : rD} {aw : List rC} (h : rep D aw) (v : rC) : ∃ D' : rD, rep D' (aw ++ [v]) ∧ ∀ K : rD → β, wsnoc v D K = K D' := by
  have hlast := h.2 aw.length
  have hnone : aw[aw.length]? = none := List.getElem?_eq_none (Nat.le_refl _)
  rw [hnone] at hlast
  have hprev : ∀ i, i < aw.length → ∃ ch, D.2[i / 16]? = some ch ∧ i % 16 < ch.length := by
    intro i hi
    have h1 := h.2 i
    unfold wget at h1
    rw [rget_eq, List.getElem?_eq_getElem hi] at h1
    cases hc : D.2[Nat.div i 16]? with
    | none => rw [hc] at h1; cases h1
    | some ch =>
      rw [hc] at h1
      dsimp only at h1
      rw [rget_eq] at h1
      exact ⟨ch, by first | rfl | exact hc, (List.getElem?_eq_some_iff.mp h1).1⟩
  unfold wget at hlast
  rw [rget_eq] at hlast
  cases hc : D.2[Nat.div aw.length 16]? with
  | some ch =>
    rw [hc] at hlast
    dsimp only at hlast
    rw [rget_eq] at hlast
    have hlen : ch.length = aw.length % 16 := by
      have h1 : ch.length ≤ aw.length % 16 := by
        rcases Nat.lt_or_ge (aw.length % 16) ch.length with q | q
        · have : ch[Nat.mod aw.length 16]? = some _ := List.getElem?_eq_getElem q
          rw [this] at hlast
          cases hlast
        · exact q
      have h2 : aw.length % 16 ≤ ch.length := by
        by_cases e : aw.length % 16 = 0
        · omega
        · obtain ⟨ch', g1, g2⟩ := hprev (aw.length - 1) (by omega)
          have e2 : (aw.length - 1) / 16 = aw.length / 16 := by omega
          rw [e2] at g1
          have hc' : D.2[aw.length / 16]? = some ch := hc
          rw [hc'] at g1
          cases g1
          omega
      omega
    refine ⟨(aw.length + 1, D.2.set (aw.length / 16) (ch ++ [v])), ⟨by rw [List.length_append]; rfl, fun i => ?_⟩, fun K => ?_⟩
    · have hi := h.2 i
      unfold wget at hi ⊢
      rw [rget_eq] at hi ⊢
      have hl : aw.length / 16 < D.2.length := (List.getElem?_eq_some_iff.mp hc).1
      have hc' : D.2[aw.length / 16]? = some ch := hc
      show (match (D.2.set (aw.length / 16) (ch ++ [v]))[i / 16]? with | some ch => rget ch (i % 16) | none => none) = _
      have hi : (match D.2[i / 16]? with | some ch => rget ch (i % 16) | none => none) = aw[i]? := hi
      rw [List.getElem?_set]
      by_cases e2 : aw.length / 16 = i / 16
      · rw [if_pos e2, if_pos hl]
        dsimp only
        rw [← e2, hc'] at hi
        dsimp only at hi
        rw [rget_eq] at hi ⊢
        rcases Nat.lt_trichotomy i aw.length with q | q | q
        · rw [List.getElem?_append_left (by omega), List.getElem?_append_left q, hi]
        · subst q
          rw [List.getElem?_append_right (by omega), List.getElem?_append_right (Nat.le_refl _)]
          simp [hlen]
        · rw [List.getElem?_append_right (by omega), List.getElem?_append_right (by omega)]
          have h1 : i % 16 - ch.length ≠ 0 := by omega
          have h2 : i - aw.length ≠ 0 := by omega
          rw [List.getElem?_eq_none (by simp; omega), List.getElem?_eq_none (by simp; omega)]
      · rw [if_neg e2, hi]
        rcases Nat.lt_or_ge i aw.length with q | q
        · rw [List.getElem?_append_left q]
        · rw [List.getElem?_append_right q, List.getElem?_eq_none q, List.getElem?_eq_none (by simp; omega)]
    · unfold wsnoc
      rw [fN_eq, h.1, rget_eq, hc]
      dsimp only
      rw [rsnoc_eq, rset_eq]
      try rfl
  | none =>
    have hout : D.2.length = aw.length / 16 := by
      have h1 : D.2.length ≤ aw.length / 16 := List.getElem?_eq_none_iff.mp hc
      have h2 : aw.length / 16 ≤ D.2.length := by
        by_cases e : aw.length < 16
        · omega
        · obtain ⟨ch', g1, g2⟩ := hprev (aw.length / 16 * 16 - 1) (by omega)
          have := (List.getElem?_eq_some_iff.mp g1).1
          omega
      omega
    have hm : aw.length % 16 = 0 := by
      by_cases e : aw.length % 16 = 0
      · exact e
      · obtain ⟨ch', g1, g2⟩ := hprev (aw.length - 1) (by omega)
        have e2 : (aw.length - 1) / 16 = aw.length / 16 := by omega
        rw [e2] at g1
        have hc' : D.2[aw.length / 16]? = none := hc
        rw [hc'] at g1
        cases g1
    refine ⟨(aw.length + 1, D.2 ++ [[v]]), ⟨by rw [List.length_append]; rfl, fun i => ?_⟩, fun K => ?_⟩
    · have hi := h.2 i
      unfold wget at hi ⊢
      rw [rget_eq] at hi ⊢
      show (match (D.2 ++ [[v]])[i / 16]? with | some ch => rget ch (i % 16) | none => none) = _
      have hi : (match D.2[i / 16]? with | some ch => rget ch (i % 16) | none => none) = aw[i]? := hi
      rcases Nat.lt_trichotomy i aw.length with q | q | q
      · rw [List.getElem?_append_left (by omega), List.getElem?_append_left q, hi]
      · subst q
        rw [List.getElem?_append_right (by omega), List.getElem?_append_right (Nat.le_refl _), hout, Nat.sub_self, Nat.sub_self]
        dsimp only [List.getElem?_cons_zero]
        rw [rget_eq, hm]
        rfl
      · by_cases e2 : i / 16 = aw.length / 16
        · rw [List.getElem?_append_right (by omega), List.getElem?_append_right (by omega), hout, e2, Nat.sub_self]
          dsimp only [List.getElem?_cons_zero]
          rw [rget_eq, List.getElem?_eq_none (by simp; omega), List.getElem?_eq_none (by simp; omega)]
        · rw [List.getElem?_append_right (by omega), List.getElem?_append_right (by omega), List.getElem?_eq_none (by simp; omega), List.getElem?_eq_none (by simp; omega)]
    · unfold wsnoc
      rw [fN_eq, h.1, rget_eq, hc]
      dsimp only
      rw [rsnoc_eq]
      try rfl
theorem rep_get {D : rD} {aw : List rC} (h : rep D aw) {k : Nat} {q : rC} (hq : wget D k = some q) : aw[k]? = some q := by rw [← h.2 k]; exact hq
theorem rep_0 : rep (0, []) [] := ⟨rfl, fun k => by simp [wget, rget_eq]⟩
end
section
/-! one instruction of the plain machine -/
/-- the signs of the class's string constant -/
def wordsL : List Nat := [109, 101, 109, 98, 101, 114, 32, 98, 114, 101, 97, 116, 104, 32, 107, 101, 101, 112, 115, 32, 98, 105, 108, 108, 32, 110, 101, 101, 100, 115, 32, 111, 112, 101, 110, 115, 32, 102, 97, 100, 101, 32, 121, 97, 119, 110, 32, 100, 114, 97, 119, 32, 111, 114, 32, 97, 110, 100, 32, 110, 111, 116, 32, 118, 111, 108, 117, 109, 101, 32, 97, 103, 101, 32, 108, 111, 115, 115, 32, 115, 104, 101, 108, 102, 32, 115, 104, 97, 107, 101, 110, 32, 100, 97, 121, 32]
noncomputable def lput {β : Type} (lv : rK) (i : Nat) (v : rV) (k : rK → β) : β := List.rec (motive := fun _ => (rK → β) → β) (fun k => k []) (fun q _ ih k => bif (!(Nat.beq q.1 i) && !(Nat.beq (Nat.succ q.1) i && Nat.beq (ct q.2) 2)) then ih (fun t => k (q :: t)) else ih k) lv (fun t => k ((i, v) :: t))
noncomputable def lput2 {β : Type} (lv : rK) (i : Nat) (v : rV) (k : rK → β) : β := List.rec (motive := fun _ => (rK → β) → β) (fun k => k []) (fun q _ ih k => bif (!(Nat.beq q.1 i) && (!(Nat.beq q.1 (Nat.succ i)) && !(Nat.beq (Nat.succ q.1) i && Nat.beq (ct q.2) 2))) then ih (fun t => k (q :: t)) else ih k) lv (fun t => k ((i, v) :: t))
noncomputable def kf {α : Type} (l : List ((Nat × Nat) × α)) (a i : Nat) : Option α := List.rec (motive := fun _ => Option α) none (fun q _ ih => bif (Nat.beq q.1.1 a && Nat.beq q.1.2 i) then some q.2 else ih) l
theorem kf_mem {α : Type} {l : List ((Nat × Nat) × α)} {a i : Nat} {v : α} (h : kf l a i = some v) : ((a, i), v) ∈ l := by
  induction l with
  | nil => cases h
  | cons q t ih =>
    have h' : (bif (Nat.beq q.1.1 a && Nat.beq q.1.2 i) then some q.2 else kf t a i) = some v := h
    cases hb : (Nat.beq q.1.1 a && Nat.beq q.1.2 i) with
    | true =>
      rw [hb] at h'
      cases h'
      rw [Bool.and_eq_true] at hb
      have h1 := Nat.eq_of_beq_eq_true hb.1
      have h2 := Nat.eq_of_beq_eq_true hb.2
      subst h1
      subst h2
      exact List.mem_cons_self
    | false =>
      rw [hb] at h'
      exact List.mem_cons_of_mem _ (ih h')
/-- the ints' own operations -/
def op (k : Nat) (x y : Int32) : Int32 := match k with
  | 0 => x + y
  | 1 => x - y
  | 2 => x * y
  | 3 => x &&& y
  | 4 => x ||| y
  | 5 => x ^^^ y
  | 6 => x <<< (y &&& 31)
  | 7 => x >>> (y &&& 31)
  | 8 => x / y
  | _ => x - x / y * y
/-- what is known of an operation on an unknown -/
noncomputable def sp (k x y : Nat) : Option Nat := match k with
  | 0 => bif Nat.beq x 0 then some y else bif Nat.beq y 0 then some x else none
  | 3 => bif (Nat.beq y 63 && (Nat.ble 4294967296 x && Nat.ble x 4294967303)) then some (Nat.add x 8) else none
  | 7 => bif Nat.beq x 0 then some 0 else bif (Nat.ble 4294967296 x && (Nat.ble x 4294967303 && Nat.ble y 31)) then some (Nat.add 4294967312 (Nat.add (Nat.mul 32 (Nat.sub x 4294967296)) y)) else none
  | _ => none
/-- an unknown of a narrow kind is split; another ends the walk -/
noncomputable def spl (E : rE) (n : Nat) : Option rO := bif (Nat.ble 4294967296 n && Nat.ble (Nat.sub (iv E n).2 (iv E n).1) 64) then some (.inr (.inl (Nat.sub n 4294967296, Nat.succ (iv E n).1))) else none
noncomputable def aop (k : Nat) (E : rE) (pc : Nat) (lv : rK) (st : List rV) (aw : rD) (c z : Nat) : Option rO := match st with
  | .inl y :: .inl x :: r => match nd E x with
    | some a => match nd E y with
      | some d => bif (Nat.ble 8 k && Nat.beq d 0) then none else fN (cN (op k (nI a) (nI d))) (fun n => some (.inl (Nat.add pc 1, lv, .inl n :: r, aw, c, z)))
      | none => match sp k x y with
        | some n => some (.inl (Nat.add pc 1, lv, .inl n :: r, aw, c, z))
        | none => spl E y
    | none => match sp k x y with
      | some n => some (.inl (Nat.add pc 1, lv, .inl n :: r, aw, c, z))
      | none => spl E x
  | _ => none
/-- the longs' own operations -/
def opL (k : Nat) (x y : Int64) : Int64 := match k with
  | 0 => x + y
  | 1 => x - y
  | 2 => x &&& y
  | 3 => x ||| y
  | _ => x * y
def opS (k : Nat) (x : Int64) (y : Int32) : Int64 := match k with
  | 0 => x <<< (y.toInt64 &&& 63)
  | 1 => x >>> (y.toInt64 &&& 63)
  | _ => (x.toUInt64 >>> (y.toInt64.toUInt64 &&& Int64.toUInt64 63)).toInt64
noncomputable def aopL (k : Nat) (pc : Nat) (lv : rK) (st : List rV) (aw : rD) (c z : Nat) : Option rO := match st with
  | .inr (.inl y) :: .inr (.inl x) :: r => fN (cL (opL k (lN x) (lN y))) (fun n => some (.inl (Nat.add pc 1, lv, .inr (.inl n) :: r, aw, c, z)))
  | _ => none
noncomputable def aopS (k : Nat) (E : rE) (pc : Nat) (lv : rK) (st : List rV) (aw : rD) (c z : Nat) : Option rO := match st with
  | .inl y :: .inr (.inl x) :: r => match nd E y with
    | some d => fN (cL (opS k (lN x) (nI d))) (fun n => some (.inl (Nat.add pc 1, lv, .inr (.inl n) :: r, aw, c, z)))
    | none => none
  | _ => none
/-- is x less than y: known, or which unknown to split where, or neither -/
noncomputable def ltD (E : rE) (x y : Nat) : Option (Bool ⊕ (Nat × Nat)) :=
  bif Nat.blt (iv E x).2 (iv E y).1 then some (.inl true) else bif Nat.ble (iv E y).2 (iv E x).1 then some (.inl false) else
  bif (Nat.beq (iv E y).1 (iv E y).2 && Nat.ble 4294967296 x) then some (.inr (Nat.sub x 4294967296, (iv E y).1)) else
  bif (Nat.beq (iv E x).1 (iv E x).2 && Nat.ble 4294967296 y) then some (.inr (Nat.sub y 4294967296, Nat.succ (iv E x).1)) else none
noncomputable def eqD (E : rE) (x y : Nat) : Option (Bool ⊕ (Nat × Nat)) := bif Nat.beq x y then some (.inl true) else
  bif Nat.blt (iv E x).2 (iv E y).1 then some (.inl false) else bif Nat.blt (iv E y).2 (iv E x).1 then some (.inl false) else
  bif (Nat.ble (iv E x).2 (iv E y).1 && Nat.ble (iv E y).2 (iv E x).1) then some (.inl true) else
  bif (Nat.beq (iv E y).1 (iv E y).2 && Nat.ble 4294967296 x) then some (.inr (Nat.sub x 4294967296, bif Nat.blt (iv E x).1 (iv E y).1 then (iv E y).1 else Nat.succ (iv E y).1)) else
  bif (Nat.beq (iv E x).1 (iv E x).2 && Nat.ble 4294967296 y) then some (.inr (Nat.sub y 4294967296, bif Nat.blt (iv E y).1 (iv E x).1 then (iv E x).1 else Nat.succ (iv E x).1)) else none
noncomputable def cmpD (E : rE) (q : ClassFile.Cond) (x y : Nat) : Option (Bool ⊕ (Nat × Nat)) := match q with
  | .eq => eqD E x y
  | .ne => eqD E x y
  | .lt => ltD E x y
  | .ge => ltD E x y
  | .gt => ltD E y x
  | .le => ltD E y x
def neg (q : ClassFile.Cond) : Bool := match q with
  | .ne => true
  | .ge => true
  | .le => true
  | _ => false
def tg (pc : Nat) (off : Int) : Option Nat := match Int.add (Int.ofNat pc) off with
  | .ofNat t => some t
  | .negSucc _ => none
noncomputable def abr (E : rE) (q : ClassFile.Cond) (x y : Nat) (off : Int) (pc : Nat) (lv : rK) (r : List rV) (aw : rD) (c z : Nat) : Option rO := match tg pc off with
  | none => none
  | some t => match cmpD E q x y with
    | some (.inl w) => bif Bool.xor w (neg q) then some (.inl (t, lv, r, aw, c, z)) else some (.inl (Nat.add pc 3, lv, r, aw, c, z))
    | some (.inr s) => some (.inr (.inl s))
    | none => some (.inr (.inr (.inl ((t, lv, r, aw, c, z), (Nat.add pc 3, lv, r, aw, c, z)))))
/-- is v of an array's kind -/
def vt (t : Nat) (v : rV) : Bool := match v with
  | .inl _ => Nat.ble t 14 || Nat.beq t 16
  | .inr (.inl _) => Nat.beq t 15
  | .inr (.inr _) => Nat.ble 17 t
noncomputable def ald (t1 t2 : Nat) (L : List Nat) (E : rE) (pc : Nat) (lv : rK) (st : List rV) (aw : rD) (c z : Nat) : Option rO := match st with
  | .inl i :: .inr (.inr (some k)) :: r => match nd E i with
    | some n => match k with
      | 0 => match rget L n with
        | some v => bif (Nat.beq t1 14 && (Nat.ble n 2147483647 && Nat.ble v 4294967295)) then some (.inl (Nat.add pc 1, lv, .inl v :: r, aw, c, z)) else none
        | none => none
      | k + 1 => match wget aw k with
        | some q => bif (Nat.beq q.1 t1 || Nat.beq q.1 t2) then (match rget q.2 n with
          | some v => bif (Nat.ble n 2147483647 && vt q.1 v) then some (.inl (Nat.add pc 1, lv, v :: r, aw, c, z)) else none
          | none => none) else none
        | none => none
    | none => spl E i
  | _ => none
/-- may v lie in an array of this kind -/
def ok_el (t : Nat) (v : rV) : Bool := match v with
  | .inl n => Nat.beq t 14 || (Nat.beq t 16 && Nat.ble n 1) || (Nat.beq t 13 && (Nat.ble n 127 || (Nat.ble 4294967168 n && Nat.ble n 4294967295)))
  | .inr (.inl _) => Nat.beq t 15
  | _ => false
noncomputable def ast (t1 t2 : Nat) (E : rE) (pc : Nat) (lv : rK) (st : List rV) (aw : rD) (c z : Nat) : Option rO := match st with
  | v :: .inl i :: .inr (.inr (some (k + 1))) :: r => match nd E i with
    | some n => match wget aw k with
      | some q => bif ((Nat.beq q.1 t1 || Nat.beq q.1 t2) && (ok_el q.1 v && (Nat.blt n q.2.length && Nat.ble n 2147483647))) then rset v q.2 n (fun l => wset (q.1, l) aw k (fun aw => some (.inl (Nat.add pc 1, lv, r, aw, c, z)))) else none
      | none => none
    | none => spl E i
  | _ => none
/-- a reference into an array of references: the arrays 17 and 18 hold objects of the classes 6 and 10 -/
noncomputable def aasr (E : rE) (pc : Nat) (lv : rK) (st : List rV) (aw : rD) (c z : Nat) : Option rO := match st with
  | .inr (.inr (some (j + 1))) :: .inl i :: .inr (.inr (some (k + 1))) :: r => match nd E i with
    | some n => match wget aw k with
      | some q => match wget aw j with
        | some o => bif (((Nat.beq q.1 17 && Nat.beq o.1 6) || (Nat.beq q.1 18 && Nat.beq o.1 10)) && (Nat.blt n q.2.length && Nat.ble n 2147483647)) then rset (.inr (.inr (some (j + 1)))) q.2 n (fun l => wset (q.1, l) aw k (fun aw => some (.inl (Nat.add pc 1, lv, r, aw, c, z)))) else none
        | none => none
      | none => none
    | none => spl E i
  | _ => none
/-- may v lie in a field of this kind: 0 int, 1 boolean, 2 long, else a reference -/
def ok_fi (t : Nat) (v : rV) : Bool := match v with
  | .inl n => Nat.beq t 0 || (Nat.beq t 1 && Nat.ble n 1)
  | .inr (.inl _) => Nat.beq t 2
  | .inr (.inr (some _)) => Nat.beq t 3
  | _ => false
/-- a field's kind, and its first value -/
def fk (ty : FieldType) : Nat := match ty with
  | .int => 0
  | .boolean => 1
  | .long => 2
  | .object _ => 3
  | .array _ => 3
  | _ => 4
def fd (k : Nat) : rV := match k with
  | 0 => .inl 0
  | 1 => .inl 0
  | 2 => .inr (.inl 0)
  | _ => .inr (.inr none)
def fty (ci : Nat) : Nat → FieldType := match ci with
  | 0 => tyX0
  | 1 => tyX1
  | 2 => tyX2
  | 3 => tyX3
  | 4 => tyX4
  | 5 => tyX5
  | 6 => tyX6
  | 7 => tyX7
  | 8 => tyX8
  | 9 => tyX9
  | 10 => tyX10
  | 11 => tyX11
  | _ => tyX12
def fnn (ci : Nat) : Nat := match ci with
  | 0 => 4
  | 1 => 3
  | 2 => 6
  | 3 => 15
  | 4 => 7
  | 5 => 10
  | 6 => 4
  | 7 => 10
  | 8 => 9
  | 9 => 7
  | 10 => 7
  | 11 => 14
  | _ => 66
noncomputable def blank_ (ci : Nat) : List rV := (List.range (fnn ci)).map (fun k => fd (fk (fty ci k)))
def ztag (t : ArrayType) : Nat := match t with
  | .byte => 13
  | .int => 14
  | .long => 15
  | .boolean => 16
  | _ => 0
def zval (t : Nat) : rV := match t with
  | 15 => .inr (.inl 0)
  | _ => .inl 0
/-- tables: a class's fields by the index in the using class: (class, field, final, kind); classes; constants; calls: (kind, method, parameters, class of the receiver) -/
abbrev rT : Type := List ((Nat × Nat) × (Nat × Nat × Nat × Nat)) × List ((Nat × Nat) × Nat) × List ((Nat × Nat) × Nat) × List ((Nat × Nat) × (Nat × Nat × Nat × Nat))
noncomputable def cut (n : Nat) (st : List rV) (acc : List rV) : Option (List rV × List rV) := Nat.rec (motive := fun _ => List rV → List rV → Option (List rV × List rV)) (fun st acc => some (acc, st)) (fun _ ih st acc => match st with
  | v :: r => ih r (v :: acc)
  | [] => none) n st acc
def csum (st : List rV) : Nat := (st.map ct).sum
/-- what a method may answer -/
def ok_rt (ret : Option FieldType) (v : rV) : Bool := match ret with
  | some .int => (match v with
    | .inl _ => true
    | _ => false)
  | some .boolean => (match v with
    | .inl n => Nat.ble n 1
    | _ => false)
  | some .long => (match v with
    | .inr (.inl _) => true
    | _ => false)
  | some (.object _) => (match v with
    | .inr (.inr (some _)) => true
    | _ => false)
  | _ => false
noncomputable def acopy (E : rE) (pc : Nat) (lv : rK) (st : List rV) (aw : rD) (c z : Nat) : Option rO := match st with
  | .inl n :: .inl dp :: .inr (.inr (some (k + 1))) :: .inl sp :: .inr (.inr (some (j + 1))) :: r => match nd E n with
    | some n => match nd E dp with
      | some dp => match nd E sp with
        | some sp => match wget aw k with
          | some q => match wget aw j with
            | some o => bif (Nat.beq q.1 14 && Nat.beq o.1 14 && Nat.beq sp 0 && Nat.beq dp 0 && Nat.beq n q.2.length && Nat.beq n o.2.length && Nat.ble n 2147483647 && Nat.ble (csum r) 8) then wset (14, o.2) aw k (fun aw => some (.inl (Nat.add pc 3, lv, r, aw, c, z))) else none
            | none => none
          | none => none
        | none => none
      | none => none
    | none => none
  | _ => none
noncomputable def acall (T : rT) (own idx kind : Nat) (E : rE) (pc : Nat) (lv : rK) (st : List rV) (aw : rD) (c z : Nat) : Option rO := match kf T.2.2.2 own idx with
  | some (k, mi, np, rc) => match k with
    | 0 => bif Nat.beq kind 0 then (match cut np st [] with
      | some (As, .inr (.inr (some (j + 1))) :: r) => (match wget aw j with
        | some q => bif Nat.beq q.1 rc then (bif Nat.ble (csum r) 8 then some (.inr (.inr (.inr (.inr (mi, .inr (.inr (some (j + 1))) :: As, r))))) else none) else none
        | none => none)
      | _ => none) else none
    | 1 => bif Nat.beq kind 1 then (match cut np st [] with
      | some (As, r) => bif Nat.ble (csum r) 8 then some (.inr (.inr (.inr (.inr (mi, As, r))))) else none
      | none => none) else none
    | 4 => bif Nat.beq kind 2 then (match st with
      | .inr (.inr (some _)) :: r => bif Nat.ble (csum r) 8 then some (.inl (Nat.add pc 3, lv, r, aw, c, z)) else none
      | _ => none) else none
    | 5 => bif Nat.beq kind 1 then acopy E pc lv st aw c z else none
    | _ => bif Nat.beq kind 2 then (match cut np st [] with
      | some (As, .inr (.inr (some j)) :: r) => bif Nat.ble (csum r) 8 then some (.inr (.inr (.inr (.inr (mi, .inr (.inr (some j)) :: As, r))))) else none
      | _ => none) else none
  | none => none
/-- which of the keys lies within: for a switch over pairs -/
noncomputable def lkS (E : rE) (x : Nat) (ps : List (Int × Int)) : Option (Nat × Nat) := List.rec (motive := fun _ => Option (Nat × Nat)) none (fun q _ ih => bif (Nat.ble (iv E x).1 (bz (Int32.ofInt q.1)) && Nat.ble (bz (Int32.ofInt q.1)) (iv E x).2) then some (Nat.sub x 4294967296, bif Nat.blt (iv E x).1 (bz (Int32.ofInt q.1)) then bz (Int32.ofInt q.1) else Nat.succ (iv E x).1) else ih) ps
/-- a handler: tables, class, answer, constructor?, cells, slots, the script's length; then the state -/
abbrev rH : Type := rT → Nat → Option FieldType → Bool → Nat → Nat → List Nat → rE → Nat → rK → List rV → rD → Nat → Nat → Option rO
noncomputable def h_ildI (i w : Nat) : rH := fun _ _ _ _ _ _ _ _ pc lv st aw c z => match lget lv i with
  | some (.inl v) => some (.inl (Nat.add pc w, lv, .inl v :: st, aw, c, z))
  | _ => none
noncomputable def h_ildA (i w : Nat) : rH := fun _ _ _ _ _ _ _ _ pc lv st aw c z => match lget lv i with
  | some (.inr (.inr (some v))) => some (.inl (Nat.add pc w, lv, .inr (.inr (some v)) :: st, aw, c, z))
  | _ => none
noncomputable def h_ildL (i w : Nat) : rH := fun _ _ _ _ _ _ _ _ pc lv st aw c z => match lget lv i with
  | some (.inr (.inl v)) => some (.inl (Nat.add pc w, lv, .inr (.inl v) :: st, aw, c, z))
  | _ => none
noncomputable def h_istI (i w : Nat) : rH := fun _ _ _ _ _ _ _ _ pc lv st aw c z => match st with
  | .inl v :: r => lput lv i (.inl v) (fun lv => some (.inl (Nat.add pc w, lv, r, aw, c, z)))
  | _ => none
noncomputable def h_istA (i w : Nat) : rH := fun _ _ _ _ _ _ _ _ pc lv st aw c z => match st with
  | .inr (.inr (some v)) :: r => lput lv i (.inr (.inr (some v))) (fun lv => some (.inl (Nat.add pc w, lv, r, aw, c, z)))
  | _ => none
noncomputable def h_istL (i w : Nat) : rH := fun _ _ _ _ _ _ _ _ pc lv st aw c z => match st with
  | .inr (.inl v) :: r => lput2 lv i (.inr (.inl v)) (fun lv => some (.inl (Nat.add pc w, lv, r, aw, c, z)))
  | _ => none
noncomputable def h_con (n w : Nat) : rH := fun _ _ _ _ _ _ _ _ pc lv st aw c z => some (.inl (Nat.add pc w, lv, .inl n :: st, aw, c, z))
noncomputable def h_conL (n w : Nat) : rH := fun _ _ _ _ _ _ _ _ pc lv st aw c z => some (.inl (Nat.add pc w, lv, .inr (.inl n) :: st, aw, c, z))
noncomputable def h_ldcw (i : Nat) : rH := fun T own _ _ _ _ _ _ pc lv st aw c z => match kf T.2.2.1 own i with
  | some n => bif Nat.ble n 4294967295 then some (.inl (Nat.add pc 3, lv, .inl n :: st, aw, c, z)) else none
  | none => none
noncomputable def h_ldc2 (i : Nat) : rH := fun T own _ _ _ _ _ _ pc lv st aw c z => match kf T.2.2.1 (Nat.add 100 own) i with
  | some n => some (.inl (Nat.add pc 3, lv, .inr (.inl n) :: st, aw, c, z))
  | none => none
noncomputable def h_iinc (i : Nat) (k : Int) : rH := fun _ _ _ _ _ _ _ E pc lv st aw c z => match lget lv i with
  | some (.inl v) => (match nd E v with
    | some n => fN (cN (nI n + Int32.ofInt k)) (fun n => lput lv i (.inl n) (fun lv => some (.inl (Nat.add pc 3, lv, st, aw, c, z))))
    | none => none)
  | _ => none
noncomputable def h_goto (off : Int) : rH := fun _ _ _ _ _ _ _ _ pc lv st aw c z => match tg pc off with
  | some t => some (.inl (t, lv, st, aw, c, z))
  | none => none
noncomputable def h_dup : rH := fun _ _ _ _ _ _ _ _ pc lv st aw c z => match st with
  | v :: r => bif Nat.beq (ct v) 1 then some (.inl (Nat.add pc 1, lv, v :: v :: r, aw, c, z)) else none
  | _ => none
noncomputable def h_dup2 : rH := fun _ _ _ _ _ _ _ _ pc lv st aw c z => match st with
  | v :: w :: r => bif (Nat.beq (ct v) 1 && Nat.beq (ct w) 1) then some (.inl (Nat.add pc 1, lv, v :: w :: v :: w :: r, aw, c, z)) else none
  | _ => none
noncomputable def h_aop (k : Nat) : rH := fun _ _ _ _ _ _ _ E pc lv st aw c z => aop k E pc lv st aw c z
noncomputable def h_aopL (k : Nat) : rH := fun _ _ _ _ _ _ _ _ pc lv st aw c z => aopL k pc lv st aw c z
noncomputable def h_aopS (k : Nat) : rH := fun _ _ _ _ _ _ _ E pc lv st aw c z => aopS k E pc lv st aw c z
noncomputable def h_lcmp : rH := fun _ _ _ _ _ _ _ _ pc lv st aw c z => match st with
  | .inr (.inl y) :: .inr (.inl x) :: r => fN (cN (lg_cmp (lN x) (lN y))) (fun n => some (.inl (Nat.add pc 1, lv, .inl n :: r, aw, c, z)))
  | _ => none
noncomputable def h_l2i : rH := fun _ _ _ _ _ _ _ _ pc lv st aw c z => match st with
  | .inr (.inl x) :: r => fN (cN (lN x).toInt32) (fun n => some (.inl (Nat.add pc 1, lv, .inl n :: r, aw, c, z)))
  | _ => none
noncomputable def h_i2b : rH := fun _ _ _ _ _ _ _ E pc lv st aw c z => match st with
  | .inl x :: r => (match nd E x with
    | some a => fN (cN (nI a).toInt8.toInt32) (fun n => some (.inl (Nat.add pc 1, lv, .inl n :: r, aw, c, z)))
    | none => none)
  | _ => none
noncomputable def h_i2l : rH := fun _ _ _ _ _ _ _ E pc lv st aw c z => match st with
  | .inl x :: r => (match nd E x with
    | some a => fN (cL (nI a).toInt64) (fun n => some (.inl (Nat.add pc 1, lv, .inr (.inl n) :: r, aw, c, z)))
    | none => none)
  | _ => none
def opU (x y : Int32) : Int32 := (x.toUInt32 >>> (y.toUInt32 &&& Int32.toUInt32 31)).toInt32
noncomputable def h_ush : rH := fun _ _ _ _ _ _ _ E pc lv st aw c z => match st with
  | .inl y :: .inl x :: r => (match nd E x with
    | some a => (match nd E y with
      | some d => fN (cN (opU (nI a) (nI d))) (fun n => some (.inl (Nat.add pc 1, lv, .inl n :: r, aw, c, z)))
      | none => none)
    | none => none)
  | _ => none
def opD (k : Nat) (x y : Int64) : Int64 := match k with
  | 0 => x / y
  | _ => x - x / y * y
noncomputable def h_aopD (k : Nat) : rH := fun _ _ _ _ _ _ _ _ pc lv st aw c z => match st with
  | .inr (.inl y) :: .inr (.inl x) :: r => bif Nat.beq (cL (lN y)) 0 then none else fN (cL (opD k (lN x) (lN y))) (fun n => some (.inl (Nat.add pc 1, lv, .inr (.inl n) :: r, aw, c, z)))
  | _ => none
noncomputable def h_pop : rH := fun _ _ _ _ _ _ _ _ pc lv st aw c z => match st with
  | v :: r => bif Nat.beq (ct v) 1 then some (.inl (Nat.add pc 1, lv, r, aw, c, z)) else none
  | _ => none
noncomputable def h_if1 (q : ClassFile.Cond) (off : Int) : rH := fun _ _ _ _ _ _ _ E pc lv st aw c z => match st with
  | .inl x :: r => abr E q x 0 off pc lv r aw c z
  | _ => none
noncomputable def h_if2 (q : ClassFile.Cond) (off : Int) : rH := fun _ _ _ _ _ _ _ E pc lv st aw c z => match st with
  | .inl y :: .inl x :: r => abr E q x y off pc lv r aw c z
  | _ => none
noncomputable def h_tsw (d lo hi : Int) (offs : Array Int) : rH := fun _ _ _ _ _ _ _ E pc lv st aw c z => match st with
  | .inl x :: r => bif (Nat.blt (iv E x).2 (bz (Int32.ofInt lo)) || Nat.blt (bz (Int32.ofInt hi)) (iv E x).1) then (match tg pc d with
      | some t => bif (decide ((Int32.ofInt lo).toInt = lo) && decide ((Int32.ofInt hi).toInt = hi)) then some (.inl (t, lv, r, aw, c, z)) else none
      | none => none) else (match nd E x with
    | some n => (match offs[((nI n).toInt - lo).toNat]? with
      | some o => (match tg pc o with
        | some t => bif (decide (lo ≤ (nI n).toInt) && decide ((nI n).toInt ≤ hi)) then some (.inl (t, lv, r, aw, c, z)) else none
        | none => none)
      | none => none)
    | none => bif Nat.blt (iv E x).1 (bz (Int32.ofInt lo)) then some (.inr (.inl (Nat.sub x 4294967296, bz (Int32.ofInt lo)))) else bif Nat.blt (bz (Int32.ofInt hi)) (iv E x).2 then some (.inr (.inl (Nat.sub x 4294967296, Nat.succ (bz (Int32.ofInt hi))))) else spl E x)
  | _ => none
noncomputable def h_lsw (d : Int) (ps : Array (Int × Int)) : rH := fun _ _ _ _ _ _ _ E pc lv st aw c z => match st with
  | .inl x :: r => bif (ps.toList.zip (ps.toList.drop 1)).all (fun (a, next) => a.1 < next.1) then (match nd E x with
    | some n => (match tg pc (Op.lookupswitch.offset ps.toList d (nI n).toInt) with
      | some t => some (.inl (t, lv, r, aw, c, z))
      | none => none)
    | none => (match lkS E x ps.toList with
      | some s => some (.inr (.inl s))
      | none => bif ps.toList.all (fun q => decide ((Int32.ofInt q.1).toInt = q.1)) then (match tg pc d with
        | some t => some (.inl (t, lv, r, aw, c, z))
        | none => none) else none)) else none
  | _ => none
noncomputable def h_ald (t1 t2 : Nat) : rH := fun _ _ _ _ _ _ L E pc lv st aw c z => ald t1 t2 L E pc lv st aw c z
noncomputable def h_aald : rH := fun _ _ _ _ _ _ L E pc lv st aw c z => match (match ald 17 19 L E pc lv st aw c z with | some o => some o | none => ald 18 18 L E pc lv st aw c z) with
  | some (.inl (pc, lv, .inr (.inr (some k)) :: r, aw, c, z)) => some (.inl (pc, lv, .inr (.inr (some k)) :: r, aw, c, z))
  | some (.inr w) => some (.inr w)
  | _ => none
noncomputable def h_ast (t1 t2 : Nat) : rH := fun _ _ _ _ _ _ _ E pc lv st aw c z => ast t1 t2 E pc lv st aw c z
noncomputable def h_aasr : rH := fun _ _ _ _ _ _ _ E pc lv st aw c z => aasr E pc lv st aw c z
noncomputable def h_alen : rH := fun _ _ _ _ _ _ L _ pc lv st aw c z => match st with
  | .inr (.inr (some k)) :: r => (match k with
    | 0 => fN L.length (fun n => some (.inl (Nat.add pc 1, lv, .inl n :: r, aw, c, z)))
    | k + 1 => (match wget aw k with
      | some q => bif (Nat.ble 13 q.1 && (Nat.ble q.1 19 && Nat.ble q.2.length 4294967295)) then fN q.2.length (fun n => some (.inl (Nat.add pc 1, lv, .inl n :: r, aw, c, z))) else none
      | none => none))
  | _ => none
noncomputable def h_getf (i : Nat) : rH := fun T own _ _ _ _ _ _ pc lv st aw c z => match st with
  | .inr (.inr (some (j + 1))) :: r => (match kf T.1 own i with
    | some (ci, k, _) => (match wget aw j with
      | some q => bif Nat.beq q.1 ci then (match rget q.2 k with
        | some v => some (.inl (Nat.add pc 3, lv, v :: r, aw, c, z))
        | none => none) else none
      | none => none)
    | none => none)
  | _ => none
noncomputable def h_putf (i : Nat) : rH := fun T own _ ini _ _ _ _ pc lv st aw c z => match st with
  | v :: .inr (.inr (some (j + 1))) :: r => (match kf T.1 own i with
    | some (ci, k, fi, kd) => (match wget aw j with
      | some q => bif (Nat.beq q.1 ci && (ok_fi kd v && (Nat.blt k q.2.length && (Nat.beq fi 0 || (Nat.beq fi 1 && ini))))) then rset v q.2 k (fun l => wset (q.1, l) aw j (fun aw => some (.inl (Nat.add pc 3, lv, r, aw, c, z)))) else none
      | none => none)
    | none => none)
  | _ => none
noncomputable def h_new (i : Nat) : rH := fun T own _ _ mc ms _ _ pc lv st aw c z => match kf T.2.1 own i with
  | some ci => bif (Nat.blt ci 13 && (Nat.ble (Nat.add c 1) mc && Nat.ble (Nat.add z (fnn ci)) ms)) then wsnoc (ci, blank_ ci) aw (fun aw' => some (.inl (Nat.add pc 3, lv, .inr (.inr (some (Nat.succ aw.1))) :: st, aw', Nat.add c 1, Nat.add z (fnn ci)))) else none
  | none => none
noncomputable def h_newa (t : ArrayType) : rH := fun _ _ _ _ mc ms _ E pc lv st aw c z => match st with
  | .inl x :: r => (match nd E x with
    | some n => bif (Nat.ble 13 (ztag t) && (Nat.ble n 100000 && (Nat.ble (Nat.add c 1) mc && Nat.ble (Nat.add z n) ms))) then wsnoc (ztag t, List.replicate n (zval (ztag t))) aw (fun aw' => some (.inl (Nat.add pc 2, lv, .inr (.inr (some (Nat.succ aw.1))) :: r, aw', Nat.add c 1, Nat.add z n))) else none
    | none => none)
  | _ => none
noncomputable def h_anew (i : Nat) : rH := fun T own _ _ mc ms _ E pc lv st aw c z => match st with
  | .inl x :: r => (match kf T.2.1 own i with
    | some ci => (match nd E x with
      | some n => bif ((Nat.beq ci 6 || Nat.beq ci 10) && (Nat.ble n 100000 && (Nat.ble (Nat.add c 1) mc && Nat.ble (Nat.add z n) ms))) then wsnoc (bif Nat.beq ci 6 then 17 else 18, List.replicate n (.inr (.inr none))) aw (fun aw' => some (.inl (Nat.add pc 3, lv, .inr (.inr (some (Nat.succ aw.1))) :: r, aw', Nat.add c 1, Nat.add z n))) else none
      | none => none)
    | none => none)
  | _ => none
noncomputable def wsn {β : Type} (n : Nat) (v : rC) : rD → (rD → β) → β := Nat.rec (motive := fun _ => rD → (rD → β) → β) (fun D K => K D) (fun _ ih D K => wsnoc v D (fun D => ih D K)) n
noncomputable def h_mnew (i d : Nat) : rH := fun T own _ _ mc ms _ E pc lv st aw c z => match st with
  | .inl y :: .inl x :: r => (match kf T.2.1 own i with
    | some ci => (match nd E x with
      | some n => (match nd E y with
        | some k => bif (Nat.beq d 2 && (Nat.beq ci 19 && (Nat.ble n 1000 && (Nat.ble k 1000 && (Nat.ble (Nat.add c (Nat.add 1 n)) mc && Nat.ble (Nat.add z (Nat.add n (Nat.mul n k))) ms))))) then wsnoc (19, (List.range n).map (fun j => .inr (.inr (some (Nat.add aw.1 (Nat.add 2 j)))))) aw (fun a1 => wsn n (14, List.replicate k (.inl 0)) a1 (fun a2 => some (.inl (Nat.add pc 4, lv, .inr (.inr (some (Nat.succ aw.1))) :: r, a2, Nat.add (Nat.add c 1) n, Nat.add (Nat.add z n) (Nat.mul n k))))) else none
        | none => none)
      | none => none)
    | none => none)
  | _ => none
noncomputable def h_call (i kind : Nat) : rH := fun T own _ _ _ _ _ E pc lv st aw c z => acall T own i kind E pc lv st aw c z
noncomputable def h_retI : rH := fun _ _ ret _ mc ms _ _ _ _ st _ c z => match st with
  | .inl v :: [] => bif (ok_rt ret (.inl v) && (Nat.ble c mc && Nat.ble z ms)) then some (.inr (.inr (.inr (.inl (some (.inl v)))))) else none
  | _ => none
noncomputable def h_retL : rH := fun _ _ ret _ mc ms _ _ _ _ st _ c z => match st with
  | .inr (.inl v) :: [] => bif (ok_rt ret (.inr (.inl v)) && (Nat.ble c mc && Nat.ble z ms)) then some (.inr (.inr (.inr (.inl (some (.inr (.inl v))))))) else none
  | _ => none
noncomputable def h_retA : rH := fun _ _ ret _ mc ms _ _ _ _ st _ c z => match st with
  | .inr (.inr (some v)) :: [] => bif (ok_rt ret (.inr (.inr (some v))) && (Nat.ble c mc && Nat.ble z ms)) then some (.inr (.inr (.inr (.inl (some (.inr (.inr (some v)))))))) else none
  | _ => none
def no_rt (ret : Option FieldType) : Bool := match ret with
  | none => true
  | _ => false
noncomputable def h_retV : rH := fun _ _ ret _ mc ms _ _ _ _ st _ c z => match st with
  | [] => bif (no_rt ret && (Nat.ble c mc && Nat.ble z ms)) then some (.inr (.inr (.inr (.inl none)))) else none
  | _ => none
/-- an instruction's length (0: any), and its handler -/
noncomputable def disp (ins : Instr) : Option (Nat × rH) := match ins with
  | .iload_n i => some (1, h_ildI i.val 1)
  | .iload i => some (2, h_ildI i 2)
  | .aload_n i => some (1, h_ildA i.val 1)
  | .aload i => some (2, h_ildA i 2)
  | .lload_n i => some (1, h_ildL i.val 1)
  | .istore_n i => some (1, h_istI i.val 1)
  | .istore i => some (2, h_istI i 2)
  | .astore_n i => some (1, h_istA i.val 1)
  | .lstore_n i => some (1, h_istL i.val 1)
  | .iconst i => some (1, h_con (cN (Int32.ofInt i)) 1)
  | .bipush i => some (2, h_con (cN (Int8.ofInt i).toInt32) 2)
  | .sipush i => some (3, h_con (cN (Int16.ofInt i).toInt32) 3)
  | .lconst i => some (1, h_conL i.val 1)
  | .ldc_w i => some (3, h_ldcw i)
  | .ldc2_w i => some (3, h_ldc2 i)
  | .iinc i k => some (3, h_iinc i k)
  | .goto off => some (3, h_goto off)
  | .dup => some (1, h_dup)
  | .pop => some (1, h_pop)
  | .lload i => some (2, h_ildL i 2)
  | .astore i => some (2, h_istA i 2)
  | .lstore i => some (2, h_istL i 2)
  | .i2l => some (1, h_i2l)
  | .iushr => some (1, h_ush)
  | .lmul => some (1, h_aopL 4)
  | .ldiv => some (1, h_aopD 0)
  | .lrem => some (1, h_aopD 1)
  | .dup2 => some (1, h_dup2)
  | .iadd => some (1, h_aop 0)
  | .isub => some (1, h_aop 1)
  | .imul => some (1, h_aop 2)
  | .iand => some (1, h_aop 3)
  | .ior => some (1, h_aop 4)
  | .ixor => some (1, h_aop 5)
  | .ishl => some (1, h_aop 6)
  | .ishr => some (1, h_aop 7)
  | .idiv => some (1, h_aop 8)
  | .irem => some (1, h_aop 9)
  | .ladd => some (1, h_aopL 0)
  | .lsub => some (1, h_aopL 1)
  | .land => some (1, h_aopL 2)
  | .lor => some (1, h_aopL 3)
  | .lshl => some (1, h_aopS 0)
  | .lshr => some (1, h_aopS 1)
  | .lushr => some (1, h_aopS 2)
  | .lcmp => some (1, h_lcmp)
  | .l2i => some (1, h_l2i)
  | .i2b => some (1, h_i2b)
  | .ifCond q off => some (3, h_if1 q off)
  | .if_icmp q off => some (3, h_if2 q off)
  | .tableswitch d lo hi offs => some (0, h_tsw d lo hi offs)
  | .lookupswitch d ps => some (0, h_lsw d ps)
  | .iaload => some (1, h_ald 14 14)
  | .baload => some (1, h_ald 13 16)
  | .laload => some (1, h_ald 15 15)
  | .aaload => some (1, h_aald)
  | .iastore => some (1, h_ast 14 14)
  | .bastore => some (1, h_ast 13 16)
  | .lastore => some (1, h_ast 15 15)
  | .aastore => some (1, h_aasr)
  | .arraylength => some (1, h_alen)
  | .getfield i => some (3, h_getf i)
  | .putfield i => some (3, h_putf i)
  | .new i => some (3, h_new i)
  | .newarray t => some (2, h_newa t)
  | .anewarray i => some (3, h_anew i)
  | .multianewarray i d => some (4, h_mnew i d)
  | .invokevirtual i => some (3, h_call i 0)
  | .invokestatic i => some (3, h_call i 1)
  | .invokespecial i => some (3, h_call i 2)
  | .ireturn => some (1, h_retI)
  | .lreturn => some (1, h_retL)
  | .areturn => some (1, h_retA)
  | .return_ => some (1, h_retV)
  | _ => none
/-! a whole method -/
/-- a method: its class, its bytes, its instructions, its locals, its answer, is it a constructor, the cells and slots that it makes -/
abbrev rM : Type := Nat × ByteArray × (Nat → Option (Instr × Nat)) × Nat × Option FieldType × Bool × Nat × Nat
def mOwn (M : rM) : Nat := M.1
def mBy (M : rM) : ByteArray := M.2.1
def mTab (M : rM) : Nat → Option (Instr × Nat) := M.2.2.1
def mLoc (M : rM) : Nat := M.2.2.2.1
def mRet (M : rM) : Option FieldType := M.2.2.2.2.1
def mIni (M : rM) : Bool := M.2.2.2.2.2.1
def mC (M : rM) : Nat := M.2.2.2.2.2.2.1
def mS (M : rM) : Nat := M.2.2.2.2.2.2.2
/-- a table of instructions, as a tree -/
def nT (p : Nat) (v : Instr × Nat) (l r : Nat → Option (Instr × Nat)) : Nat → Option (Instr × Nat) := fun pc => bif Nat.beq pc p then some v else bif Nat.blt pc p then l pc else r pc
def nE : Nat → Option (Instr × Nat) := fun _ => none
/-- the locals that an instruction writes lie among the method's -/
def stOK (n : Nat) (ins : Instr) : Bool := match ins with
  | .istore_n i => Nat.blt i.val n
  | .istore i => Nat.blt i n
  | .astore_n i => Nat.blt i.val n
  | .lstore_n i => Nat.blt (Nat.succ i.val) n
  | .astore i => Nat.blt i n
  | .lstore i => Nat.blt (Nat.succ i) n
  | .iinc i _ => Nat.blt i n
  | _ => true
def okT (cc : ByteArray) (n : Nat) (t : Nat → Option (Instr × Nat)) : Prop := ∀ (pc : Nat) (q : Instr × Nat), t pc = some q → decode cc pc = .ok q ∧ stOK n q.1 = true
theorem okE {cc : ByteArray} {n : Nat} : okT cc n nE := fun _ _ h => by cases h
theorem okN {cc : ByteArray} {n p : Nat} {v : Instr × Nat} {l r : Nat → Option (Instr × Nat)} (hl : okT cc n l) (hv : decode cc p = .ok v) (hs : stOK n v.1 = true) (hr : okT cc n r) : okT cc n (nT p v l r) := by
  intro pc q h
  unfold nT at h
  cases h1 : Nat.beq pc p with
  | true =>
    rw [h1, cond_true] at h
    cases h
    rw [Nat.eq_of_beq_eq_true h1]
    exact ⟨hv, hs⟩
  | false =>
    rw [h1, cond_false] at h
    cases h2 : Nat.blt pc p with
    | true =>
      rw [h2, cond_true] at h
      exact hl pc q h
    | false =>
      rw [h2, cond_false] at h
      exact hr pc q h
/-- a string constant, and what is asked of it: its length, or the char at a local's place -/
noncomputable def strS (_ : rE) (_ : rM) (_ : Nat) (_ : rK) (_ : List rV) (_ : rD) (_ _ : Nat) : Option rO := none
def isStr (q : Instr × Nat) : Bool := match q.1 with
  | .ldc i => Nat.beq i 61 && Nat.beq q.2 2
  | _ => false
noncomputable def step (T : rT) (L : List Nat) (M : rM) (E : rE) (pc : Nat) (lv : rK) (st : List rV) (aw : rD) (c z : Nat) : Option rO := match mTab M pc with
  | some q => bif isStr q then strS E M pc lv st aw c z else (match disp q.1 with
    | some h => bif (Nat.beq h.1 0 || Nat.beq h.1 q.2) then h.2 T (mOwn M) (mRet M) (mIni M) (mC M) (mS M) L E pc lv st aw c z else none
    | none => none)
  | none => none
def cat2 (a b : Option (List rF)) : Option (List rF) := match a with
  | none => none
  | some x => match b with
    | none => none
    | some y => some (x ++ y)
noncomputable def argsL (As : List rV) : Nat → rK := List.rec (motive := fun _ => Nat → rK) (fun _ => []) (fun v _ ih i => (i, v) :: ih (Nat.add i (ct v))) As
def asum (As : List rV) : Nat := (As.map ct).sum
abbrev rN : Type := Nat → rM → rE → rX → Option (List rF)
noncomputable def runL (ih : rN) (d : Nat) (M : rM) (pc : Nat) (lv : rK) (r : List rV) (c z : Nat) (ls : List rF) : Option (List rF) := List.rec (motive := fun _ => Option (List rF)) (some []) (fun f _ acc => cat2 (ih d M f.1 (pc, lv, f.2.1.toList ++ r, f.2.2, c, z)) acc) ls
noncomputable def runC (ih : rN) (d : Nat) (M M' : rM) (E : rE) (pc : Nat) (lv : rK) (As r : List rV) (aw : rD) (c z : Nat) : Option (List rF) := Nat.rec (motive := fun _ => Option (List rF)) none (fun d' _ =>
  bif (Nat.ble (asum As) (mLoc M') && (Nat.ble (mLoc M') 80 && (Nat.ble (Nat.add c (mC M')) (mC M) && Nat.ble (Nat.add z (mS M')) (mS M)))) then (match ih d' M' E (0, argsL As 0, [], aw, 0, 0) with
    | none => none
    | some ls => runL ih d M (Nat.add pc 3) lv r (Nat.add c (mC M')) (Nat.add z (mS M')) ls) else none) d
noncomputable def runS (ih : rN) (d : Nat) (M : rM) (E : rE) (x : rX) (j w : Nat) : Option (List rF) := match rget E j with
  | some q => cat2 (ih d M (E.set j (q.1, Nat.pred w)) x) (ih d M (E.set j (w, q.2)) x)
  | none => none
noncomputable def runB (T : rT) (mt : Nat → Option rM) (L : List Nat) (ih : rN) (d : Nat) (M : rM) (E : rE) (pc : Nat) (lv : rK) (st : List rV) (aw : rD) (c z : Nat) : Option (List rF) := match step T L M E pc lv st aw c z with
  | none => none
  | some (.inl x') => ih d M E x'
  | some (.inr (.inl (j, w))) => runS ih d M E (pc, lv, st, aw, c, z) j w
  | some (.inr (.inr (.inl (x1, x2)))) => cat2 (ih d M E x1) (ih d M E x2)
  | some (.inr (.inr (.inr (.inl v)))) => some [(E, v, aw)]
  | some (.inr (.inr (.inr (.inr (mi, As, r))))) => (match mt mi with
    | none => none
    | some M' => runC ih d M M' E pc lv As r aw c z)
noncomputable def run (T : rT) (mt : Nat → Option rM) (L : List Nat) (n : Nat) : rN :=
  Nat.rec (motive := fun _ => rN) (fun _ _ _ _ => none) (fun _ ih d M E x => fN x.1 (fun pc => runB T mt L ih d M E pc x.2.1 x.2.2.1 x.2.2.2.1 x.2.2.2.2.1 x.2.2.2.2.2)) n
end
section
def tF : List ((Nat × Nat) × (Nat × Nat × Nat × Nat)) := [((0, 11), (0, 0, 1, 3)), ((0, 16), (0, 1, 0, 0)), ((0, 20), (0, 2, 0, 0)), ((0, 23), (0, 3, 0, 0)), ((1, 9), (1, 0, 1, 3)), ((1, 15), (1, 1, 1, 3)), ((1, 19), (1, 2, 1, 3)), ((1, 42), (5, 6, 0, 0)), ((1, 49), (6, 1, 0, 0)), ((1, 55), (5, 7, 0, 0)), ((1, 65), (6, 2, 0, 0)), ((1, 88), (10, 1, 0, 0)), ((1, 91), (10, 5, 0, 0)), ((1, 112), (10, 4, 0, 0)), ((2, 9), (2, 0, 1, 3)), ((2, 15), (2, 1, 1, 3)), ((2, 19), (2, 2, 1, 3)), ((2, 23), (2, 3, 1, 3)), ((2, 27), (2, 4, 0, 2)), ((2, 31), (2, 5, 0, 2)), ((2, 49), (5, 6, 0, 0)), ((2, 73), (6, 2, 0, 0)), ((2, 92), (10, 1, 0, 0)), ((2, 125), (5, 8, 0, 0)), ((3, 9), (3, 4, 1, 3)), ((3, 15), (3, 6, 1, 3)), ((3, 18), (3, 7, 1, 3)), ((3, 21), (3, 8, 1, 3)), ((3, 25), (3, 9, 1, 3)), ((3, 30), (3, 13, 1, 3)), ((3, 34), (3, 14, 1, 3)), ((3, 37), (3, 0, 1, 3)), ((3, 41), (3, 1, 1, 3)), ((3, 45), (3, 2, 1, 3)), ((3, 49), (3, 3, 1, 3)), ((3, 56), (3, 5, 0, 0)), ((3, 72), (3, 12, 0, 0)), ((3, 85), (3, 10, 0, 0)), ((3, 105), (3, 11, 0, 0)), ((3, 108), (5, 6, 0, 0)), ((3, 149), (10, 6, 0, 0)), ((3, 158), (10, 1, 0, 0)), ((3, 170), (10, 5, 0, 0)), ((4, 9), (4, 0, 1, 3)), ((4, 13), (4, 1, 1, 3)), ((4, 16), (4, 2, 1, 3)), ((4, 19), (4, 3, 1, 3)), ((4, 22), (4, 4, 0, 0)), ((4, 26), (4, 5, 0, 0)), ((4, 29), (4, 6, 0, 1)), ((5, 9), (5, 0, 1, 3)), ((5, 15), (5, 1, 1, 3)), ((5, 18), (5, 2, 1, 3)), ((5, 21), (5, 3, 1, 3)), ((5, 24), (5, 4, 1, 3)), ((5, 30), (5, 5, 1, 3)), ((5, 37), (5, 6, 0, 0)), ((5, 41), (5, 7, 0, 0)), ((5, 44), (5, 8, 0, 0)), ((5, 47), (5, 9, 0, 0)), ((6, 11), (6, 0, 1, 3)), ((6, 39), (6, 1, 0, 0)), ((6, 43), (6, 2, 0, 0)), ((6, 46), (5, 9, 0, 0)), ((6, 49), (6, 3, 0, 0)), ((7, 11), (7, 2, 1, 3)), ((7, 15), (7, 3, 1, 3)), ((7, 18), (7, 4, 1, 3)), ((7, 22), (7, 5, 1, 3)), ((7, 25), (7, 6, 1, 3)), ((7, 30), (7, 7, 1, 3)), ((7, 33), (7, 0, 1, 3)), ((7, 37), (7, 1, 1, 3)), ((7, 41), (7, 9, 0, 0)), ((7, 45), (7, 8, 0, 1)), ((7, 52), (5, 6, 0, 0)), ((7, 71), (10, 1, 0, 0)), ((8, 9), (8, 2, 1, 3)), ((8, 15), (8, 3, 1, 3)), ((8, 18), (8, 8, 0, 0)), ((8, 22), (8, 0, 1, 3)), ((8, 26), (8, 1, 1, 3)), ((8, 35), (8, 4, 0, 1)), ((8, 39), (8, 5, 0, 1)), ((8, 42), (8, 7, 0, 0)), ((8, 50), (9, 3, 0, 0)), ((8, 76), (9, 4, 0, 0)), ((8, 79), (5, 6, 0, 0)), ((8, 93), (5, 0, 2, 3)), ((8, 97), (8, 6, 0, 0)), ((8, 100), (5, 1, 2, 3)), ((8, 103), (5, 7, 0, 0)), ((8, 106), (5, 2, 2, 3)), ((8, 109), (5, 3, 2, 3)), ((8, 112), (5, 4, 2, 3)), ((8, 115), (5, 5, 2, 3)), ((8, 119), (4, 6, 0, 1)), ((8, 127), (5, 8, 0, 0)), ((8, 130), (5, 9, 0, 0)), ((8, 133), (9, 6, 0, 2)), ((8, 137), (9, 5, 0, 0)), ((8, 162), (4, 5, 0, 0)), ((9, 11), (9, 0, 1, 3)), ((9, 15), (9, 1, 0, 0)), ((9, 19), (9, 2, 0, 0)), ((9, 29), (9, 4, 0, 0)), ((9, 32), (9, 3, 0, 0)), ((9, 51), (9, 6, 0, 2)), ((9, 72), (9, 5, 0, 0)), ((10, 9), (10, 0, 1, 3)), ((10, 21), (10, 1, 0, 0)), ((10, 25), (10, 2, 0, 0)), ((10, 28), (10, 3, 0, 0)), ((10, 31), (10, 4, 0, 0)), ((10, 34), (10, 5, 0, 0)), ((10, 37), (6, 2, 0, 0)), ((10, 40), (10, 6, 0, 0)), ((10, 62), (5, 5, 2, 3)), ((10, 66), (4, 6, 0, 1)), ((11, 10), (11, 0, 1, 3)), ((11, 19), (11, 1, 1, 3)), ((11, 23), (11, 2, 1, 3)), ((11, 31), (11, 3, 1, 3)), ((11, 38), (11, 4, 1, 3)), ((11, 42), (11, 5, 1, 3)), ((11, 46), (11, 6, 1, 3)), ((11, 53), (11, 7, 1, 3)), ((11, 62), (11, 8, 1, 3)), ((11, 71), (11, 9, 1, 3)), ((11, 80), (11, 10, 1, 3)), ((11, 87), (11, 11, 1, 3)), ((11, 96), (11, 12, 1, 3)), ((11, 108), (9, 1, 0, 0)), ((11, 132), (5, 6, 0, 0)), ((11, 135), (8, 7, 0, 0)), ((11, 138), (8, 8, 0, 0)), ((11, 151), (6, 1, 0, 0)), ((11, 183), (6, 3, 0, 0)), ((11, 186), (5, 8, 0, 0)), ((11, 221), (6, 2, 0, 0)), ((11, 224), (5, 7, 0, 0)), ((11, 230), (10, 1, 0, 0)), ((11, 319), (11, 13, 0, 0)), ((11, 359), (7, 9, 0, 0)), ((11, 362), (5, 5, 2, 3)), ((11, 366), (4, 5, 0, 0)), ((11, 371), (3, 5, 0, 0)), ((12, 7), (12, 0, 1, 3)), ((12, 13), (12, 1, 1, 3)), ((12, 16), (12, 5, 0, 0)), ((12, 20), (12, 11, 1, 3)), ((12, 24), (12, 12, 1, 3)), ((12, 27), (12, 13, 1, 3)), ((12, 30), (12, 14, 1, 3)), ((12, 33), (12, 15, 1, 3)), ((12, 36), (12, 16, 1, 3)), ((12, 39), (12, 17, 1, 3)), ((12, 42), (12, 18, 1, 3)), ((12, 45), (12, 19, 1, 3)), ((12, 48), (12, 20, 1, 3)), ((12, 51), (12, 21, 1, 3)), ((12, 54), (12, 22, 1, 3)), ((12, 57), (12, 23, 1, 3)), ((12, 61), (12, 24, 1, 3)), ((12, 64), (12, 25, 1, 3)), ((12, 67), (12, 26, 1, 3)), ((12, 71), (12, 27, 1, 3)), ((12, 74), (12, 28, 1, 3)), ((12, 77), (12, 29, 1, 3)), ((12, 80), (12, 30, 1, 3)), ((12, 83), (12, 31, 1, 3)), ((12, 86), (12, 32, 1, 3)), ((12, 89), (12, 45, 1, 3)), ((12, 92), (12, 46, 1, 3)), ((12, 95), (12, 49, 1, 3)), ((12, 98), (12, 50, 1, 3)), ((12, 101), (12, 51, 1, 3)), ((12, 104), (12, 52, 1, 3)), ((12, 107), (12, 55, 1, 3)), ((12, 110), (12, 56, 1, 3)), ((12, 113), (12, 57, 1, 3)), ((12, 116), (12, 58, 1, 3)), ((12, 119), (12, 59, 1, 3)), ((12, 122), (12, 60, 1, 3)), ((12, 125), (12, 64, 1, 3)), ((12, 128), (12, 65, 1, 3)), ((12, 137), (12, 3, 0, 0)), ((12, 140), (12, 4, 0, 0)), ((12, 179), (12, 7, 0, 0)), ((12, 182), (12, 6, 0, 0)), ((12, 189), (12, 8, 0, 0)), ((12, 196), (12, 10, 0, 2)), ((12, 207), (12, 9, 0, 0)), ((12, 242), (12, 34, 0, 0)), ((12, 245), (12, 35, 0, 0)), ((12, 248), (12, 2, 0, 0)), ((12, 251), (12, 33, 0, 0)), ((12, 285), (12, 38, 0, 0)), ((12, 291), (12, 37, 0, 0)), ((12, 294), (12, 36, 0, 0)), ((12, 319), (12, 39, 0, 0)), ((12, 322), (12, 41, 0, 0)), ((12, 325), (12, 40, 0, 0)), ((12, 331), (12, 42, 0, 0)), ((12, 334), (12, 43, 0, 0)), ((12, 337), (12, 44, 0, 0)), ((12, 365), (12, 47, 0, 0)), ((12, 368), (12, 48, 0, 0)), ((12, 371), (12, 61, 0, 0)), ((12, 374), (12, 53, 0, 0)), ((12, 507), (12, 54, 0, 0)), ((12, 522), (12, 62, 0, 0)), ((12, 526), (12, 63, 0, 0))]
def tC : List ((Nat × Nat) × Nat) := [((0, 9), 6), ((3, 28), 10), ((5, 27), 4), ((7, 28), 19), ((11, 7), 9), ((11, 16), 5), ((11, 26), 8), ((11, 35), 6), ((11, 50), 0), ((11, 57), 10), ((11, 66), 1), ((11, 75), 2), ((11, 84), 3), ((11, 91), 7), ((13, 7), 11), ((13, 10), 12)]
def tK : List ((Nat × Nat) × Nat) := [((11, 329), 100000), ((12, 525), 100000), ((15, 265), 1431655765), ((15, 266), 858993459), ((15, 267), 252645135), ((102, 102), 100), ((109, 55), 32), ((112, 143), 120282394289522), ((112, 145), 108243466679400), ((112, 147), 461262647411), ((112, 149), 1651076204), ((112, 151), 474147546227), ((112, 153), 478627065459), ((112, 155), 495672716390), ((112, 157), 1717658725), ((112, 159), 2036430702), ((112, 161), 1685217655), ((112, 163), 130220933082469), ((112, 165), 6383461), ((112, 167), 1819243379), ((112, 169), 126892148221294), ((112, 171), 6578553), ((112, 173), 28530), ((112, 175), 6385252), ((112, 177), 7237492), ((116, 314), 6148914691236517205), ((116, 316), 3689348814741910323), ((116, 318), 1085102592571150095)]
def tA : List ((Nat × Nat) × (Nat × Nat × Nat × Nat)) := [((0, 3), (4, 0, 0, 0)), ((0, 15), (3, 319, 0, 6)), ((0, 26), (0, 14, 1, 0)), ((0, 30), (0, 13, 1, 6)), ((0, 34), (1, 15, 2, 14)), ((1, 3), (4, 0, 0, 0)), ((1, 23), (0, 86, 1, 5)), ((1, 31), (0, 7, 2, 6)), ((1, 35), (0, 56, 1, 5)), ((1, 38), (0, 161, 1, 1)), ((1, 46), (0, 93, 1, 1)), ((1, 52), (0, 106, 1, 6)), ((1, 58), (0, 225, 2, 1)), ((1, 62), (0, 89, 1, 5)), ((1, 68), (0, 90, 2, 10)), ((1, 74), (0, 43, 0, 10)), ((1, 78), (0, 42, 1, 10)), ((1, 82), (0, 49, 1, 10)), ((1, 85), (0, 88, 1, 1)), ((1, 94), (0, 104, 2, 10)), ((1, 97), (0, 92, 3, 1)), ((1, 101), (0, 85, 1, 5)), ((1, 104), (0, 91, 1, 1)), ((1, 107), (1, 159, 1, 15)), ((1, 115), (0, 144, 1, 5)), ((1, 118), (0, 87, 2, 1)), ((1, 121), (0, 105, 2, 1)), ((1, 124), (0, 103, 2, 1)), ((1, 127), (0, 51, 3, 10)), ((2, 3), (4, 0, 0, 0)), ((2, 34), (1, 155, 2, 2)), ((2, 38), (0, 56, 1, 5)), ((2, 44), (0, 93, 1, 1)), ((2, 53), (1, 178, 1, 2)), ((2, 57), (0, 179, 2, 2)), ((2, 61), (1, 159, 1, 15)), ((2, 69), (0, 7, 2, 6)), ((2, 76), (0, 51, 3, 10)), ((2, 82), (0, 49, 1, 10)), ((2, 86), (0, 88, 1, 1)), ((2, 89), (0, 42, 1, 10)), ((2, 95), (0, 85, 1, 5)), ((2, 98), (0, 160, 3, 2)), ((2, 104), (1, 158, 2, 2)), ((2, 108), (0, 92, 3, 1)), ((2, 112), (0, 157, 2, 2)), ((2, 116), (0, 86, 1, 5)), ((2, 119), (0, 144, 1, 5)), ((2, 122), (0, 161, 1, 1)), ((3, 3), (4, 0, 0, 0)), ((3, 53), (2, 315, 1, 10)), ((3, 60), (5, 0, 0, 0)), ((3, 66), (1, 124, 2, 17)), ((3, 75), (0, 187, 1, 3)), ((3, 79), (0, 161, 1, 1)), ((3, 88), (0, 185, 2, 3)), ((3, 92), (0, 93, 1, 1)), ((3, 96), (0, 92, 3, 1)), ((3, 100), (0, 85, 1, 5)), ((3, 111), (0, 186, 1, 3)), ((3, 115), (0, 123, 0, 3)), ((3, 119), (0, 122, 1, 3)), ((3, 122), (0, 126, 0, 3)), ((3, 125), (0, 90, 2, 10)), ((3, 129), (0, 89, 1, 5)), ((3, 134), (0, 7, 2, 6)), ((3, 138), (0, 136, 3, 3)), ((3, 142), (0, 138, 2, 3)), ((3, 145), (0, 137, 1, 10)), ((3, 152), (0, 49, 1, 10)), ((3, 155), (0, 42, 1, 10)), ((3, 161), (0, 125, 2, 3)), ((3, 164), (0, 121, 2, 3)), ((3, 167), (0, 106, 1, 6)), ((4, 1), (4, 0, 0, 0)), ((4, 33), (5, 0, 0, 0)), ((4, 41), (1, 46, 3, 4)), ((5, 3), (4, 0, 0, 0)), ((5, 29), (3, 322, 0, 4)), ((5, 34), (0, 304, 0, 4)), ((5, 50), (5, 0, 0, 0)), ((5, 56), (0, 275, 1, 4)), ((5, 60), (1, 48, 2, 5)), ((5, 64), (0, 86, 1, 5)), ((6, 5), (4, 0, 0, 0)), ((6, 15), (1, 8, 2, 6)), ((6, 19), (0, 7, 2, 6)), ((6, 23), (0, 214, 3, 6)), ((6, 27), (1, 124, 2, 17)), ((6, 33), (0, 273, 1, 5)), ((6, 52), (5, 0, 0, 0)), ((7, 3), (4, 0, 0, 0)), ((7, 49), (0, 41, 0, 7)), ((7, 57), (0, 40, 2, 7)), ((7, 61), (0, 51, 3, 10)), ((7, 67), (0, 49, 1, 10)), ((7, 74), (0, 42, 1, 10)), ((7, 77), (0, 39, 1, 7)), ((7, 81), (0, 56, 1, 5)), ((7, 85), (1, 38, 2, 7)), ((7, 89), (1, 37, 1, 16)), ((7, 95), (1, 36, 2, 14)), ((8, 3), (4, 0, 0, 0)), ((8, 30), (0, 303, 0, 5)), ((8, 45), (0, 302, 0, 9)), ((8, 53), (0, 301, 0, 8)), ((8, 57), (0, 299, 0, 8)), ((8, 60), (0, 290, 0, 8)), ((8, 63), (0, 289, 0, 8)), ((8, 66), (0, 287, 0, 8)), ((8, 69), (0, 286, 1, 8)), ((8, 73), (0, 277, 1, 8)), ((8, 82), (0, 278, 0, 9)), ((8, 85), (0, 300, 2, 8)), ((8, 89), (0, 288, 3, 8)), ((8, 124), (0, 291, 1, 8)), ((8, 140), (0, 293, 2, 4)), ((8, 144), (0, 294, 1, 8)), ((8, 147), (0, 292, 1, 8)), ((8, 150), (0, 295, 1, 8)), ((8, 153), (0, 296, 1, 8)), ((8, 156), (0, 297, 1, 8)), ((8, 159), (0, 298, 1, 8)), ((9, 5), (4, 0, 0, 0)), ((9, 22), (0, 278, 0, 9)), ((9, 25), (0, 282, 1, 9)), ((9, 35), (1, 281, 1, 9)), ((9, 39), (0, 284, 0, 9)), ((9, 42), (1, 283, 1, 9)), ((9, 45), (0, 280, 0, 9)), ((9, 48), (1, 279, 1, 9)), ((9, 57), (1, 285, 1, 9)), ((10, 3), (4, 0, 0, 0)), ((10, 17), (0, 7, 2, 6)), ((10, 41), (0, 214, 3, 6)), ((10, 45), (0, 50, 1, 5)), ((10, 51), (1, 44, 2, 14)), ((10, 56), (1, 36, 2, 14)), ((10, 59), (0, 47, 1, 5)), ((10, 72), (0, 45, 6, 4)), ((10, 76), (0, 43, 0, 10)), ((11, 1), (4, 0, 0, 0)), ((11, 9), (3, 323, 0, 9)), ((11, 18), (3, 321, 0, 5)), ((11, 28), (2, 320, 2, 8)), ((11, 37), (3, 319, 0, 6)), ((11, 52), (2, 318, 0, 0)), ((11, 59), (2, 315, 1, 10)), ((11, 68), (2, 317, 3, 1)), ((11, 77), (2, 316, 4, 2)), ((11, 86), (2, 314, 4, 3)), ((11, 93), (2, 313, 2, 7)), ((11, 100), (0, 310, 1, 9)), ((11, 104), (0, 309, 1, 9)), ((11, 112), (0, 276, 0, 8)), ((11, 116), (0, 274, 1, 5)), ((11, 119), (0, 272, 1, 6)), ((11, 122), (0, 12, 1, 0)), ((11, 126), (0, 271, 0, 7)), ((11, 129), (0, 126, 0, 3)), ((11, 141), (0, 56, 1, 5)), ((11, 144), (0, 50, 1, 5)), ((11, 148), (0, 47, 1, 5)), ((11, 154), (0, 235, 1, 1)), ((11, 157), (0, 234, 1, 1)), ((11, 160), (0, 86, 1, 5)), ((11, 163), (0, 7, 2, 6)), ((11, 167), (0, 85, 1, 5)), ((11, 170), (0, 89, 1, 5)), ((11, 173), (0, 229, 1, 1)), ((11, 176), (0, 91, 1, 1)), ((11, 179), (0, 225, 2, 1)), ((11, 189), (0, 90, 2, 10)), ((11, 193), (0, 49, 1, 10)), ((11, 196), (0, 215, 2, 10)), ((11, 199), (0, 213, 1, 0)), ((11, 202), (0, 93, 1, 1)), ((11, 205), (0, 106, 1, 6)), ((11, 208), (0, 214, 3, 6)), ((11, 212), (0, 105, 2, 1)), ((11, 215), (0, 104, 2, 10)), ((11, 218), (0, 218, 1, 6)), ((11, 227), (0, 42, 1, 10)), ((11, 233), (0, 209, 1, 0)), ((11, 237), (0, 206, 1, 0)), ((11, 240), (0, 202, 2, 1)), ((11, 243), (0, 199, 1, 1)), ((11, 246), (0, 196, 0, 1)), ((11, 250), (0, 193, 1, 1)), ((11, 253), (1, 159, 1, 15)), ((11, 258), (0, 190, 2, 1)), ((11, 261), (0, 184, 0, 3)), ((11, 264), (0, 177, 2, 2)), ((11, 267), (0, 154, 1, 2)), ((11, 270), (0, 172, 1, 1)), ((11, 273), (0, 103, 2, 1)), ((11, 276), (0, 167, 1, 1)), ((11, 279), (0, 164, 2, 2)), ((11, 282), (0, 156, 2, 2)), ((11, 285), (0, 143, 2, 1)), ((11, 288), (0, 92, 3, 1)), ((11, 292), (0, 135, 1, 3)), ((11, 295), (0, 129, 1, 1)), ((11, 298), (0, 120, 1, 3)), ((11, 301), (0, 112, 0, 1)), ((11, 304), (0, 109, 0, 1)), ((11, 307), (0, 102, 0, 1)), ((11, 310), (0, 84, 0, 1)), ((11, 313), (0, 72, 1, 1)), ((11, 316), (0, 69, 1, 3)), ((11, 322), (0, 66, 4, 7)), ((11, 326), (0, 63, 2, 7)), ((11, 330), (0, 39, 1, 7)), ((11, 334), (1, 37, 1, 16)), ((11, 339), (0, 55, 2, 7)), ((11, 342), (0, 35, 2, 7)), ((11, 345), (0, 16, 1, 11)), ((11, 348), (0, 13, 1, 6)), ((11, 350), (0, 6, 1, 1)), ((11, 353), (0, 5, 0, 0)), ((11, 356), (0, 4, 0, 0)), ((12, 1), (4, 0, 0, 0)), ((12, 131), (0, 269, 0, 12)), ((12, 134), (0, 239, 0, 12)), ((12, 185), (0, 247, 1, 12)), ((12, 192), (1, 31, 1, 12)), ((12, 200), (1, 249, 1, 12)), ((12, 204), (1, 248, 1, 12)), ((12, 210), (1, 246, 1, 12)), ((12, 213), (0, 244, 2, 12)), ((12, 217), (0, 240, 0, 12)), ((12, 221), (0, 245, 0, 12)), ((12, 224), (0, 243, 0, 12)), ((12, 227), (0, 259, 1, 12)), ((12, 230), (0, 242, 1, 12)), ((12, 234), (0, 251, 2, 12)), ((12, 238), (0, 264, 3, 12)), ((12, 254), (0, 241, 0, 12)), ((12, 257), (0, 268, 0, 12)), ((12, 260), (0, 267, 0, 12)), ((12, 263), (0, 262, 0, 12)), ((12, 266), (0, 252, 1, 12)), ((12, 270), (0, 250, 1, 12)), ((12, 273), (0, 266, 3, 12)), ((12, 277), (0, 265, 1, 12)), ((12, 281), (0, 263, 2, 12)), ((12, 288), (0, 253, 0, 12)), ((12, 297), (0, 255, 2, 12)), ((12, 300), (0, 260, 0, 12)), ((12, 303), (0, 254, 0, 12)), ((12, 306), (0, 261, 0, 12)), ((12, 310), (0, 256, 2, 12)), ((12, 313), (0, 258, 0, 12)), ((12, 316), (0, 257, 0, 12)), ((12, 328), (0, 25, 1, 12)), ((12, 340), (0, 30, 2, 12)), ((12, 343), (1, 29, 3, 12)), ((12, 347), (0, 2, 0, 12)), ((12, 350), (1, 10, 3, 12)), ((12, 354), (0, 82, 1, 12)), ((12, 357), (1, 27, 2, 12)), ((12, 361), (0, 26, 2, 12)), ((12, 377), (1, 24, 2, 12)), ((12, 380), (0, 28, 0, 12)), ((12, 383), (0, 23, 0, 12)), ((12, 386), (0, 77, 1, 12)), ((12, 389), (0, 22, 1, 12)), ((12, 392), (0, 78, 1, 12)), ((12, 395), (0, 76, 1, 12)), ((12, 398), (0, 81, 1, 12)), ((12, 401), (0, 80, 1, 12)), ((12, 404), (0, 74, 1, 12)), ((12, 407), (0, 32, 1, 12)), ((12, 410), (0, 53, 1, 12)), ((12, 413), (0, 152, 2, 12)), ((12, 416), (0, 232, 1, 12)), ((12, 419), (0, 231, 1, 12)), ((12, 422), (0, 227, 1, 12)), ((12, 425), (0, 79, 1, 12)), ((12, 428), (0, 211, 0, 12)), ((12, 431), (0, 100, 1, 12)), ((12, 434), (0, 117, 1, 12)), ((12, 437), (0, 99, 2, 12)), ((12, 440), (0, 97, 2, 12)), ((12, 443), (0, 116, 0, 12)), ((12, 446), (0, 204, 0, 12)), ((12, 449), (1, 133, 1, 12)), ((12, 452), (0, 150, 2, 12)), ((12, 455), (0, 140, 3, 12)), ((12, 458), (0, 141, 1, 12)), ((12, 461), (0, 75, 2, 12)), ((12, 464), (0, 98, 0, 12)), ((12, 467), (0, 96, 0, 12)), ((12, 470), (0, 95, 2, 12)), ((12, 473), (0, 33, 1, 12)), ((12, 476), (1, 118, 2, 12)), ((12, 479), (0, 182, 1, 12)), ((12, 482), (0, 181, 0, 12)), ((12, 485), (0, 175, 2, 12)), ((12, 488), (1, 174, 1, 12)), ((12, 491), (1, 147, 2, 12)), ((12, 494), (0, 149, 2, 12)), ((12, 497), (0, 151, 3, 12)), ((12, 500), (0, 148, 3, 12)), ((12, 504), (0, 146, 3, 12)), ((12, 510), (0, 132, 2, 12)), ((12, 513), (0, 131, 1, 12)), ((12, 516), (0, 115, 2, 12)), ((12, 519), (0, 114, 0, 12)), ((12, 529), (0, 21, 2, 12)), ((12, 532), (0, 20, 1, 12)), ((12, 535), (0, 1, 1, 12)), ((13, 9), (2, 312, 0, 11)), ((13, 12), (2, 311, 0, 12)), ((13, 13), (0, 308, 5, 11)), ((13, 17), (0, 307, 5, 12)), ((13, 18), (0, 306, 1, 11)), ((13, 22), (0, 305, 1, 12)), ((13, 23), (0, 270, 0, 11)), ((13, 27), (0, 238, 0, 12)), ((13, 28), (0, 237, 1, 11)), ((13, 31), (0, 236, 1, 12)), ((13, 32), (0, 233, 2, 11)), ((13, 36), (0, 230, 2, 12)), ((13, 37), (0, 228, 2, 11)), ((13, 40), (0, 226, 2, 12)), ((13, 41), (0, 224, 2, 11)), ((13, 44), (0, 223, 2, 12)), ((13, 45), (0, 222, 1, 11)), ((13, 48), (0, 221, 1, 12)), ((13, 49), (0, 220, 2, 11)), ((13, 52), (0, 219, 2, 12)), ((13, 53), (0, 217, 2, 11)), ((13, 56), (0, 216, 2, 12)), ((13, 57), (0, 212, 0, 11)), ((13, 60), (0, 210, 0, 12)), ((13, 61), (0, 208, 0, 11)), ((13, 65), (0, 207, 0, 12)), ((13, 66), (0, 205, 0, 11)), ((13, 69), (0, 203, 0, 12)), ((13, 70), (0, 201, 2, 11)), ((13, 73), (0, 200, 2, 12)), ((13, 74), (0, 198, 1, 11)), ((13, 77), (0, 197, 1, 12)), ((13, 78), (0, 195, 0, 11)), ((13, 81), (0, 194, 0, 12)), ((13, 82), (0, 192, 2, 11)), ((13, 85), (0, 191, 2, 12)), ((13, 86), (0, 189, 2, 11)), ((13, 89), (0, 188, 2, 12)), ((13, 90), (0, 183, 0, 11)), ((13, 93), (0, 180, 0, 12)), ((13, 94), (0, 176, 3, 11)), ((13, 98), (0, 173, 3, 12)), ((13, 99), (0, 171, 1, 11)), ((13, 102), (0, 170, 1, 12)), ((13, 103), (0, 169, 2, 11)), ((13, 106), (0, 168, 2, 12)), ((13, 107), (0, 166, 1, 11)), ((13, 110), (0, 165, 1, 12)), ((13, 111), (0, 163, 3, 11)), ((13, 114), (0, 162, 3, 12)), ((13, 115), (0, 153, 3, 11)), ((13, 118), (0, 145, 3, 12)), ((13, 119), (0, 142, 3, 11)), ((13, 122), (0, 139, 3, 12)), ((13, 123), (0, 134, 1, 11)), ((13, 126), (0, 130, 1, 12)), ((13, 127), (0, 128, 1, 11)), ((13, 130), (0, 127, 1, 12)), ((13, 131), (0, 119, 1, 11)), ((13, 134), (0, 113, 1, 12)), ((13, 135), (0, 111, 0, 11)), ((13, 138), (0, 110, 0, 12)), ((13, 139), (0, 108, 0, 11)), ((13, 142), (0, 107, 0, 12)), ((13, 143), (0, 101, 0, 11)), ((13, 146), (0, 94, 0, 12)), ((13, 147), (0, 83, 0, 11)), ((13, 150), (0, 73, 0, 12)), ((13, 151), (0, 71, 1, 11)), ((13, 154), (0, 70, 1, 12)), ((13, 155), (0, 68, 1, 11)), ((13, 158), (0, 67, 1, 12)), ((13, 159), (0, 65, 3, 11)), ((13, 163), (0, 64, 3, 12)), ((13, 164), (0, 62, 1, 11)), ((13, 168), (0, 61, 1, 12)), ((13, 169), (0, 60, 1, 11)), ((13, 172), (0, 59, 1, 12)), ((13, 173), (0, 58, 1, 11)), ((13, 176), (0, 57, 1, 12)), ((13, 177), (0, 54, 2, 11)), ((13, 180), (0, 52, 2, 12)), ((13, 181), (0, 34, 2, 11)), ((13, 184), (0, 19, 2, 12)), ((13, 185), (0, 18, 1, 11)), ((13, 188), (0, 17, 1, 12)), ((13, 189), (0, 11, 1, 11)), ((13, 192), (0, 9, 1, 12)), ((13, 193), (0, 3, 1, 11)), ((13, 196), (0, 0, 1, 12))]
def tT : rT := (tF, tC, tK, tA)
end
section
def i_X12_about : Nat → Option (Instr × Nat) := (nT 118 (.ireturn, 1) (nT 94 (.ireturn, 1) (nT 81 (.aload_n 0, 1) (nT 73 (.invokevirtual 347, 3) (nT 1 (.tableswitch 164 0 13 #[71, 76, 86, 94, 102, 112, 118, 124, 129, 134, 139, 144, 149, 159], 71) (nT 0 (.iload_n 1, 1) nE nE) (nT 72 (.aload_n 0, 1) nE nE)) (nT 77 (.aload_n 0, 1) (nT 76 (.ireturn, 1) nE nE) (nT 78 (.getfield 24, 3) nE nE))) (nT 87 (.aload_n 0, 1) (nT 85 (.iaload, 1) (nT 82 (.getfield 251, 3) nE nE) (nT 86 (.ireturn, 1) nE nE)) (nT 91 (.bipush 31, 2) (nT 88 (.getfield 89, 3) nE nE) (nT 93 (.iaload, 1) nE nE)))) (nT 107 (.aload_n 0, 1) (nT 101 (.iaload, 1) (nT 96 (.getfield 89, 3) (nT 95 (.aload_n 0, 1) nE nE) (nT 99 (.bipush 32, 2) nE nE)) (nT 103 (.aload_n 0, 1) (nT 102 (.ireturn, 1) nE nE) (nT 104 (.getfield 30, 3) nE nE))) (nT 113 (.aload_n 0, 1) (nT 111 (.iaload, 1) (nT 108 (.getfield 251, 3) nE nE) (nT 112 (.ireturn, 1) nE nE)) (nT 115 (.invokevirtual 535, 3) (nT 114 (.iconst 1, 1) nE nE) nE)))) (nT 144 (.ireturn, 1) (nT 130 (.aload_n 0, 1) (nT 124 (.ireturn, 1) (nT 120 (.iconst 2, 1) (nT 119 (.aload_n 0, 1) nE nE) (nT 121 (.invokevirtual 535, 3) nE nE)) (nT 126 (.getfield 365, 3) (nT 125 (.aload_n 0, 1) nE nE) (nT 129 (.ireturn, 1) nE nE))) (nT 136 (.getfield 371, 3) (nT 134 (.ireturn, 1) (nT 131 (.getfield 368, 3) nE nE) (nT 135 (.aload_n 0, 1) nE nE)) (nT 140 (.aload_n 0, 1) (nT 139 (.ireturn, 1) nE nE) (nT 141 (.getfield 522, 3) nE nE)))) (nT 158 (.iaload, 1) (nT 150 (.aload_n 0, 1) (nT 146 (.getfield 248, 3) (nT 145 (.aload_n 0, 1) nE nE) (nT 149 (.ireturn, 1) nE nE)) (nT 154 (.aload_n 0, 1) (nT 151 (.getfield 27, 3) nE nE) (nT 155 (.getfield 251, 3) nE nE))) (nT 164 (.ireturn, 1) (nT 160 (.aload_n 0, 1) (nT 159 (.ireturn, 1) nE nE) (nT 161 (.getfield 374, 3) nE nE)) (nT 166 (.ireturn, 1) (nT 165 (.iconst (-1), 1) nE nE) nE)))))
def i_X12_thoseThat : Nat → Option (Instr × Nat) := (nT 23 (.iload_n 3, 1) (nT 9 (.aload_n 0, 1) (nT 3 (.istore_n 3, 1) (nT 1 (.istore_n 2, 1) (nT 0 (.iconst 0, 1) nE nE) (nT 2 (.iconst 0, 1) nE nE)) (nT 5 (.aload_n 0, 1) (nT 4 (.iload_n 3, 1) nE nE) (nT 6 (.getfield 24, 3) nE nE))) (nT 17 (.aload_n 0, 1) (nT 13 (.iaload, 1) (nT 10 (.getfield 251, 3) nE nE) (nT 14 (.if_icmp .ge 28, 3) nE nE)) (nT 21 (.bipush 25, 2) (nT 18 (.getfield 89, 3) nE nE) nE))) (nT 33 (.ishl, 1) (nT 27 (.if_icmp .ne 9, 3) (nT 25 (.iaload, 1) (nT 24 (.iadd, 1) nE nE) (nT 26 (.iload_n 1, 1) nE nE)) (nT 31 (.iconst 1, 1) (nT 30 (.iload_n 2, 1) nE nE) (nT 32 (.iload_n 3, 1) nE nE))) (nT 39 (.goto (-35), 3) (nT 35 (.istore_n 2, 1) (nT 34 (.ior, 1) nE nE) (nT 36 (.iinc 3 1, 3) nE nE)) (nT 43 (.ireturn, 1) (nT 42 (.iload_n 2, 1) nE nE) nE))))
def i_X12_many : Nat → Option (Instr × Nat) := (nT 5 (.getfield 251, 3) (nT 1 (.getfield 20, 3) (nT 0 (.aload_n 0, 1) nE nE) (nT 4 (.aload_n 0, 1) nE nE)) (nT 9 (.ireturn, 1) (nT 8 (.iaload, 1) nE nE) nE))
def i_X11_about : Nat → Option (Instr × Nat) := (nT 129 (.ireturn, 1) (nT 97 (.getfield 38, 3) (nT 81 (.getfield 19, 3) (nT 73 (.getfield 19, 3) (nT 1 (.tableswitch 185 0 13 #[71, 79, 87, 95, 103, 111, 120, 129, 137, 145, 153, 158, 166, 177], 71) (nT 0 (.iload_n 1, 1) nE nE) (nT 72 (.aload_n 0, 1) nE nE)) (nT 79 (.ireturn, 1) (nT 76 (.getfield 132, 3) nE nE) (nT 80 (.aload_n 0, 1) nE nE))) (nT 89 (.getfield 38, 3) (nT 87 (.ireturn, 1) (nT 84 (.getfield 224, 3) nE nE) (nT 88 (.aload_n 0, 1) nE nE)) (nT 95 (.ireturn, 1) (nT 92 (.getfield 221, 3) nE nE) (nT 96 (.aload_n 0, 1) nE nE)))) (nT 113 (.getfield 71, 3) (nT 105 (.getfield 19, 3) (nT 103 (.ireturn, 1) (nT 100 (.getfield 183, 3) nE nE) (nT 104 (.aload_n 0, 1) nE nE)) (nT 111 (.ireturn, 1) (nT 108 (.getfield 186, 3) nE nE) (nT 112 (.aload_n 0, 1) nE nE))) (nT 121 (.aload_n 0, 1) (nT 117 (.invokevirtual 350, 3) (nT 116 (.iconst 1, 1) nE nE) (nT 120 (.ireturn, 1) nE nE)) (nT 125 (.iconst 2, 1) (nT 122 (.getfield 71, 3) nE nE) (nT 126 (.invokevirtual 350, 3) nE nE))))) (nT 159 (.aload_n 0, 1) (nT 145 (.ireturn, 1) (nT 137 (.ireturn, 1) (nT 131 (.getfield 53, 3) (nT 130 (.aload_n 0, 1) nE nE) (nT 134 (.invokevirtual 353, 3) nE nE)) (nT 139 (.getfield 53, 3) (nT 138 (.aload_n 0, 1) nE nE) (nT 142 (.invokevirtual 356, 3) nE nE))) (nT 153 (.ireturn, 1) (nT 147 (.getfield 96, 3) (nT 146 (.aload_n 0, 1) nE nE) (nT 150 (.getfield 359, 3) nE nE)) (nT 155 (.getfield 319, 3) (nT 154 (.aload_n 0, 1) nE nE) (nT 158 (.ireturn, 1) nE nE)))) (nT 177 (.ireturn, 1) (nT 167 (.aload_n 0, 1) (nT 163 (.getfield 108, 3) (nT 160 (.getfield 10, 3) nE nE) (nT 166 (.ireturn, 1) nE nE)) (nT 171 (.getfield 362, 3) (nT 168 (.getfield 19, 3) nE nE) (nT 174 (.getfield 366, 3) nE nE))) (nT 185 (.ireturn, 1) (nT 179 (.getfield 87, 3) (nT 178 (.aload_n 0, 1) nE nE) (nT 182 (.getfield 371, 3) nE nE)) (nT 187 (.ireturn, 1) (nT 186 (.iconst (-1), 1) nE nE) nE)))))
def i_X0_redoable : Nat → Option (Instr × Nat) := (nT 5 (.getfield 20, 3) (nT 1 (.getfield 23, 3) (nT 0 (.aload_n 0, 1) nE nE) (nT 4 (.aload_n 0, 1) nE nE)) (nT 9 (.ireturn, 1) (nT 8 (.isub, 1) nE nE) nE))
def i_X0_undoable : Nat → Option (Instr × Nat) := (nT 1 (.getfield 20, 3) (nT 0 (.aload_n 0, 1) nE nE) (nT 4 (.ireturn, 1) nE nE))
def i_X1_billsOfFate : Nat → Option (Instr × Nat) := (nT 22 (.invokevirtual 31, 3) (nT 9 (.getfield 55, 3) (nT 3 (.istore_n 3, 1) (nT 1 (.istore_n 2, 1) (nT 0 (.iconst 0, 1) nE nE) (nT 2 (.iconst 0, 1) nE nE)) (nT 5 (.aload_n 0, 1) (nT 4 (.iload_n 3, 1) nE nE) (nT 6 (.getfield 9, 3) nE nE))) (nT 17 (.getfield 15, 3) (nT 15 (.iload_n 2, 1) (nT 12 (.if_icmp .ge 32, 3) nE nE) (nT 16 (.aload_n 0, 1) nE nE)) (nT 21 (.iconst 5, 1) (nT 20 (.iload_n 3, 1) nE nE) nE))) (nT 35 (.iconst 0, 1) (nT 30 (.iload_n 3, 1) (nT 26 (.if_icmp .ne 9, 3) (nT 25 (.iload_n 1, 1) nE nE) (nT 29 (.iconst 1, 1) nE nE)) (nT 32 (.goto 4, 3) (nT 31 (.ishl, 1) nE nE) nE)) (nT 41 (.goto (-37), 3) (nT 37 (.istore_n 2, 1) (nT 36 (.ior, 1) nE nE) (nT 38 (.iinc 3 1, 3) nE nE)) (nT 45 (.ireturn, 1) (nT 44 (.iload_n 2, 1) nE nE) nE))))
def i_X6_get : Nat → Option (Instr × Nat) := (nT 13 (.bipush 6, 2) (nT 5 (.ifCond .eq 17, 3) (nT 1 (.iload_n 2, 1) (nT 0 (.iload_n 1, 1) nE nE) (nT 2 (.invokestatic 15, 3) nE nE)) (nT 9 (.getfield 11, 3) (nT 8 (.aload_n 0, 1) nE nE) (nT 12 (.iload_n 1, 1) nE nE))) (nT 18 (.iaload, 1) (nT 16 (.iload_n 2, 1) (nT 15 (.imul, 1) nE nE) (nT 17 (.iadd, 1) nE nE)) (nT 22 (.iconst 0, 1) (nT 19 (.goto 4, 3) nE nE) (nT 23 (.ireturn, 1) nE nE))))
def i_X6_hasCell : Nat → Option (Instr × Nat) := (nT 13 (.iload_n 1, 1) (nT 5 (.iconst 5, 1) (nT 1 (.ifCond .lt 22, 3) (nT 0 (.iload_n 0, 1) nE nE) (nT 4 (.iload_n 0, 1) nE nE)) (nT 9 (.iload_n 1, 1) (nT 6 (.if_icmp .ge 17, 3) nE nE) (nT 10 (.ifCond .lt 13, 3) nE nE))) (nT 20 (.goto 4, 3) (nT 16 (.if_icmp .ge 7, 3) (nT 14 (.bipush 6, 2) nE nE) (nT 19 (.iconst 1, 1) nE nE)) (nT 24 (.ireturn, 1) (nT 23 (.iconst 0, 1) nE nE) nE)))
def i_X12_back : Nat → Option (Instr × Nat) := (nT 34 (.getfield 125, 3) (nT 18 (.iconst (-1), 1) (nT 9 (.aload_n 0, 1) (nT 2 (.iconst 2, 1) (nT 1 (.iconst 0, 1) (nT 0 (.iload_n 1, 1) nE nE) nE) (nT 6 (.ifCond .eq 12, 3) (nT 3 (.invokestatic 350, 3) nE nE) nE)) (nT 14 (.baload, 1) (nT 13 (.iload_n 1, 1) (nT 10 (.getfield 128, 3) nE nE) nE) (nT 15 (.ifCond .ne 5, 3) nE nE))) (nT 25 (.if_icmp .ge 26, 3) (nT 21 (.istore_n 2, 1) (nT 20 (.iconst 0, 1) (nT 19 (.ireturn, 1) nE nE) nE) (nT 23 (.bipush 33, 2) (nT 22 (.iload_n 2, 1) nE nE) nE)) (nT 32 (.iload_n 2, 1) (nT 29 (.getfield 89, 3) (nT 28 (.aload_n 0, 1) nE nE) nE) (nT 33 (.aload_n 0, 1) nE nE)))) (nT 52 (.iconst 0, 1) (nT 43 (.iaload, 1) (nT 40 (.imul, 1) (nT 39 (.iload_n 1, 1) (nT 37 (.bipush 33, 2) nE nE) nE) (nT 42 (.iadd, 1) (nT 41 (.iload_n 2, 1) nE nE) nE)) (nT 48 (.goto (-26), 3) (nT 45 (.iinc 2 1, 3) (nT 44 (.iastore, 1) nE nE) nE) (nT 51 (.aload_n 0, 1) nE nE))) (nT 61 (.aload_n 0, 1) (nT 57 (.iconst 0, 1) (nT 56 (.aload_n 0, 1) (nT 53 (.putfield 365, 3) nE nE) nE) (nT 58 (.putfield 368, 3) nE nE)) (nT 67 (.iaload, 1) (nT 65 (.bipush 31, 2) (nT 62 (.getfield 89, 3) nE nE) nE) (nT 68 (.ireturn, 1) nE nE)))))
def i_X12_isIn : Nat → Option (Instr × Nat) := (nT 7 (.if_icmp .gt 7, 3) (nT 2 (.if_icmp .lt 12, 3) (nT 1 (.iload_n 1, 1) (nT 0 (.iload_n 0, 1) nE nE) nE) (nT 6 (.iload_n 2, 1) (nT 5 (.iload_n 0, 1) nE nE) nE)) (nT 14 (.iconst 0, 1) (nT 11 (.goto 4, 3) (nT 10 (.iconst 1, 1) nE nE) nE) (nT 15 (.ireturn, 1) nE nE)))
def i_X11_back : Nat → Option (Instr × Nat) := (nT 23 (.aload_n 0, 1) (nT 12 (.iload_n 1, 1) (nT 5 (.ifCond .eq 12, 3) (nT 1 (.iload_n 1, 1) (nT 0 (.aload_n 0, 1) nE nE) (nT 2 (.invokevirtual 345, 3) nE nE)) (nT 9 (.getfield 46, 3) (nT 8 (.aload_n 0, 1) nE nE) nE)) (nT 18 (.ireturn, 1) (nT 14 (.ifCond .ne 5, 3) (nT 13 (.baload, 1) nE nE) (nT 17 (.iconst (-1), 1) nE nE)) (nT 20 (.getfield 38, 3) (nT 19 (.aload_n 0, 1) nE nE) nE))) (nT 36 (.aload_n 0, 1) (nT 29 (.invokevirtual 348, 3) (nT 27 (.iload_n 1, 1) (nT 24 (.getfield 42, 3) nE nE) (nT 28 (.aaload, 1) nE nE)) (nT 33 (.getfield 53, 3) (nT 32 (.aload_n 0, 1) nE nE) nE)) (nT 44 (.getfield 38, 3) (nT 40 (.invokevirtual 122, 3) (nT 37 (.getfield 38, 3) nE nE) (nT 43 (.aload_n 0, 1) nE nE)) (nT 50 (.ireturn, 1) (nT 47 (.getfield 221, 3) nE nE) nE))))
def i_X0_begin : Nat → Option (Instr × Nat) := (nT 11 (.iconst 0, 1) (nT 5 (.aload_n 0, 1) (nT 1 (.iconst 0, 1) (nT 0 (.aload_n 0, 1) nE nE) (nT 2 (.putfield 16, 3) nE nE)) (nT 7 (.putfield 20, 3) (nT 6 (.iconst 0, 1) nE nE) (nT 10 (.aload_n 0, 1) nE nE))) (nT 17 (.invokevirtual 26, 3) (nT 15 (.aload_n 0, 1) (nT 12 (.putfield 23, 3) nE nE) (nT 16 (.iconst 0, 1) nE nE)) (nT 21 (.invokevirtual 30, 3) (nT 20 (.aload_n 1, 1) nE nE) (nT 24 (.return_, 1) nE nE))))
def i_X6_copyFrom : Nat → Option (Instr × Nat) := (nT 17 (.getfield 39, 3) (nT 9 (.iconst 0, 1) (nT 4 (.iconst 0, 1) (nT 1 (.getfield 11, 3) (nT 0 (.aload_n 1, 1) nE nE) nE) (nT 6 (.getfield 11, 3) (nT 5 (.aload_n 0, 1) nE nE) nE)) (nT 15 (.aload_n 0, 1) (nT 12 (.invokestatic 52, 3) (nT 10 (.bipush 30, 2) nE nE) nE) (nT 16 (.aload_n 1, 1) nE nE))) (nT 31 (.aload_n 0, 1) (nT 24 (.aload_n 1, 1) (nT 23 (.aload_n 0, 1) (nT 20 (.putfield 39, 3) nE nE) nE) (nT 28 (.putfield 43, 3) (nT 25 (.getfield 43, 3) nE nE) nE)) (nT 36 (.putfield 49, 3) (nT 33 (.getfield 49, 3) (nT 32 (.aload_n 1, 1) nE nE) nE) (nT 39 (.return_, 1) nE nE))))
def i_X0_slot : Nat → Option (Instr × Nat) := (nT 9 (.iadd, 1) (nT 4 (.aload_n 0, 1) (nT 1 (.getfield 11, 3) (nT 0 (.aload_n 0, 1) nE nE) nE) (nT 8 (.iload_n 1, 1) (nT 5 (.getfield 16, 3) nE nE) nE)) (nT 15 (.aaload, 1) (nT 12 (.invokestatic 34, 3) (nT 10 (.bipush 41, 2) nE nE) nE) (nT 16 (.areturn, 1) nE nE)))
def i_J9_floorMod_7cf53 : Nat → Option (Instr × Nat) := (nT 10 (.iload_n 2, 1) (nT 4 (.iload_n 0, 1) (nT 2 (.irem, 1) (nT 1 (.iload_n 1, 1) (nT 0 (.iload_n 0, 1) nE nE) nE) (nT 3 (.istore_n 2, 1) nE nE)) (nT 6 (.ixor, 1) (nT 5 (.iload_n 1, 1) nE nE) (nT 7 (.ifCond .ge 11, 3) nE nE))) (nT 16 (.iadd, 1) (nT 14 (.iload_n 2, 1) (nT 11 (.ifCond .eq 7, 3) nE nE) (nT 15 (.iload_n 1, 1) nE nE)) (nT 18 (.iload_n 2, 1) (nT 17 (.ireturn, 1) nE nE) (nT 19 (.ireturn, 1) nE nE))))
def i_X11_isBox : Nat → Option (Instr × Nat) := (nT 6 (.if_icmp .ge 7, 3) (nT 4 (.iload_n 1, 1) (nT 1 (.ifCond .lt 12, 3) (nT 0 (.iload_n 1, 1) nE nE) nE) (nT 5 (.iconst 3, 1) nE nE)) (nT 13 (.iconst 0, 1) (nT 10 (.goto 4, 3) (nT 9 (.iconst 1, 1) nE nE) nE) (nT 14 (.ireturn, 1) nE nE)))
def i_X12_image : Nat → Option (Instr × Nat) := (nT 28 (.iadd, 1) (nT 13 (.iload_n 2, 1) (nT 6 (.ifCond .ne 5, 3) (nT 2 (.iconst 2, 1) (nT 1 (.iconst 0, 1) (nT 0 (.iload_n 1, 1) nE nE) nE) (nT 3 (.invokestatic 350, 3) nE nE)) (nT 11 (.iconst 0, 1) (nT 10 (.ireturn, 1) (nT 9 (.iconst (-1), 1) nE nE) nE) (nT 12 (.istore_n 2, 1) nE nE))) (nT 23 (.bipush 33, 2) (nT 19 (.aload_n 0, 1) (nT 16 (.if_icmp .ge 26, 3) (nT 14 (.bipush 33, 2) nE nE) nE) (nT 20 (.getfield 125, 3) nE nE)) (nT 26 (.imul, 1) (nT 25 (.iload_n 1, 1) nE nE) (nT 27 (.iload_n 2, 1) nE nE)))) (nT 43 (.getfield 128, 3) (nT 35 (.iastore, 1) (nT 33 (.iload_n 2, 1) (nT 30 (.getfield 89, 3) (nT 29 (.aload_n 0, 1) nE nE) nE) (nT 34 (.iaload, 1) nE nE)) (nT 39 (.goto (-26), 3) (nT 36 (.iinc 2 1, 3) nE nE) (nT 42 (.aload_n 0, 1) nE nE))) (nT 50 (.getfield 89, 3) (nT 48 (.bastore, 1) (nT 47 (.iconst 1, 1) (nT 46 (.iload_n 1, 1) nE nE) nE) (nT 49 (.aload_n 0, 1) nE nE)) (nT 55 (.iaload, 1) (nT 53 (.bipush 31, 2) nE nE) (nT 56 (.ireturn, 1) nE nE)))))
def i_X11_image : Nat → Option (Instr × Nat) := (nT 17 (.getfield 38, 3) (nT 9 (.ireturn, 1) (nT 2 (.invokevirtual 345, 3) (nT 1 (.iload_n 1, 1) (nT 0 (.aload_n 0, 1) nE nE) nE) (nT 8 (.iconst (-1), 1) (nT 5 (.ifCond .ne 5, 3) nE nE) nE)) (nT 14 (.iload_n 1, 1) (nT 11 (.getfield 42, 3) (nT 10 (.aload_n 0, 1) nE nE) nE) (nT 16 (.aload_n 0, 1) (nT 15 (.aaload, 1) nE nE) nE))) (nT 29 (.bastore, 1) (nT 24 (.getfield 46, 3) (nT 23 (.aload_n 0, 1) (nT 20 (.invokevirtual 348, 3) nE nE) nE) (nT 28 (.iconst 1, 1) (nT 27 (.iload_n 1, 1) nE nE) nE)) (nT 34 (.getfield 221, 3) (nT 31 (.getfield 38, 3) (nT 30 (.aload_n 0, 1) nE nE) nE) (nT 37 (.ireturn, 1) nE nE))))
def i_X12_ask : Nat → Option (Instr × Nat) := (nT 62 (.aload_n 0, 1) (nT 26 (.aload_n 0, 1) (nT 12 (.iload_n 2, 1) (nT 6 (.ifCond .ne 5, 3) (nT 2 (.iconst 1, 1) (nT 1 (.iconst 0, 1) (nT 0 (.iload_n 1, 1) nE nE) nE) (nT 3 (.invokestatic 350, 3) nE nE)) (nT 10 (.ireturn, 1) (nT 9 (.iconst (-1), 1) nE nE) (nT 11 (.aload_n 0, 1) nE nE))) (nT 19 (.istore 4, 2) (nT 17 (.istore_n 3, 1) (nT 16 (.iconst (-1), 1) (nT 13 (.invokevirtual 532, 3) nE nE) nE) (nT 18 (.iconst 0, 1) nE nE)) (nT 22 (.istore 5, 2) (nT 21 (.iconst 0, 1) nE nE) (nT 24 (.iload 5, 2) nE nE)))) (nT 46 (.iaload, 1) (nT 37 (.ifCond .le 76, 3) (nT 33 (.aload_n 0, 1) (nT 30 (.if_icmp .ge 83, 3) (nT 27 (.invokevirtual 347, 3) nE nE) nE) (nT 34 (.getfield 526, 3) nE nE)) (nT 41 (.getfield 122, 3) (nT 40 (.aload_n 0, 1) nE nE) (nT 44 (.iload 5, 2) nE nE))) (nT 55 (.iload 5, 2) (nT 51 (.aload_n 0, 1) (nT 48 (.getfield 526, 3) (nT 47 (.aload_n 0, 1) nE nE) nE) (nT 52 (.getfield 122, 3) nE nE)) (nT 58 (.isub, 1) (nT 57 (.iaload, 1) nE nE) (nT 59 (.if_icmp .le 13, 3) nE nE))))) (nT 97 (.goto 10, 3) (nT 80 (.iload 5, 2) (nT 72 (.aload_n 0, 1) (nT 68 (.iaload, 1) (nT 66 (.iload 5, 2) (nT 63 (.getfield 122, 3) nE nE) nE) (nT 69 (.goto 15, 3) nE nE)) (nT 76 (.aload_n 0, 1) (nT 73 (.getfield 526, 3) nE nE) (nT 77 (.getfield 122, 3) nE nE))) (nT 87 (.ifCond .lt 13, 3) (nT 84 (.istore 6, 2) (nT 83 (.isub, 1) (nT 82 (.iaload, 1) nE nE) nE) (nT 86 (.iload_n 3, 1) nE nE)) (nT 92 (.iload 4, 2) (nT 90 (.iload 6, 2) nE nE) (nT 94 (.if_icmp .lt 6, 3) nE nE)))) (nT 117 (.iconst (-1), 1) (nT 107 (.iinc 5 1, 3) (nT 103 (.iload 6, 2) (nT 102 (.istore_n 3, 1) (nT 100 (.iload 5, 2) nE nE) nE) (nT 105 (.istore 4, 2) nE nE)) (nT 113 (.iload_n 3, 1) (nT 110 (.goto (-86), 3) nE nE) (nT 114 (.ifCond .ge 7, 3) nE nE))) (nT 125 (.iload_n 3, 1) (nT 121 (.iload_n 1, 1) (nT 118 (.goto 13, 3) nE nE) (nT 122 (.ifCond .ne 7, 3) nE nE)) (nT 129 (.iload 4, 2) (nT 126 (.goto 5, 3) nE nE) (nT 131 (.ireturn, 1) nE nE))))))
def i_X12_layFits : Nat → Option (Instr × Nat) := (nT 50 (.aload_n 0, 1) (nT 23 (.goto (-16), 3) (nT 10 (.if_icmp .ge 16, 3) (nT 5 (.iconst 0, 1) (nT 1 (.iconst 0, 1) (nT 0 (.aload_n 0, 1) nE nE) (nT 2 (.putfield 526, 3) nE nE)) (nT 7 (.iload_n 2, 1) (nT 6 (.istore_n 2, 1) nE nE) (nT 8 (.bipush 6, 2) nE nE))) (nT 18 (.iconst 0, 1) (nT 14 (.getfield 122, 3) (nT 13 (.aload_n 0, 1) nE nE) (nT 17 (.iload_n 2, 1) nE nE)) (nT 20 (.iinc 2 1, 3) (nT 19 (.iastore, 1) nE nE) nE))) (nT 35 (.if_icmp .ge 61, 3) (nT 29 (.iconst 1, 1) (nT 27 (.istore_n 2, 1) (nT 26 (.iconst 0, 1) nE nE) (nT 28 (.iload_n 2, 1) nE nE)) (nT 31 (.invokevirtual 347, 3) (nT 30 (.aload_n 0, 1) nE nE) (nT 34 (.ishl, 1) nE nE))) (nT 41 (.invokevirtual 529, 3) (nT 39 (.iload_n 2, 1) (nT 38 (.aload_n 0, 1) nE nE) (nT 40 (.iload_n 1, 1) nE nE)) (nT 47 (.goto 43, 3) (nT 44 (.ifCond .ne 6, 3) nE nE) nE)))) (nT 75 (.dup2, 1) (nT 62 (.iload_n 3, 1) (nT 56 (.iadd, 1) (nT 52 (.getfield 526, 3) (nT 51 (.dup, 1) nE nE) (nT 55 (.iconst 1, 1) nE nE)) (nT 60 (.iconst 0, 1) (nT 57 (.putfield 526, 3) nE nE) (nT 61 (.istore_n 3, 1) nE nE))) (nT 70 (.aload_n 0, 1) (nT 64 (.invokevirtual 347, 3) (nT 63 (.aload_n 0, 1) nE nE) (nT 67 (.if_icmp .ge 23, 3) nE nE)) (nT 74 (.iload_n 3, 1) (nT 71 (.getfield 122, 3) nE nE) nE))) (nT 82 (.iadd, 1) (nT 79 (.ishr, 1) (nT 77 (.iload_n 2, 1) (nT 76 (.iaload, 1) nE nE) (nT 78 (.iload_n 3, 1) nE nE)) (nT 81 (.iand, 1) (nT 80 (.iconst 1, 1) nE nE) nE)) (nT 90 (.iinc 2 1, 3) (nT 84 (.iinc 3 1, 3) (nT 83 (.iastore, 1) nE nE) (nT 87 (.goto (-25), 3) nE nE)) (nT 96 (.return_, 1) (nT 93 (.goto (-65), 3) nE nE) nE)))))
def i_X12_doesFit : Nat → Option (Instr × Nat) := (nT 49 (.invokevirtual 407, 3) (nT 24 (.iload_n 3, 1) (nT 11 (.getfield 116, 3) (nT 3 (.aload_n 0, 1) (nT 1 (.istore_n 3, 1) (nT 0 (.iconst 0, 1) nE nE) (nT 2 (.iload_n 3, 1) nE nE)) (nT 7 (.if_icmp .ge 94, 3) (nT 4 (.getfield 371, 3) nE nE) (nT 10 (.aload_n 0, 1) nE nE))) (nT 17 (.if_icmp .gt 78, 3) (nT 15 (.iaload, 1) (nT 14 (.iload_n 3, 1) nE nE) (nT 16 (.iload_n 2, 1) nE nE)) (nT 21 (.getfield 119, 3) (nT 20 (.aload_n 0, 1) nE nE) nE))) (nT 36 (.if_icmp .gt 6, 3) (nT 30 (.getfield 119, 3) (nT 26 (.ifCond .lt 16, 3) (nT 25 (.iaload, 1) nE nE) (nT 29 (.aload_n 0, 1) nE nE)) (nT 34 (.iaload, 1) (nT 33 (.iload_n 3, 1) nE nE) (nT 35 (.iload_n 2, 1) nE nE))) (nT 44 (.invokevirtual 473, 3) (nT 42 (.aload_n 0, 1) (nT 39 (.goto 56, 3) nE nE) (nT 43 (.iconst 0, 1) nE nE)) (nT 48 (.iload_n 1, 1) (nT 47 (.aload_n 0, 1) nE nE) nE)))) (nT 76 (.goto 4, 3) (nT 63 (.getfield 319, 3) (nT 57 (.iload_n 3, 1) (nT 53 (.aload_n 0, 1) (nT 52 (.aload_n 0, 1) nE nE) (nT 54 (.getfield 107, 3) nE nE)) (nT 59 (.invokevirtual 389, 3) (nT 58 (.iaload, 1) nE nE) (nT 62 (.aload_n 0, 1) nE nE))) (nT 71 (.iaload, 1) (nT 67 (.getfield 110, 3) (nT 66 (.aload_n 0, 1) nE nE) (nT 70 (.iload_n 3, 1) nE nE)) (nT 75 (.iconst 1, 1) (nT 72 (.if_icmp .lt 7, 3) nE nE) nE))) (nT 90 (.if_icmp .eq 5, 3) (nT 84 (.aload_n 0, 1) (nT 80 (.istore 4, 2) (nT 79 (.iconst 0, 1) nE nE) (nT 82 (.iload 4, 2) nE nE)) (nT 88 (.iload_n 3, 1) (nT 85 (.getfield 113, 3) nE nE) (nT 89 (.iaload, 1) nE nE))) (nT 98 (.goto (-96), 3) (nT 94 (.ireturn, 1) (nT 93 (.iconst 0, 1) nE nE) (nT 95 (.iinc 3 1, 3) nE nE)) (nT 102 (.ireturn, 1) (nT 101 (.iconst 1, 1) nE nE) nE)))))
def i_X12_leave : Nat → Option (Instr × Nat) := (nT 26 (.getfield 325, 3) (nT 12 (.aload_n 0, 1) (nT 4 (.if_icmp .ge 53, 3) (nT 2 (.iload_n 2, 1) (nT 1 (.istore_n 2, 1) (nT 0 (.iconst 0, 1) nE nE) nE) (nT 3 (.iload_n 1, 1) nE nE)) (nT 8 (.dup, 1) (nT 7 (.aload_n 0, 1) nE nE) (nT 9 (.getfield 319, 3) nE nE))) (nT 20 (.aload_n 0, 1) (nT 16 (.isub, 1) (nT 13 (.invokevirtual 383, 3) nE nE) (nT 17 (.putfield 319, 3) nE nE)) (nT 22 (.getfield 322, 3) (nT 21 (.dup, 1) nE nE) (nT 25 (.aload_n 0, 1) nE nE)))) (nT 42 (.dup, 1) (nT 36 (.iconst 1, 1) (nT 32 (.iconst 0, 1) (nT 29 (.ifCond .ne 7, 3) nE nE) (nT 33 (.goto 4, 3) nE nE)) (nT 38 (.putfield 322, 3) (nT 37 (.iadd, 1) nE nE) (nT 41 (.aload_n 0, 1) nE nE))) (nT 48 (.putfield 337, 3) (nT 46 (.iconst 1, 1) (nT 43 (.getfield 337, 3) nE nE) (nT 47 (.iadd, 1) nE nE)) (nT 54 (.goto (-52), 3) (nT 51 (.iinc 2 1, 3) nE nE) (nT 57 (.return_, 1) nE nE)))))
def i_X12_fades : Nat → Option (Instr × Nat) := (nT 28 (.aload_n 0, 1) (nT 13 (.aload_n 0, 1) (nT 7 (.iconst 0, 1) (nT 1 (.getfield 325, 3) (nT 0 (.aload_n 0, 1) nE nE) (nT 4 (.ifCond .ne 5, 3) nE nE)) (nT 9 (.aload_n 0, 1) (nT 8 (.ireturn, 1) nE nE) (nT 10 (.getfield 57, 3) nE nE))) (nT 21 (.aload_n 0, 1) (nT 17 (.baload, 1) (nT 14 (.getfield 251, 3) nE nE) (nT 18 (.ifCond .eq 10, 3) nE nE)) (nT 25 (.goto 11, 3) (nT 22 (.invokevirtual 380, 3) nE nE) nE))) (nT 41 (.iconst 0, 1) (nT 36 (.istore_n 1, 1) (nT 30 (.getfield 325, 3) (nT 29 (.aload_n 0, 1) nE nE) (nT 33 (.invokevirtual 328, 3) nE nE)) (nT 38 (.ifCond .ge 7, 3) (nT 37 (.iload_n 1, 1) nE nE) nE)) (nT 47 (.getfield 319, 3) (nT 45 (.iload_n 1, 1) (nT 42 (.goto 11, 3) nE nE) (nT 46 (.aload_n 0, 1) nE nE)) (nT 53 (.ireturn, 1) (nT 50 (.invokestatic 377, 3) nE nE) nE))))
def i_X12_lesser : Nat → Option (Instr × Nat) := (nT 5 (.iload_n 0, 1) (nT 1 (.iload_n 1, 1) (nT 0 (.iload_n 0, 1) nE nE) (nT 2 (.if_icmp .ge 7, 3) nE nE)) (nT 9 (.iload_n 1, 1) (nT 6 (.goto 4, 3) nE nE) (nT 10 (.ireturn, 1) nE nE)))
def i_X12_lossOf : Nat → Option (Instr × Nat) := (nT 5 (.iload_n 1, 1) (nT 1 (.aload_n 0, 1) (nT 0 (.aload_n 0, 1) nE nE) (nT 2 (.getfield 39, 3) nE nE)) (nT 9 (.ireturn, 1) (nT 6 (.invokevirtual 361, 3) nE nE) nE))
def i_X12_sumOf : Nat → Option (Instr × Nat) := (nT 25 (.bipush 6, 2) (nT 11 (.if_icmp .ge 37, 3) (nT 3 (.istore 4, 2) (nT 1 (.istore_n 3, 1) (nT 0 (.iconst 0, 1) nE nE) (nT 2 (.iconst 0, 1) nE nE)) (nT 7 (.aload_n 0, 1) (nT 5 (.iload 4, 2) nE nE) (nT 8 (.invokevirtual 347, 3) nE nE))) (nT 18 (.invokestatic 357, 3) (nT 15 (.iload_n 2, 1) (nT 14 (.iload_n 3, 1) nE nE) (nT 16 (.iload 4, 2) nE nE)) (nT 24 (.aload_n 1, 1) (nT 21 (.ifCond .eq 18, 3) nE nE) nE))) (nT 39 (.iconst 0, 1) (nT 32 (.iload 4, 2) (nT 28 (.getfield 251, 3) (nT 27 (.aload_n 0, 1) nE nE) (nT 31 (.imul, 1) nE nE)) (nT 35 (.iaload, 1) (nT 34 (.iadd, 1) nE nE) (nT 36 (.goto 4, 3) nE nE))) (nT 45 (.goto (-40), 3) (nT 41 (.istore_n 3, 1) (nT 40 (.iadd, 1) nE nE) (nT 42 (.iinc 4 1, 3) nE nE)) (nT 49 (.ireturn, 1) (nT 48 (.iload_n 3, 1) nE nE) nE))))
def i_X12_has : Nat → Option (Instr × Nat) := (nT 5 (.iconst 1, 1) (nT 2 (.ishr, 1) (nT 1 (.iload_n 1, 1) (nT 0 (.iload_n 0, 1) nE nE) nE) (nT 4 (.iand, 1) (nT 3 (.iconst 1, 1) nE nE) nE)) (nT 10 (.goto 4, 3) (nT 9 (.iconst 1, 1) (nT 6 (.if_icmp .ne 7, 3) nE nE) nE) (nT 14 (.ireturn, 1) (nT 13 (.iconst 0, 1) nE nE) nE)))
def i_X12_comes : Nat → Option (Instr × Nat) := (nT 66 (.invokestatic 192, 3) (nT 32 (.iload_n 3, 1) (nT 14 (.getfield 54, 3) (nT 7 (.getfield 251, 3) (nT 2 (.aload_n 0, 1) (nT 1 (.istore_n 1, 1) (nT 0 (.iconst 0, 1) nE nE) nE) (nT 6 (.aload_n 0, 1) (nT 3 (.getfield 51, 3) nE nE) nE)) (nT 12 (.iload_n 2, 1) (nT 11 (.istore_n 2, 1) (nT 10 (.iaload, 1) nE nE) nE) (nT 13 (.aload_n 0, 1) nE nE))) (nT 25 (.aload_n 0, 1) (nT 21 (.iaload, 1) (nT 18 (.getfield 251, 3) (nT 17 (.aload_n 0, 1) nE nE) nE) (nT 22 (.if_icmp .ge 108, 3) nE nE)) (nT 30 (.iaload, 1) (nT 29 (.iload_n 2, 1) (nT 26 (.getfield 74, 3) nE nE) nE) (nT 31 (.istore_n 3, 1) nE nE)))) (nT 50 (.iconst 1, 1) (nT 43 (.iconst 1, 1) (nT 38 (.aload_n 0, 1) (nT 35 (.if_icmp .ne 30, 3) (nT 33 (.bipush 126, 2) nE nE) nE) (nT 42 (.iload_n 1, 1) (nT 39 (.getfield 86, 3) nE nE) nE)) (nT 46 (.getfield 86, 3) (nT 45 (.aload_n 0, 1) (nT 44 (.isub, 1) nE nE) nE) (nT 49 (.iload_n 1, 1) nE nE))) (nT 57 (.goto 4, 3) (nT 53 (.ifCond .ne 7, 3) (nT 52 (.iaload, 1) (nT 51 (.isub, 1) nE nE) nE) (nT 56 (.iconst 1, 1) nE nE)) (nT 62 (.goto 62, 3) (nT 61 (.iastore, 1) (nT 60 (.iconst 0, 1) nE nE) nE) (nT 65 (.iload_n 3, 1) nE nE))))) (nT 105 (.iload_n 3, 1) (nT 85 (.invokevirtual 340, 3) (nT 78 (.iload_n 3, 1) (nT 73 (.getfield 86, 3) (nT 72 (.aload_n 0, 1) (nT 69 (.ifCond .eq 26, 3) nE nE) nE) (nT 77 (.aload_n 0, 1) (nT 76 (.iload_n 1, 1) nE nE) nE)) (nT 83 (.iload_n 2, 1) (nT 80 (.getfield 77, 3) (nT 79 (.aload_n 0, 1) nE nE) nE) (nT 84 (.iaload, 1) nE nE))) (nT 98 (.aload_n 0, 1) (nT 92 (.goto 32, 3) (nT 89 (.iinc 1 1, 3) (nT 88 (.iastore, 1) nE nE) nE) (nT 95 (.iinc 1 (-1), 3) nE nE)) (nT 103 (.iconst 1, 1) (nT 102 (.iload_n 1, 1) (nT 99 (.getfield 86, 3) nE nE) nE) (nT 104 (.isub, 1) nE nE)))) (nT 119 (.iaload, 1) (nT 112 (.isub, 1) (nT 110 (.iload_n 1, 1) (nT 107 (.getfield 86, 3) (nT 106 (.aload_n 0, 1) nE nE) nE) (nT 111 (.iconst 1, 1) nE nE)) (nT 115 (.getfield 86, 3) (nT 114 (.aload_n 0, 1) (nT 113 (.iaload, 1) nE nE) nE) (nT 118 (.iload_n 1, 1) nE nE))) (nT 130 (.aload_n 0, 1) (nT 124 (.iinc 2 1, 3) (nT 123 (.iastore, 1) (nT 120 (.invokestatic 343, 3) nE nE) nE) (nT 127 (.goto (-115), 3) nE nE)) (nT 135 (.iaload, 1) (nT 134 (.iconst 0, 1) (nT 131 (.getfield 86, 3) nE nE) nE) (nT 136 (.ireturn, 1) nE nE))))))
def i_X12_two : Nat → Option (Instr × Nat) := (nT 161 (.iconst 1, 1) (nT 136 (.iconst 0, 1) (nT 126 (.isub, 1) (nT 122 (.iadd, 1) (nT 120 (.iload_n 1, 1) (nT 1 (.tableswitch 202 37 62 #[143, 188, 202, 202, 202, 127, 119, 202, 123, 202, 131, 202, 202, 202, 202, 202, 202, 202, 202, 202, 202, 202, 202, 155, 177, 166], 119) (nT 0 (.iload_n 0, 1) nE nE) nE) (nT 121 (.iload_n 2, 1) nE nE)) (nT 124 (.iload_n 1, 1) (nT 123 (.ireturn, 1) nE nE) (nT 125 (.iload_n 2, 1) nE nE))) (nT 130 (.imul, 1) (nT 128 (.iload_n 1, 1) (nT 127 (.ireturn, 1) nE nE) (nT 129 (.iload_n 2, 1) nE nE)) (nT 132 (.iload_n 2, 1) (nT 131 (.ireturn, 1) nE nE) (nT 133 (.ifCond .ne 7, 3) nE nE)))) (nT 149 (.goto 6, 3) (nT 143 (.ireturn, 1) (nT 141 (.iload_n 2, 1) (nT 140 (.iload_n 1, 1) (nT 137 (.goto 6, 3) nE nE) nE) (nT 142 (.idiv, 1) nE nE)) (nT 145 (.ifCond .ne 7, 3) (nT 144 (.iload_n 2, 1) nE nE) (nT 148 (.iconst 0, 1) nE nE))) (nT 155 (.ireturn, 1) (nT 153 (.iload_n 2, 1) (nT 152 (.iload_n 1, 1) nE nE) (nT 154 (.irem, 1) nE nE)) (nT 157 (.iload_n 2, 1) (nT 156 (.iload_n 1, 1) nE nE) (nT 158 (.if_icmp .ge 7, 3) nE nE))))) (nT 188 (.ireturn, 1) (nT 176 (.iconst 0, 1) (nT 168 (.iload_n 2, 1) (nT 166 (.ireturn, 1) (nT 165 (.iconst 0, 1) (nT 162 (.goto 4, 3) nE nE) nE) (nT 167 (.iload_n 1, 1) nE nE)) (nT 172 (.iconst 1, 1) (nT 169 (.if_icmp .le 7, 3) nE nE) (nT 173 (.goto 4, 3) nE nE))) (nT 180 (.if_icmp .ne 7, 3) (nT 178 (.iload_n 1, 1) (nT 177 (.ireturn, 1) nE nE) (nT 179 (.iload_n 2, 1) nE nE)) (nT 184 (.goto 4, 3) (nT 183 (.iconst 1, 1) nE nE) (nT 187 (.iconst 0, 1) nE nE)))) (nT 203 (.iload_n 1, 1) (nT 197 (.iconst 1, 1) (nT 193 (.iload_n 2, 1) (nT 190 (.ifCond .eq 11, 3) (nT 189 (.iload_n 1, 1) nE nE) nE) (nT 194 (.ifCond .eq 7, 3) nE nE)) (nT 201 (.iconst 0, 1) (nT 198 (.goto 4, 3) nE nE) (nT 202 (.ireturn, 1) nE nE))) (nT 211 (.iconst 1, 1) (nT 207 (.iload_n 2, 1) (nT 204 (.ifCond .ne 7, 3) nE nE) (nT 208 (.ifCond .eq 7, 3) nE nE)) (nT 215 (.iconst 0, 1) (nT 212 (.goto 4, 3) nE nE) (nT 216 (.ireturn, 1) nE nE))))))
def i_X12_asked : Nat → Option (Instr × Nat) := (nT 78 (.ireturn, 1) (nT 66 (.getfield 322, 3) (nT 61 (.getfield 319, 3) (nT 1 (.lookupswitch 93 #[(97, 64), (100, 88), (107, 83), (108, 69), (115, 78), (118, 59)], 59) (nT 0 (.iload_n 1, 1) nE nE) (nT 60 (.aload_n 0, 1) nE nE)) (nT 65 (.aload_n 0, 1) (nT 64 (.ireturn, 1) nE nE) nE)) (nT 71 (.aload_n 0, 1) (nT 70 (.aload_n 0, 1) (nT 69 (.ireturn, 1) nE nE) nE) (nT 75 (.invokevirtual 328, 3) (nT 72 (.getfield 325, 3) nE nE) nE))) (nT 88 (.ireturn, 1) (nT 83 (.ireturn, 1) (nT 80 (.getfield 331, 3) (nT 79 (.aload_n 0, 1) nE nE) nE) (nT 85 (.getfield 334, 3) (nT 84 (.aload_n 0, 1) nE nE) nE)) (nT 93 (.ireturn, 1) (nT 90 (.getfield 337, 3) (nT 89 (.aload_n 0, 1) nE nE) nE) (nT 95 (.ireturn, 1) (nT 94 (.iload_n 2, 1) nE nE) nE))))
def i_X12_isLetter : Nat → Option (Instr × Nat) := (nT 9 (.if_icmp .gt 7, 3) (nT 3 (.if_icmp .lt 13, 3) (nT 1 (.bipush 97, 2) (nT 0 (.iload_n 0, 1) nE nE) nE) (nT 7 (.bipush 122, 2) (nT 6 (.iload_n 0, 1) nE nE) nE)) (nT 16 (.iconst 0, 1) (nT 13 (.goto 4, 3) (nT 12 (.iconst 1, 1) nE nE) nE) (nT 17 (.ireturn, 1) nE nE)))
def i_X12_breathe : Nat → Option (Instr × Nat) := (nT 15 (.getfield 319, 3) (nT 6 (.ior, 1) (nT 2 (.getfield 325, 3) (nT 1 (.dup, 1) (nT 0 (.aload_n 0, 1) nE nE) nE) (nT 5 (.iload_n 1, 1) nE nE)) (nT 11 (.sipush 999, 3) (nT 10 (.aload_n 0, 1) (nT 7 (.putfield 325, 3) nE nE) nE) (nT 14 (.aload_n 0, 1) nE nE))) (nT 24 (.invokevirtual 361, 3) (nT 20 (.getfield 36, 3) (nT 19 (.aload_n 0, 1) (nT 18 (.aload_n 0, 1) nE nE) nE) (nT 23 (.iload_n 1, 1) nE nE)) (nT 31 (.putfield 319, 3) (nT 28 (.invokestatic 377, 3) (nT 27 (.iadd, 1) nE nE) nE) (nT 34 (.return_, 1) nE nE))))
def i_X12_layFresh : Nat → Option (Instr × Nat) := (nT 15 (.aload_n 0, 1) (nT 6 (.iconst 0, 1) (nT 2 (.putfield 319, 3) (nT 1 (.iconst 0, 1) (nT 0 (.aload_n 0, 1) nE nE) nE) (nT 5 (.aload_n 0, 1) nE nE)) (nT 11 (.iconst 0, 1) (nT 10 (.aload_n 0, 1) (nT 7 (.putfield 325, 3) nE nE) nE) (nT 12 (.putfield 322, 3) nE nE))) (nT 22 (.putfield 334, 3) (nT 20 (.aload_n 0, 1) (nT 17 (.putfield 331, 3) (nT 16 (.iconst 0, 1) nE nE) nE) (nT 21 (.iconst 0, 1) nE nE)) (nT 27 (.putfield 337, 3) (nT 26 (.iload_n 1, 1) (nT 25 (.aload_n 0, 1) nE nE) nE) (nT 30 (.return_, 1) nE nE))))
def i_X11_ask : Nat → Option (Instr × Nat) := (nT 5 (.iload_n 2, 1) (nT 1 (.getfield 96, 3) (nT 0 (.aload_n 0, 1) nE nE) (nT 4 (.iload_n 1, 1) nE nE)) (nT 9 (.ireturn, 1) (nT 6 (.invokevirtual 342, 3) nE nE) nE))
def i_X7_nextToAsk : Nat → Option (Instr × Nat) := (nT 44 (.invokestatic 89, 3) (nT 18 (.getfield 33, 3) (nT 9 (.iconst (-1), 1) (nT 5 (.lstore_n 3, 1) (nT 1 (.iload_n 2, 1) (nT 0 (.aload_n 0, 1) nE nE) (nT 2 (.invokevirtual 77, 3) nE nE)) (nT 7 (.istore 5, 2) (nT 6 (.iconst (-1), 1) nE nE) nE)) (nT 13 (.istore 7, 2) (nT 12 (.iconst 0, 1) (nT 10 (.istore 6, 2) nE nE) nE) (nT 17 (.aload_n 0, 1) (nT 15 (.iload 7, 2) nE nE) nE))) (nT 33 (.lload_n 3, 1) (nT 28 (.lconst 0, 1) (nT 24 (.if_icmp .ge 58, 3) (nT 21 (.getfield 52, 3) nE nE) (nT 27 (.lload_n 3, 1) nE nE)) (nT 30 (.ifCond .eq 52, 3) (nT 29 (.lcmp, 1) nE nE) nE)) (nT 39 (.istore 8, 2) (nT 36 (.invokestatic 85, 3) (nT 34 (.iload 7, 2) nE nE) nE) (nT 43 (.lload_n 3, 1) (nT 41 (.iload 8, 2) nE nE) nE)))) (nT 72 (.iload 9, 2) (nT 58 (.if_icmp .eq 10, 3) (nT 53 (.istore 9, 2) (nT 49 (.isub, 1) (nT 47 (.iload 8, 2) nE nE) (nT 50 (.invokestatic 95, 3) nE nE)) (nT 57 (.iconst (-1), 1) (nT 55 (.iload 5, 2) nE nE) nE)) (nT 65 (.if_icmp .ge 11, 3) (nT 63 (.iload 6, 2) (nT 61 (.iload 9, 2) nE nE) nE) (nT 70 (.istore 5, 2) (nT 68 (.iload 7, 2) nE nE) nE))) (nT 108 (.iload 5, 2) (nT 79 (.goto (-64), 3) (nT 76 (.iinc 7 1, 3) (nT 74 (.istore 6, 2) nE nE) nE) (nT 83 (.lookupswitch 31 #[(0, 25), (1, 28)], 25) (nT 82 (.iload_n 1, 1) nE nE) nE)) (nT 113 (.ireturn, 1) (nT 111 (.iload 6, 2) (nT 110 (.ireturn, 1) nE nE) nE) (nT 115 (.ireturn, 1) (nT 114 (.iconst (-1), 1) nE nE) nE)))))
def i_J9_max_7cf53 : Nat → Option (Instr × Nat) := (nT 5 (.iload_n 0, 1) (nT 1 (.iload_n 1, 1) (nT 0 (.iload_n 0, 1) nE nE) (nT 2 (.if_icmp .lt 7, 3) nE nE)) (nT 9 (.iload_n 1, 1) (nT 6 (.goto 4, 3) nE nE) (nT 10 (.ireturn, 1) nE nE)))
def i_J13_bitCount_95d88 : Nat → Option (Instr × Nat) := (nT 32 (.land, 1) (nT 16 (.iconst 2, 1) (nT 8 (.lsub, 1) (nT 3 (.lushr, 1) (nT 1 (.lload_n 0, 1) (nT 0 (.lload_n 0, 1) nE nE) (nT 2 (.iconst 1, 1) nE nE)) (nT 7 (.land, 1) (nT 4 (.ldc2_w 314, 3) nE nE) nE)) (nT 11 (.ldc2_w 316, 3) (nT 10 (.lload_n 0, 1) (nT 9 (.lstore_n 0, 1) nE nE) nE) (nT 15 (.lload_n 0, 1) (nT 14 (.land, 1) nE nE) nE))) (nT 24 (.lload_n 0, 1) (nT 21 (.land, 1) (nT 18 (.ldc2_w 316, 3) (nT 17 (.lushr, 1) nE nE) nE) (nT 23 (.lstore_n 0, 1) (nT 22 (.ladd, 1) nE nE) nE)) (nT 27 (.lushr, 1) (nT 26 (.iconst 4, 1) (nT 25 (.lload_n 0, 1) nE nE) nE) (nT 29 (.ldc2_w 318, 3) (nT 28 (.ladd, 1) nE nE) nE)))) (nT 47 (.lstore_n 0, 1) (nT 40 (.lstore_n 0, 1) (nT 36 (.bipush 8, 2) (nT 34 (.lload_n 0, 1) (nT 33 (.lstore_n 0, 1) nE nE) (nT 35 (.lload_n 0, 1) nE nE)) (nT 39 (.ladd, 1) (nT 38 (.lushr, 1) nE nE) nE)) (nT 43 (.bipush 16, 2) (nT 42 (.lload_n 0, 1) (nT 41 (.lload_n 0, 1) nE nE) nE) (nT 46 (.ladd, 1) (nT 45 (.lushr, 1) nE nE) nE))) (nT 54 (.lstore_n 0, 1) (nT 50 (.bipush 32, 2) (nT 49 (.lload_n 0, 1) (nT 48 (.lload_n 0, 1) nE nE) nE) (nT 53 (.ladd, 1) (nT 52 (.lushr, 1) nE nE) nE)) (nT 57 (.bipush 127, 2) (nT 56 (.l2i, 1) (nT 55 (.lload_n 0, 1) nE nE) nE) (nT 60 (.ireturn, 1) (nT 59 (.iand, 1) nE nE) nE)))))
def i_X7_countWith : Nat → Option (Instr × Nat) := (nT 19 (.iload_n 2, 1) (nT 9 (.if_icmp .ge 25, 3) (nT 3 (.istore 4, 2) (nT 1 (.istore_n 3, 1) (nT 0 (.iconst 0, 1) nE nE) (nT 2 (.iconst 0, 1) nE nE)) (nT 7 (.bipush 64, 2) (nT 5 (.iload 4, 2) nE nE) nE)) (nT 14 (.iload 4, 2) (nT 13 (.lload_n 0, 1) (nT 12 (.iload_n 3, 1) nE nE) nE) (nT 17 (.iload 4, 2) (nT 16 (.lshr, 1) nE nE) nE))) (nT 26 (.iadd, 1) (nT 23 (.lconst 1, 1) (nT 21 (.i2l, 1) (nT 20 (.ishr, 1) nE nE) (nT 22 (.land, 1) nE nE)) (nT 25 (.l2i, 1) (nT 24 (.land, 1) nE nE) nE)) (nT 31 (.goto (-26), 3) (nT 28 (.iinc 4 1, 3) (nT 27 (.istore_n 3, 1) nE nE) nE) (nT 35 (.ireturn, 1) (nT 34 (.iload_n 3, 1) nE nE) nE))))
def i_X7_fitting : Nat → Option (Instr × Nat) := (nT 33 (.ishl, 1) (nT 14 (.istore 4, 2) (nT 8 (.invokevirtual 49, 3) (nT 4 (.ifCond .ne 7, 3) (nT 1 (.getfield 45, 3) (nT 0 (.aload_n 0, 1) nE nE) nE) (nT 7 (.aload_n 0, 1) nE nE)) (nT 12 (.lstore_n 2, 1) (nT 11 (.lconst 0, 1) nE nE) (nT 13 (.iconst 0, 1) nE nE))) (nT 25 (.iconst 1, 1) (nT 20 (.if_icmp .ge 40, 3) (nT 18 (.bipush 64, 2) (nT 16 (.iload 4, 2) nE nE) nE) (nT 23 (.iload 4, 2) nE nE)) (nT 27 (.getfield 33, 3) (nT 26 (.aload_n 0, 1) nE nE) (nT 30 (.getfield 52, 3) nE nE)))) (nT 49 (.iload 4, 2) (nT 41 (.invokevirtual 57, 3) (nT 38 (.iload 4, 2) (nT 37 (.aload_n 0, 1) (nT 34 (.if_icmp .ge 26, 3) nE nE) nE) (nT 40 (.iload_n 1, 1) nE nE)) (nT 47 (.lload_n 2, 1) (nT 44 (.ifCond .eq 10, 3) nE nE) (nT 48 (.lconst 1, 1) nE nE))) (nT 54 (.iinc 4 1, 3) (nT 52 (.lor, 1) (nT 51 (.lshl, 1) nE nE) (nT 53 (.lstore_n 2, 1) nE nE)) (nT 60 (.lload_n 2, 1) (nT 57 (.goto (-41), 3) nE nE) (nT 61 (.lreturn, 1) nE nE)))))
def i_X7_agrees : Nat → Option (Instr × Nat) := (nT 62 (.getfield 22, 3) (nT 32 (.iconst (-1), 1) (nT 16 (.iload_n 1, 1) (nT 4 (.getfield 41, 3) (nT 2 (.iload_n 3, 1) (nT 1 (.istore_n 3, 1) (nT 0 (.iconst 0, 1) nE nE) nE) (nT 3 (.aload_n 0, 1) nE nE)) (nT 11 (.bipush 30, 2) (nT 10 (.iload_n 3, 1) (nT 7 (.if_icmp .ge 121, 3) nE nE) nE) (nT 13 (.if_icmp .ge 115, 3) nE nE))) (nT 26 (.aload_n 0, 1) (nT 21 (.bipush 64, 2) (nT 20 (.iload_n 1, 1) (nT 17 (.ifCond .lt 111, 3) nE nE) nE) (nT 23 (.if_icmp .ge 105, 3) nE nE)) (nT 30 (.iload_n 3, 1) (nT 27 (.getfield 25, 3) nE nE) (nT 31 (.iaload, 1) nE nE)))) (nT 47 (.goto 4, 3) (nT 41 (.iaload, 1) (nT 37 (.getfield 25, 3) (nT 36 (.aload_n 0, 1) (nT 33 (.if_icmp .eq 17, 3) nE nE) nE) (nT 40 (.iload_n 3, 1) nE nE)) (nT 43 (.if_icmp .gt 7, 3) (nT 42 (.iload_n 2, 1) nE nE) (nT 46 (.iconst 1, 1) nE nE))) (nT 57 (.iload_n 3, 1) (nT 53 (.aload_n 0, 1) (nT 51 (.istore 4, 2) (nT 50 (.iconst 0, 1) nE nE) nE) (nT 54 (.getfield 11, 3) nE nE)) (nT 59 (.istore 5, 2) (nT 58 (.iaload, 1) nE nE) (nT 61 (.aload_n 0, 1) nE nE))))) (nT 98 (.getfield 15, 3) (nT 83 (.bipush 20, 2) (nT 71 (.iload 4, 2) (nT 67 (.iload_n 2, 1) (nT 66 (.iaload, 1) (nT 65 (.iload_n 3, 1) nE nE) nE) (nT 68 (.if_icmp .gt 54, 3) nE nE)) (nT 78 (.ifCond .lt 44, 3) (nT 76 (.iload 5, 2) (nT 73 (.ifCond .ne 49, 3) nE nE) nE) (nT 81 (.iload 5, 2) nE nE))) (nT 93 (.aaload, 1) (nT 89 (.getfield 30, 3) (nT 88 (.aload_n 0, 1) (nT 85 (.if_icmp .gt 37, 3) nE nE) nE) (nT 92 (.iload_n 1, 1) nE nE)) (nT 96 (.iaload, 1) (nT 94 (.iload 5, 2) nE nE) (nT 97 (.aload_n 0, 1) nE nE)))) (nT 115 (.iload_n 3, 1) (nT 107 (.goto 4, 3) (nT 103 (.if_icmp .lt 7, 3) (nT 102 (.iaload, 1) (nT 101 (.iload_n 3, 1) nE nE) nE) (nT 106 (.iconst 1, 1) nE nE)) (nT 111 (.aload_n 0, 1) (nT 110 (.iconst 0, 1) nE nE) (nT 112 (.getfield 18, 3) nE nE))) (nT 122 (.iinc 3 1, 3) (nT 120 (.iconst 0, 1) (nT 117 (.if_icmp .eq 5, 3) (nT 116 (.baload, 1) nE nE) nE) (nT 121 (.ireturn, 1) nE nE)) (nT 128 (.iconst 1, 1) (nT 125 (.goto (-123), 3) nE nE) (nT 129 (.ireturn, 1) nE nE))))))
def i_X7_fadeStrangeJars : Nat → Option (Instr × Nat) := (nT 41 (.iload_n 2, 1) (nT 21 (.aload_n 0, 1) (nT 9 (.iconst 1, 1) (nT 3 (.bipush 64, 2) (nT 1 (.istore_n 1, 1) (nT 0 (.iconst 0, 1) nE nE) (nT 2 (.iload_n 1, 1) nE nE)) (nT 8 (.iload_n 1, 1) (nT 5 (.if_icmp .ge 77, 3) nE nE) nE)) (nT 14 (.getfield 52, 3) (nT 11 (.getfield 33, 3) (nT 10 (.aload_n 0, 1) nE nE) nE) (nT 18 (.if_icmp .ge 64, 3) (nT 17 (.ishl, 1) nE nE) nE))) (nT 31 (.aload_n 0, 1) (nT 26 (.iconst 0, 1) (nT 25 (.iconst 0, 1) (nT 22 (.getfield 37, 3) nE nE) nE) (nT 28 (.invokevirtual 61, 3) (nT 27 (.iconst 0, 1) nE nE) nE)) (nT 36 (.invokevirtual 67, 3) (nT 35 (.iload_n 1, 1) (nT 32 (.getfield 37, 3) nE nE) nE) (nT 40 (.istore_n 2, 1) (nT 39 (.iconst 0, 1) nE nE) nE)))) (nT 62 (.aload_n 0, 1) (nT 52 (.aaload, 1) (nT 47 (.aload_n 0, 1) (nT 44 (.if_icmp .gt 32, 3) (nT 42 (.bipush 20, 2) nE nE) nE) (nT 51 (.iload_n 1, 1) (nT 48 (.getfield 30, 3) nE nE) nE)) (nT 55 (.getfield 37, 3) (nT 54 (.aload_n 0, 1) (nT 53 (.iload_n 2, 1) nE nE) nE) (nT 61 (.iastore, 1) (nT 58 (.getfield 71, 3) nE nE) nE))) (nT 76 (.iinc 1 1, 3) (nT 67 (.invokevirtual 74, 3) (nT 66 (.iconst 1, 1) (nT 63 (.getfield 37, 3) nE nE) nE) (nT 73 (.goto (-32), 3) (nT 70 (.iinc 2 1, 3) nE nE) nE)) (nT 83 (.iconst 1, 1) (nT 82 (.aload_n 0, 1) (nT 79 (.goto (-77), 3) nE nE) nE) (nT 87 (.return_, 1) (nT 84 (.putfield 45, 3) nE nE) nE)))))
def i_X10_rest : Nat → Option (Instr × Nat) := (nT 26 (.getfield 25, 3) (nT 12 (.aload_n 0, 1) (nT 4 (.if_icmp .ge 53, 3) (nT 2 (.iload_n 2, 1) (nT 1 (.istore_n 2, 1) (nT 0 (.iconst 0, 1) nE nE) nE) (nT 3 (.iload_n 1, 1) nE nE)) (nT 8 (.dup, 1) (nT 7 (.aload_n 0, 1) nE nE) (nT 9 (.getfield 21, 3) nE nE))) (nT 20 (.aload_n 0, 1) (nT 16 (.isub, 1) (nT 13 (.invokevirtual 76, 3) nE nE) (nT 17 (.putfield 21, 3) nE nE)) (nT 22 (.getfield 28, 3) (nT 21 (.dup, 1) nE nE) (nT 25 (.aload_n 0, 1) nE nE)))) (nT 42 (.dup, 1) (nT 36 (.iconst 1, 1) (nT 32 (.iconst 0, 1) (nT 29 (.ifCond .ne 7, 3) nE nE) (nT 33 (.goto 4, 3) nE nE)) (nT 38 (.putfield 28, 3) (nT 37 (.iadd, 1) nE nE) (nT 41 (.aload_n 0, 1) nE nE))) (nT 48 (.putfield 40, 3) (nT 46 (.iconst 1, 1) (nT 43 (.getfield 40, 3) nE nE) (nT 47 (.iadd, 1) nE nE)) (nT 54 (.goto (-52), 3) (nT 51 (.iinc 2 1, 3) nE nE) (nT 57 (.return_, 1) nE nE)))))
def i_X10_fading : Nat → Option (Instr × Nat) := (nT 48 (.aload_n 0, 1) (nT 21 (.getfield 25, 3) (nT 11 (.ifCond .ne 5, 3) (nT 4 (.ifCond .eq 10, 3) (nT 1 (.getfield 25, 3) (nT 0 (.aload_n 0, 1) nE nE) nE) (nT 8 (.getfield 21, 3) (nT 7 (.aload_n 0, 1) nE nE) nE)) (nT 16 (.aload_n 0, 1) (nT 15 (.ireturn, 1) (nT 14 (.iconst 0, 1) nE nE) nE) (nT 20 (.aload_n 0, 1) (nT 17 (.getfield 9, 3) nE nE) nE))) (nT 35 (.getfield 66, 3) (nT 28 (.aload_n 0, 1) (nT 27 (.istore_n 1, 1) (nT 24 (.invokevirtual 59, 3) nE nE) nE) (nT 32 (.getfield 62, 3) (nT 29 (.getfield 9, 3) nE nE) nE)) (nT 42 (.getfield 9, 3) (nT 41 (.aload_n 0, 1) (nT 38 (.ifCond .eq 37, 3) nE nE) nE) (nT 45 (.getfield 62, 3) nE nE)))) (nT 69 (.invokevirtual 72, 3) (nT 58 (.getfield 31, 3) (nT 53 (.getfield 28, 3) (nT 52 (.aload_n 0, 1) (nT 49 (.getfield 21, 3) nE nE) nE) (nT 57 (.aload_n 0, 1) (nT 56 (.iload_n 1, 1) nE nE) nE)) (nT 65 (.aload_n 0, 1) (nT 62 (.getfield 34, 3) (nT 61 (.aload_n 0, 1) nE nE) nE) (nT 66 (.getfield 40, 3) nE nE))) (nT 79 (.getfield 21, 3) (nT 76 (.istore_n 2, 1) (nT 75 (.iload_n 1, 1) (nT 72 (.goto 4, 3) nE nE) nE) (nT 78 (.aload_n 0, 1) (nT 77 (.iconst 0, 1) nE nE) nE)) (nT 86 (.invokestatic 56, 3) (nT 83 (.invokestatic 51, 3) (nT 82 (.iload_n 2, 1) nE nE) nE) (nT 89 (.ireturn, 1) nE nE)))))
def i_J9_min_7cf53 : Nat → Option (Instr × Nat) := (nT 5 (.iload_n 0, 1) (nT 1 (.iload_n 1, 1) (nT 0 (.iload_n 0, 1) nE nE) (nT 2 (.if_icmp .gt 7, 3) nE nE)) (nT 9 (.iload_n 1, 1) (nT 6 (.goto 4, 3) nE nE) (nT 10 (.ireturn, 1) nE nE)))
def i_X4_value : Nat → Option (Instr × Nat) := (nT 130 (.iload 11, 2) (nT 54 (.getfield 22, 3) (nT 26 (.iload 4, 2) (nT 13 (.iastore, 1) (nT 6 (.iastore, 1) (nT 4 (.iconst 0, 1) (nT 1 (.getfield 19, 3) (nT 0 (.aload_n 0, 1) nE nE) nE) (nT 5 (.iload_n 1, 1) nE nE)) (nT 11 (.iconst 1, 1) (nT 8 (.getfield 19, 3) (nT 7 (.aload_n 0, 1) nE nE) nE) (nT 12 (.iload_n 2, 1) nE nE))) (nT 20 (.iastore, 1) (nT 18 (.iconst 2, 1) (nT 15 (.getfield 19, 3) (nT 14 (.aload_n 0, 1) nE nE) nE) (nT 19 (.iload_n 3, 1) nE nE)) (nT 22 (.getfield 19, 3) (nT 21 (.aload_n 0, 1) nE nE) (nT 25 (.iconst 3, 1) nE nE)))) (nT 41 (.iconst 5, 1) (nT 34 (.iload 5, 2) (nT 30 (.getfield 19, 3) (nT 29 (.aload_n 0, 1) (nT 28 (.iastore, 1) nE nE) nE) (nT 33 (.iconst 4, 1) nE nE)) (nT 37 (.aload_n 0, 1) (nT 36 (.iastore, 1) nE nE) (nT 38 (.getfield 19, 3) nE nE))) (nT 48 (.iconst 0, 1) (nT 45 (.iconst 0, 1) (nT 44 (.iastore, 1) (nT 42 (.iload 6, 2) nE nE) nE) (nT 46 (.istore 7, 2) nE nE)) (nT 51 (.iload 8, 2) (nT 49 (.istore 8, 2) nE nE) (nT 53 (.aload_n 0, 1) nE nE))))) (nT 94 (.if_icmp .ge 7, 3) (nT 75 (.istore 9, 2) (nT 68 (.aload_n 0, 1) (nT 62 (.sipush 269, 3) (nT 60 (.iload 8, 2) (nT 57 (.if_icmp .ge 196, 3) nE nE) nE) (nT 65 (.if_icmp .ge 188, 3) nE nE)) (nT 72 (.iload 8, 2) (nT 69 (.getfield 9, 3) nE nE) (nT 74 (.iaload, 1) nE nE))) (nT 85 (.iload 10, 2) (nT 82 (.isub, 1) (nT 79 (.sipush 140, 3) (nT 77 (.iload 9, 2) nE nE) nE) (nT 83 (.istore 10, 2) nE nE)) (nT 90 (.iload 10, 2) (nT 87 (.ifCond .lt 14, 3) nE nE) (nT 92 (.bipush 6, 2) nE nE)))) (nT 112 (.if_icmp .ne 47, 3) (nT 104 (.iload 11, 2) (nT 101 (.iconst 0, 1) (nT 98 (.goto 4, 3) (nT 97 (.iconst 1, 1) nE nE) nE) (nT 102 (.istore 11, 2) nE nE)) (nT 109 (.iload 9, 2) (nT 106 (.ifCond .ne 9, 3) nE nE) (nT 111 (.iconst 3, 1) nE nE))) (nT 123 (.ireturn, 1) (nT 119 (.if_icmp .lt 5, 3) (nT 117 (.bipush 30, 2) (nT 115 (.iload 7, 2) nE nE) nE) (nT 122 (.iconst 0, 1) nE nE)) (nT 125 (.getfield 16, 3) (nT 124 (.aload_n 0, 1) nE nE) (nT 128 (.iload 7, 2) nE nE)))))) (nT 199 (.iconst 0, 1) (nT 169 (.iconst 1, 1) (nT 149 (.iload 8, 2) (nT 141 (.iaload, 1) (nT 136 (.getfield 19, 3) (nT 135 (.aload_n 0, 1) (nT 132 (.ifCond .eq 13, 3) nE nE) nE) (nT 139 (.iload 10, 2) nE nE)) (nT 145 (.aload_n 0, 1) (nT 142 (.goto 10, 3) nE nE) (nT 146 (.getfield 13, 3) nE nE))) (nT 159 (.iload 9, 2) (nT 153 (.iinc 7 1, 3) (nT 152 (.iastore, 1) (nT 151 (.iaload, 1) nE nE) nE) (nT 156 (.goto 91, 3) nE nE)) (nT 164 (.if_icmp .ne 40, 3) (nT 161 (.sipush 139, 3) nE nE) (nT 167 (.iload 7, 2) nE nE)))) (nT 183 (.aload_n 0, 1) (nT 176 (.getfield 16, 3) (nT 174 (.ireturn, 1) (nT 173 (.iconst 0, 1) (nT 170 (.if_icmp .ge 5, 3) nE nE) nE) (nT 175 (.aload_n 0, 1) nE nE)) (nT 181 (.iconst 1, 1) (nT 179 (.iload 7, 2) nE nE) (nT 182 (.isub, 1) nE nE))) (nT 191 (.iaload, 1) (nT 189 (.iconst 1, 1) (nT 187 (.iload 7, 2) (nT 184 (.getfield 16, 3) nE nE) nE) (nT 190 (.isub, 1) nE nE)) (nT 195 (.iconst 1, 1) (nT 192 (.ifCond .ne 7, 3) nE nE) (nT 196 (.goto 4, 3) nE nE))))) (nT 229 (.isub, 1) (nT 213 (.getfield 16, 3) (nT 207 (.if_icmp .ge 5, 3) (nT 204 (.iload 7, 2) (nT 201 (.goto 46, 3) (nT 200 (.iastore, 1) nE nE) nE) (nT 206 (.iconst 2, 1) nE nE)) (nT 211 (.ireturn, 1) (nT 210 (.iconst 0, 1) nE nE) (nT 212 (.aload_n 0, 1) nE nE))) (nT 222 (.aload_n 0, 1) (nT 219 (.isub, 1) (nT 218 (.iconst 2, 1) (nT 216 (.iload 7, 2) nE nE) nE) (nT 220 (.iload 9, 2) nE nE)) (nT 226 (.iload 7, 2) (nT 223 (.getfield 16, 3) nE nE) (nT 228 (.iconst 2, 1) nE nE)))) (nT 243 (.iastore, 1) (nT 237 (.iconst 1, 1) (nT 232 (.getfield 16, 3) (nT 231 (.aload_n 0, 1) (nT 230 (.iaload, 1) nE nE) nE) (nT 235 (.iload 7, 2) nE nE)) (nT 239 (.iaload, 1) (nT 238 (.isub, 1) nE nE) (nT 240 (.invokestatic 41, 3) nE nE))) (nT 254 (.getfield 16, 3) (nT 250 (.goto (-199), 3) (nT 247 (.iinc 8 1, 3) (nT 244 (.iinc 7 (-1), 3) nE nE) nE) (nT 253 (.aload_n 0, 1) nE nE)) (nT 258 (.iaload, 1) (nT 257 (.iconst 0, 1) nE nE) (nT 259 (.ireturn, 1) nE nE)))))))
def i_X4_combine : Nat → Option (Instr × Nat) := (nT 134 (.goto 4, 3) (nT 109 (.goto 6, 3) (nT 98 (.isub, 1) (nT 94 (.iadd, 1) (nT 92 (.iload_n 1, 1) (nT 1 (.lookupswitch 188 #[(37, 115), (42, 99), (43, 91), (45, 95), (47, 103), (60, 127), (61, 149), (62, 138), (137, 174), (138, 160)], 91) (nT 0 (.iload_n 0, 1) nE nE) nE) (nT 93 (.iload_n 2, 1) nE nE)) (nT 96 (.iload_n 1, 1) (nT 95 (.ireturn, 1) nE nE) (nT 97 (.iload_n 2, 1) nE nE))) (nT 103 (.ireturn, 1) (nT 101 (.iload_n 2, 1) (nT 100 (.iload_n 1, 1) (nT 99 (.ireturn, 1) nE nE) nE) (nT 102 (.imul, 1) nE nE)) (nT 105 (.ifCond .ne 7, 3) (nT 104 (.iload_n 2, 1) nE nE) (nT 108 (.iconst 0, 1) nE nE)))) (nT 124 (.iload_n 1, 1) (nT 116 (.iload_n 2, 1) (nT 114 (.idiv, 1) (nT 113 (.iload_n 2, 1) (nT 112 (.iload_n 1, 1) nE nE) nE) (nT 115 (.ireturn, 1) nE nE)) (nT 120 (.iconst 0, 1) (nT 117 (.ifCond .ne 7, 3) nE nE) (nT 121 (.goto 6, 3) nE nE))) (nT 128 (.iload_n 1, 1) (nT 126 (.irem, 1) (nT 125 (.iload_n 2, 1) nE nE) (nT 127 (.ireturn, 1) nE nE)) (nT 130 (.if_icmp .ge 7, 3) (nT 129 (.iload_n 2, 1) nE nE) (nT 133 (.iconst 1, 1) nE nE))))) (nT 162 (.ifCond .eq 11, 3) (nT 149 (.ireturn, 1) (nT 141 (.if_icmp .le 7, 3) (nT 139 (.iload_n 1, 1) (nT 138 (.ireturn, 1) (nT 137 (.iconst 0, 1) nE nE) nE) (nT 140 (.iload_n 2, 1) nE nE)) (nT 145 (.goto 4, 3) (nT 144 (.iconst 1, 1) nE nE) (nT 148 (.iconst 0, 1) nE nE))) (nT 156 (.goto 4, 3) (nT 152 (.if_icmp .ne 7, 3) (nT 151 (.iload_n 2, 1) (nT 150 (.iload_n 1, 1) nE nE) nE) (nT 155 (.iconst 1, 1) nE nE)) (nT 160 (.ireturn, 1) (nT 159 (.iconst 0, 1) nE nE) (nT 161 (.iload_n 1, 1) nE nE)))) (nT 179 (.iload_n 2, 1) (nT 173 (.iconst 0, 1) (nT 169 (.iconst 1, 1) (nT 166 (.ifCond .eq 7, 3) (nT 165 (.iload_n 2, 1) nE nE) nE) (nT 170 (.goto 4, 3) nE nE)) (nT 175 (.iload_n 1, 1) (nT 174 (.ireturn, 1) nE nE) (nT 176 (.ifCond .ne 7, 3) nE nE))) (nT 187 (.iconst 0, 1) (nT 183 (.iconst 1, 1) (nT 180 (.ifCond .eq 7, 3) nE nE) (nT 184 (.goto 4, 3) nE nE)) (nT 189 (.iconst 0, 1) (nT 188 (.ireturn, 1) nE nE) (nT 190 (.ireturn, 1) nE nE))))))
def i_X5_lossOf : Nat → Option (Instr × Nat) := (nT 4 (.iload_n 1, 1) (nT 1 (.getfield 15, 3) (nT 0 (.aload_n 0, 1) nE nE) nE) (nT 8 (.ireturn, 1) (nT 5 (.invokestatic 60, 3) nE nE) nE))
def i_X5_sumOf : Nat → Option (Instr × Nat) := (nT 14 (.iand, 1) (nT 6 (.arraylength, 1) (nT 3 (.istore_n 3, 1) (nT 1 (.istore_n 2, 1) (nT 0 (.iconst 0, 1) nE nE) (nT 2 (.iconst 0, 1) nE nE)) (nT 5 (.aload_n 0, 1) (nT 4 (.iload_n 3, 1) nE nE) nE)) (nT 11 (.iload_n 3, 1) (nT 10 (.iload_n 1, 1) (nT 7 (.if_icmp .ge 23, 3) nE nE) nE) (nT 13 (.iconst 1, 1) (nT 12 (.ishr, 1) nE nE) nE))) (nT 22 (.iadd, 1) (nT 19 (.aload_n 0, 1) (nT 18 (.iload_n 2, 1) (nT 15 (.ifCond .eq 9, 3) nE nE) nE) (nT 21 (.iaload, 1) (nT 20 (.iload_n 3, 1) nE nE) nE)) (nT 27 (.goto (-23), 3) (nT 24 (.iinc 3 1, 3) (nT 23 (.istore_n 2, 1) nE nE) nE) (nT 31 (.ireturn, 1) (nT 30 (.iload_n 2, 1) nE nE) nE))))
def i_X10_breathe : Nat → Option (Instr × Nat) := (nT 17 (.invokestatic 51, 3) (nT 8 (.aload_n 0, 1) (nT 4 (.aload_n 0, 1) (nT 1 (.sipush 999, 3) (nT 0 (.aload_n 0, 1) nE nE) nE) (nT 5 (.getfield 21, 3) nE nE)) (nT 13 (.invokevirtual 45, 3) (nT 12 (.iload_n 1, 1) (nT 9 (.getfield 9, 3) nE nE) nE) (nT 16 (.iadd, 1) nE nE))) (nT 28 (.iload_n 1, 1) (nT 24 (.dup, 1) (nT 23 (.aload_n 0, 1) (nT 20 (.putfield 21, 3) nE nE) nE) (nT 25 (.getfield 25, 3) nE nE)) (nT 30 (.putfield 25, 3) (nT 29 (.ior, 1) nE nE) (nT 33 (.return_, 1) nE nE))))
def i_X5_breathsOf : Nat → Option (Instr × Nat) := (nT 4 (.iload_n 1, 1) (nT 1 (.getfield 9, 3) (nT 0 (.aload_n 0, 1) nE nE) nE) (nT 8 (.ireturn, 1) (nT 5 (.invokestatic 60, 3) nE nE) nE))
def i_X10_startEmpty : Nat → Option (Instr × Nat) := (nT 15 (.aload_n 0, 1) (nT 6 (.iconst 0, 1) (nT 2 (.putfield 21, 3) (nT 1 (.iconst 0, 1) (nT 0 (.aload_n 0, 1) nE nE) nE) (nT 5 (.aload_n 0, 1) nE nE)) (nT 11 (.iconst 0, 1) (nT 10 (.aload_n 0, 1) (nT 7 (.putfield 25, 3) nE nE) nE) (nT 12 (.putfield 28, 3) nE nE))) (nT 22 (.putfield 34, 3) (nT 20 (.aload_n 0, 1) (nT 17 (.putfield 31, 3) (nT 16 (.iload_n 1, 1) nE nE) nE) (nT 21 (.iload_n 2, 1) nE nE)) (nT 27 (.putfield 40, 3) (nT 26 (.iload_n 3, 1) (nT 25 (.aload_n 0, 1) nE nE) nE) (nT 30 (.return_, 1) nE nE))))
def i_X12_sure : Nat → Option (Instr × Nat) := (nT 30 (.iload_n 1, 1) (nT 12 (.invokevirtual 532, 3) (nT 8 (.iconst (-1), 1) (nT 2 (.invokevirtual 410, 3) (nT 1 (.iload_n 1, 1) (nT 0 (.aload_n 0, 1) nE nE) nE) (nT 5 (.ifCond .ne 5, 3) nE nE)) (nT 10 (.aload_n 0, 1) (nT 9 (.ireturn, 1) nE nE) (nT 11 (.iload_n 2, 1) nE nE))) (nT 22 (.iconst (-1), 1) (nT 16 (.getfield 526, 3) (nT 15 (.aload_n 0, 1) nE nE) (nT 19 (.ifCond .ne 7, 3) nE nE)) (nT 26 (.aload_n 0, 1) (nT 23 (.goto 35, 3) nE nE) (nT 27 (.getfield 122, 3) nE nE)))) (nT 44 (.iaload, 1) (nT 36 (.goto 22, 3) (nT 32 (.ifCond .ne 7, 3) (nT 31 (.iaload, 1) nE nE) (nT 35 (.iconst 0, 1) nE nE)) (nT 40 (.getfield 122, 3) (nT 39 (.aload_n 0, 1) nE nE) (nT 43 (.iload_n 1, 1) nE nE))) (nT 52 (.iconst 1, 1) (nT 46 (.getfield 526, 3) (nT 45 (.aload_n 0, 1) nE nE) (nT 49 (.if_icmp .ne 7, 3) nE nE)) (nT 56 (.bipush (-2), 2) (nT 53 (.goto 5, 3) nE nE) (nT 58 (.ireturn, 1) nE nE)))))
def i_X12_isMember : Nat → Option (Instr × Nat) := (nT 6 (.iconst 1, 1) (nT 2 (.aload_n 0, 1) (nT 1 (.iconst 0, 1) (nT 0 (.iload_n 1, 1) nE nE) nE) (nT 3 (.invokevirtual 347, 3) nE nE)) (nT 8 (.invokestatic 350, 3) (nT 7 (.isub, 1) nE nE) (nT 11 (.ireturn, 1) nE nE)))
def i_X11_sure : Nat → Option (Instr × Nat) := (nT 5 (.iload_n 2, 1) (nT 1 (.getfield 96, 3) (nT 0 (.aload_n 0, 1) nE nE) (nT 4 (.iload_n 1, 1) nE nE)) (nT 9 (.ireturn, 1) (nT 6 (.invokevirtual 339, 3) nE nE) nE))
def i_X7_sureness : Nat → Option (Instr × Nat) := (nT 25 (.lload_n 3, 1) (nT 9 (.ifCond .eq 14, 3) (nT 5 (.lstore_n 3, 1) (nT 1 (.iload_n 2, 1) (nT 0 (.aload_n 0, 1) nE nE) (nT 2 (.invokevirtual 77, 3) nE nE)) (nT 7 (.lconst 0, 1) (nT 6 (.lload_n 3, 1) nE nE) (nT 8 (.lcmp, 1) nE nE))) (nT 17 (.invokevirtual 81, 3) (nT 13 (.getfield 33, 3) (nT 12 (.aload_n 0, 1) nE nE) (nT 16 (.iload_n 1, 1) nE nE)) (nT 23 (.iconst (-1), 1) (nT 20 (.ifCond .ne 5, 3) nE nE) (nT 24 (.ireturn, 1) nE nE)))) (nT 39 (.iload 5, 2) (nT 32 (.iload 5, 2) (nT 27 (.invokestatic 85, 3) (nT 26 (.iload_n 1, 1) nE nE) (nT 30 (.istore 5, 2) nE nE)) (nT 37 (.iconst 0, 1) (nT 34 (.ifCond .ne 5, 3) nE nE) (nT 38 (.ireturn, 1) nE nE))) (nT 48 (.iconst 1, 1) (nT 42 (.invokestatic 89, 3) (nT 41 (.lload_n 3, 1) nE nE) (nT 45 (.if_icmp .ne 7, 3) nE nE)) (nT 52 (.bipush (-2), 2) (nT 49 (.goto 5, 3) nE nE) (nT 54 (.ireturn, 1) nE nE)))))
def i_X5_hasMember : Nat → Option (Instr × Nat) := (nT 12 (.iload_n 1, 1) (nT 5 (.aload_n 0, 1) (nT 1 (.ifCond .lt 21, 3) (nT 0 (.iload_n 1, 1) nE nE) (nT 4 (.iload_n 1, 1) nE nE)) (nT 9 (.if_icmp .ge 13, 3) (nT 6 (.getfield 37, 3) nE nE) nE)) (nT 19 (.goto 4, 3) (nT 15 (.if_icmp .ge 7, 3) (nT 13 (.bipush 6, 2) nE nE) (nT 18 (.iconst 1, 1) nE nE)) (nT 23 (.ireturn, 1) (nT 22 (.iconst 0, 1) nE nE) nE)))
def i_X12_fits : Nat → Option (Instr × Nat) := (nT 5 (.aload_n 0, 1) (nT 1 (.iload_n 1, 1) (nT 0 (.aload_n 0, 1) nE nE) (nT 2 (.invokevirtual 532, 3) nE nE)) (nT 9 (.ireturn, 1) (nT 6 (.getfield 526, 3) nE nE) nE))
def i_X11_fits : Nat → Option (Instr × Nat) := (nT 5 (.invokevirtual 330, 3) (nT 1 (.getfield 96, 3) (nT 0 (.aload_n 0, 1) nE nE) (nT 4 (.iload_n 1, 1) nE nE)) (nT 11 (.ireturn, 1) (nT 8 (.invokestatic 334, 3) nE nE) nE))
def i_X12_later : Nat → Option (Instr × Nat) := (nT 23 (.iconst (-1), 1) (nT 11 (.aload_n 0, 1) (nT 2 (.sipush 1000, 3) (nT 1 (.iconst 0, 1) (nT 0 (.iload_n 1, 1) nE nE) nE) (nT 8 (.ifCond .eq 15, 3) (nT 5 (.invokestatic 350, 3) nE nE) nE)) (nT 16 (.iadd, 1) (nT 15 (.iload_n 1, 1) (nT 12 (.getfield 522, 3) nE nE) nE) (nT 20 (.if_icmp .le 5, 3) (nT 17 (.ldc_w 525, 3) nE nE) nE))) (nT 31 (.iadd, 1) (nT 26 (.dup, 1) (nT 25 (.aload_n 0, 1) (nT 24 (.ireturn, 1) nE nE) nE) (nT 30 (.iload_n 1, 1) (nT 27 (.getfield 522, 3) nE nE) nE)) (nT 36 (.getfield 522, 3) (nT 35 (.aload_n 0, 1) (nT 32 (.putfield 522, 3) nE nE) nE) (nT 39 (.ireturn, 1) nE nE))))
def i_X11_later : Nat → Option (Instr × Nat) := (nT 23 (.iconst (-1), 1) (nT 11 (.aload_n 0, 1) (nT 4 (.iload_n 1, 1) (nT 1 (.ifCond .lt 22, 3) (nT 0 (.iload_n 1, 1) nE nE) nE) (nT 8 (.if_icmp .gt 15, 3) (nT 5 (.sipush 1000, 3) nE nE) nE)) (nT 16 (.iadd, 1) (nT 15 (.iload_n 1, 1) (nT 12 (.getfield 319, 3) nE nE) nE) (nT 20 (.if_icmp .le 5, 3) (nT 17 (.ldc_w 329, 3) nE nE) nE))) (nT 31 (.iadd, 1) (nT 26 (.dup, 1) (nT 25 (.aload_n 0, 1) (nT 24 (.ireturn, 1) nE nE) nE) (nT 30 (.iload_n 1, 1) (nT 27 (.getfield 319, 3) nE nE) nE)) (nT 36 (.getfield 319, 3) (nT 35 (.aload_n 0, 1) (nT 32 (.putfield 319, 3) nE nE) nE) (nT 39 (.ireturn, 1) nE nE))))
def i_X12_untell : Nat → Option (Instr × Nat) := (nT 19 (.iaload, 1) (nT 7 (.isub, 1) (nT 2 (.aload_n 0, 1) (nT 1 (.iconst 0, 1) (nT 0 (.iload_n 1, 1) nE nE) nE) (nT 6 (.iconst 1, 1) (nT 3 (.getfield 371, 3) nE nE) nE)) (nT 14 (.aload_n 0, 1) (nT 11 (.ifCond .eq 12, 3) (nT 8 (.invokestatic 350, 3) nE nE) nE) (nT 18 (.iload_n 1, 1) (nT 15 (.getfield 119, 3) nE nE) nE))) (nT 29 (.iload_n 1, 1) (nT 24 (.ireturn, 1) (nT 23 (.iconst 0, 1) (nT 20 (.ifCond .lt 5, 3) nE nE) nE) (nT 26 (.getfield 119, 3) (nT 25 (.aload_n 0, 1) nE nE) nE)) (nT 34 (.iastore, 1) (nT 31 (.getfield 522, 3) (nT 30 (.aload_n 0, 1) nE nE) nE) (nT 36 (.ireturn, 1) (nT 35 (.iconst 1, 1) nE nE) nE))))
def i_X11_untell : Nat → Option (Instr × Nat) := (nT 5 (.aload_n 0, 1) (nT 1 (.getfield 96, 3) (nT 0 (.aload_n 0, 1) nE nE) (nT 4 (.iload_n 1, 1) nE nE)) (nT 9 (.invokevirtual 326, 3) (nT 6 (.getfield 319, 3) nE nE) (nT 12 (.ireturn, 1) nE nE)))
def i_X7_takeBack : Nat → Option (Instr × Nat) := (nT 23 (.iaload, 1) (nT 12 (.iload_n 1, 1) (nT 5 (.aload_n 0, 1) (nT 1 (.ifCond .lt 27, 3) (nT 0 (.iload_n 1, 1) nE nE) (nT 4 (.iload_n 1, 1) nE nE)) (nT 9 (.if_icmp .ge 19, 3) (nT 6 (.getfield 41, 3) nE nE) nE)) (nT 18 (.aload_n 0, 1) (nT 15 (.if_icmp .ge 13, 3) (nT 13 (.bipush 30, 2) nE nE) nE) (nT 22 (.iload_n 1, 1) (nT 19 (.getfield 25, 3) nE nE) nE))) (nT 31 (.getfield 25, 3) (nT 28 (.iconst 0, 1) (nT 25 (.if_icmp .eq 5, 3) (nT 24 (.iconst (-1), 1) nE nE) nE) (nT 30 (.aload_n 0, 1) (nT 29 (.ireturn, 1) nE nE) nE)) (nT 36 (.iastore, 1) (nT 35 (.iload_n 2, 1) (nT 34 (.iload_n 1, 1) nE nE) nE) (nT 38 (.ireturn, 1) (nT 37 (.iconst 1, 1) nE nE) nE))))
def i_X12_sniffed : Nat → Option (Instr × Nat) := (nT 57 (.getfield 371, 3) (nT 31 (.ireturn, 1) (nT 12 (.sipush 999, 3) (nT 4 (.invokestatic 350, 3) (nT 1 (.iconst 0, 1) (nT 0 (.iload_n 1, 1) nE nE) (nT 2 (.bipush 20, 2) nE nE)) (nT 10 (.iload_n 2, 1) (nT 7 (.ifCond .eq 23, 3) nE nE) (nT 11 (.iconst 0, 1) nE nE))) (nT 22 (.getfield 371, 3) (nT 18 (.ifCond .eq 12, 3) (nT 15 (.invokestatic 350, 3) nE nE) (nT 21 (.aload_n 0, 1) nE nE)) (nT 27 (.if_icmp .ne 5, 3) (nT 25 (.bipush 30, 2) nE nE) (nT 30 (.iconst (-1), 1) nE nE)))) (nT 43 (.getfield 110, 3) (nT 37 (.getfield 371, 3) (nT 33 (.getfield 107, 3) (nT 32 (.aload_n 0, 1) nE nE) (nT 36 (.aload_n 0, 1) nE nE)) (nT 41 (.iastore, 1) (nT 40 (.iload_n 1, 1) nE nE) (nT 42 (.aload_n 0, 1) nE nE))) (nT 51 (.iastore, 1) (nT 47 (.getfield 371, 3) (nT 46 (.aload_n 0, 1) nE nE) (nT 50 (.iload_n 2, 1) nE nE)) (nT 53 (.getfield 113, 3) (nT 52 (.aload_n 0, 1) nE nE) (nT 56 (.aload_n 0, 1) nE nE))))) (nT 87 (.aload_n 0, 1) (nT 71 (.getfield 116, 3) (nT 65 (.goto 4, 3) (nT 61 (.ifCond .eq 7, 3) (nT 60 (.iload_n 3, 1) nE nE) (nT 64 (.iconst 1, 1) nE nE)) (nT 69 (.iastore, 1) (nT 68 (.iconst 0, 1) nE nE) (nT 70 (.aload_n 0, 1) nE nE))) (nT 79 (.getfield 522, 3) (nT 75 (.getfield 371, 3) (nT 74 (.aload_n 0, 1) nE nE) (nT 78 (.aload_n 0, 1) nE nE)) (nT 83 (.aload_n 0, 1) (nT 82 (.iastore, 1) nE nE) (nT 84 (.getfield 119, 3) nE nE)))) (nT 99 (.iadd, 1) (nT 93 (.aload_n 0, 1) (nT 91 (.iconst (-1), 1) (nT 88 (.getfield 371, 3) nE nE) (nT 92 (.iastore, 1) nE nE)) (nT 95 (.getfield 371, 3) (nT 94 (.dup, 1) nE nE) (nT 98 (.iconst 1, 1) nE nE))) (nT 107 (.iconst 1, 1) (nT 103 (.aload_n 0, 1) (nT 100 (.putfield 371, 3) nE nE) (nT 104 (.getfield 371, 3) nE nE)) (nT 109 (.ireturn, 1) (nT 108 (.isub, 1) nE nE) nE)))))
def i_X11_sniffed : Nat → Option (Instr × Nat) := (nT 6 (.iload_n 3, 1) (nT 4 (.iload_n 1, 1) (nT 1 (.getfield 96, 3) (nT 0 (.aload_n 0, 1) nE nE) nE) (nT 5 (.iload_n 2, 1) nE nE)) (nT 11 (.invokevirtual 322, 3) (nT 8 (.getfield 319, 3) (nT 7 (.aload_n 0, 1) nE nE) nE) (nT 14 (.ireturn, 1) nE nE)))
def i_X7_tell : Nat → Option (Instr × Nat) := (nT 58 (.iastore, 1) (nT 32 (.bipush 30, 2) (nT 14 (.iload_n 2, 1) (nT 5 (.bipush 20, 2) (nT 1 (.ifCond .lt 36, 3) (nT 0 (.iload_n 1, 1) nE nE) (nT 4 (.iload_n 1, 1) nE nE)) (nT 10 (.iload_n 2, 1) (nT 7 (.if_icmp .gt 30, 3) nE nE) (nT 11 (.ifCond .lt 26, 3) nE nE))) (nT 22 (.getfield 41, 3) (nT 18 (.if_icmp .gt 19, 3) (nT 15 (.sipush 999, 3) nE nE) (nT 21 (.aload_n 0, 1) nE nE)) (nT 28 (.aload_n 0, 1) (nT 25 (.ifCond .lt 12, 3) nE nE) (nT 29 (.getfield 41, 3) nE nE)))) (nT 47 (.iload_n 1, 1) (nT 39 (.aload_n 0, 1) (nT 37 (.iconst (-1), 1) (nT 34 (.if_icmp .lt 5, 3) nE nE) (nT 38 (.ireturn, 1) nE nE)) (nT 43 (.aload_n 0, 1) (nT 40 (.getfield 11, 3) nE nE) (nT 44 (.getfield 41, 3) nE nE))) (nT 53 (.aload_n 0, 1) (nT 49 (.aload_n 0, 1) (nT 48 (.iastore, 1) nE nE) (nT 50 (.getfield 15, 3) nE nE)) (nT 57 (.iload_n 2, 1) (nT 54 (.getfield 41, 3) nE nE) nE)))) (nT 84 (.aload_n 0, 1) (nT 70 (.getfield 22, 3) (nT 64 (.getfield 41, 3) (nT 60 (.getfield 18, 3) (nT 59 (.aload_n 0, 1) nE nE) (nT 63 (.aload_n 0, 1) nE nE)) (nT 68 (.bastore, 1) (nT 67 (.iload_n 3, 1) nE nE) (nT 69 (.aload_n 0, 1) nE nE))) (nT 79 (.iastore, 1) (nT 74 (.getfield 41, 3) (nT 73 (.aload_n 0, 1) nE nE) (nT 77 (.iload 4, 2) nE nE)) (nT 81 (.getfield 25, 3) (nT 80 (.aload_n 0, 1) nE nE) nE))) (nT 96 (.iadd, 1) (nT 90 (.aload_n 0, 1) (nT 88 (.iconst (-1), 1) (nT 85 (.getfield 41, 3) nE nE) (nT 89 (.iastore, 1) nE nE)) (nT 92 (.getfield 41, 3) (nT 91 (.dup, 1) nE nE) (nT 95 (.iconst 1, 1) nE nE))) (nT 104 (.iconst 1, 1) (nT 100 (.aload_n 0, 1) (nT 97 (.putfield 41, 3) nE nE) (nT 101 (.getfield 41, 3) nE nE)) (nT 106 (.ireturn, 1) (nT 105 (.isub, 1) nE nE) nE)))))
def i_X12_lies : Nat → Option (Instr × Nat) := (nT 11 (.ifCond .eq 12, 3) (nT 3 (.getfield 374, 3) (nT 1 (.iconst 0, 1) (nT 0 (.iload_n 1, 1) nE nE) (nT 2 (.aload_n 0, 1) nE nE)) (nT 7 (.isub, 1) (nT 6 (.iconst 1, 1) nE nE) (nT 8 (.invokestatic 350, 3) nE nE))) (nT 19 (.iaload, 1) (nT 15 (.getfield 101, 3) (nT 14 (.aload_n 0, 1) nE nE) (nT 18 (.iload_n 1, 1) nE nE)) (nT 23 (.bipush (-2), 2) (nT 20 (.goto 5, 3) nE nE) (nT 25 (.ireturn, 1) nE nE))))
def i_X11_lies : Nat → Option (Instr × Nat) := (nT 4 (.iload_n 1, 1) (nT 1 (.getfield 87, 3) (nT 0 (.aload_n 0, 1) nE nE) nE) (nT 8 (.ireturn, 1) (nT 5 (.invokevirtual 316, 3) nE nE) nE))
def i_X3_lyingAt : Nat → Option (Instr × Nat) := (nT 15 (.if_icmp .ge 12, 3) (nT 6 (.getfield 56, 3) (nT 4 (.iload_n 1, 1) (nT 1 (.ifCond .lt 26, 3) (nT 0 (.iload_n 1, 1) nE nE) nE) (nT 5 (.aload_n 0, 1) nE nE)) (nT 12 (.iload_n 1, 1) (nT 9 (.if_icmp .ge 18, 3) nE nE) (nT 13 (.bipush 6, 2) nE nE))) (nT 23 (.iaload, 1) (nT 19 (.getfield 9, 3) (nT 18 (.aload_n 0, 1) nE nE) (nT 22 (.iload_n 1, 1) nE nE)) (nT 27 (.bipush (-2), 2) (nT 24 (.goto 5, 3) nE nE) (nT 29 (.ireturn, 1) nE nE))))
def i_X12_longest : Nat → Option (Instr × Nat) := (nT 36 (.invokevirtual 473, 3) (nT 16 (.iconst 0, 1) (nT 10 (.iconst (-1), 1) (nT 2 (.bipush 60, 2) (nT 1 (.iconst 0, 1) (nT 0 (.iload_n 1, 1) nE nE) nE) (nT 7 (.ifCond .ne 5, 3) (nT 4 (.invokestatic 350, 3) nE nE) nE)) (nT 13 (.istore_n 2, 1) (nT 12 (.iconst (-1), 1) (nT 11 (.ireturn, 1) nE nE) nE) (nT 15 (.istore_n 3, 1) (nT 14 (.iconst (-1), 1) nE nE) nE))) (nT 28 (.aload_n 0, 1) (nT 21 (.aload_n 0, 1) (nT 19 (.iload 4, 2) (nT 17 (.istore 4, 2) nE nE) nE) (nT 25 (.if_icmp .ge 52, 3) (nT 22 (.invokevirtual 347, 3) nE nE) nE)) (nT 33 (.bipush 31, 2) (nT 30 (.getfield 89, 3) (nT 29 (.aload_n 0, 1) nE nE) nE) (nT 35 (.iaload, 1) nE nE)))) (nT 57 (.if_icmp .gt 6, 3) (nT 47 (.aload_n 0, 1) (nT 41 (.iload 4, 2) (nT 40 (.iconst 1, 1) (nT 39 (.aload_n 0, 1) nE nE) nE) (nT 44 (.invokevirtual 407, 3) (nT 43 (.ishl, 1) nE nE) nE)) (nT 52 (.aload_n 0, 1) (nT 49 (.invokevirtual 389, 3) (nT 48 (.iload_n 1, 1) nE nE) nE) (nT 56 (.iload_n 3, 1) (nT 53 (.getfield 319, 3) nE nE) nE))) (nT 70 (.istore_n 3, 1) (nT 65 (.istore_n 2, 1) (nT 63 (.iload 4, 2) (nT 60 (.goto 11, 3) nE nE) nE) (nT 67 (.getfield 319, 3) (nT 66 (.aload_n 0, 1) nE nE) nE)) (nT 77 (.iload_n 2, 1) (nT 74 (.goto (-55), 3) (nT 71 (.iinc 4 1, 3) nE nE) nE) (nT 78 (.ireturn, 1) nE nE)))))
def i_X11_longest : Nat → Option (Instr × Nat) := (nT 4 (.iload_n 1, 1) (nT 1 (.getfield 71, 3) (nT 0 (.aload_n 0, 1) nE nE) nE) (nT 8 (.ireturn, 1) (nT 5 (.invokevirtual 313, 3) nE nE) nE))
def i_X1_longestLasting : Nat → Option (Instr × Nat) := (nT 48 (.getfield 15, 3) (nT 21 (.iconst 0, 1) (nT 8 (.iload_n 1, 1) (nT 3 (.istore_n 3, 1) (nT 1 (.istore_n 2, 1) (nT 0 (.iconst (-1), 1) nE nE) (nT 2 (.iconst (-1), 1) nE nE)) (nT 5 (.ifCond .lt 13, 3) (nT 4 (.iload_n 1, 1) nE nE) nE)) (nT 15 (.goto 4, 3) (nT 11 (.if_icmp .gt 7, 3) (nT 9 (.bipush 60, 2) nE nE) (nT 14 (.iconst 1, 1) nE nE)) (nT 19 (.istore 4, 2) (nT 18 (.iconst 0, 1) nE nE) nE))) (nT 36 (.iload 4, 2) (nT 27 (.getfield 9, 3) (nT 24 (.iload 5, 2) (nT 22 (.istore 5, 2) nE nE) (nT 26 (.aload_n 0, 1) nE nE)) (nT 33 (.if_icmp .ge 71, 3) (nT 30 (.getfield 42, 3) nE nE) nE)) (nT 45 (.iconst 0, 1) (nT 41 (.aload_n 0, 1) (nT 38 (.ifCond .eq 66, 3) nE nE) (nT 42 (.getfield 19, 3) nE nE)) (nT 47 (.aload_n 0, 1) (nT 46 (.iconst 0, 1) nE nE) nE)))) (nT 77 (.getfield 19, 3) (nT 64 (.ishl, 1) (nT 58 (.getfield 19, 3) (nT 54 (.invokevirtual 127, 3) (nT 51 (.getfield 65, 3) nE nE) (nT 57 (.aload_n 0, 1) nE nE)) (nT 62 (.iload 5, 2) (nT 61 (.iconst 1, 1) nE nE) nE)) (nT 72 (.iload_n 1, 1) (nT 68 (.aload_n 0, 1) (nT 65 (.invokevirtual 82, 3) nE nE) (nT 69 (.getfield 19, 3) nE nE)) (nT 76 (.aload_n 0, 1) (nT 73 (.invokevirtual 78, 3) nE nE) nE))) (nT 94 (.istore_n 3, 1) (nT 87 (.aload_n 0, 1) (nT 83 (.iload_n 3, 1) (nT 80 (.getfield 88, 3) nE nE) (nT 84 (.if_icmp .le 14, 3) nE nE)) (nT 91 (.getfield 88, 3) (nT 88 (.getfield 19, 3) nE nE) nE)) (nT 101 (.goto (-77), 3) (nT 97 (.istore_n 2, 1) (nT 95 (.iload 5, 2) nE nE) (nT 98 (.iinc 5 1, 3) nE nE)) (nT 105 (.ireturn, 1) (nT 104 (.iload_n 2, 1) nE nE) nE)))))
def i_X12_brittle : Nat → Option (Instr × Nat) := (nT 26 (.iload_n 2, 1) (nT 10 (.getfield 251, 3) (nT 4 (.iload_n 2, 1) (nT 2 (.iconst 0, 1) (nT 1 (.istore_n 1, 1) (nT 0 (.iconst 0, 1) nE nE) nE) (nT 3 (.istore_n 2, 1) nE nE)) (nT 6 (.getfield 24, 3) (nT 5 (.aload_n 0, 1) nE nE) (nT 9 (.aload_n 0, 1) nE nE))) (nT 18 (.iload_n 2, 1) (nT 14 (.if_icmp .ge 37, 3) (nT 13 (.iaload, 1) nE nE) (nT 17 (.aload_n 0, 1) nE nE)) (nT 22 (.ifCond .eq 23, 3) (nT 19 (.invokevirtual 425, 3) nE nE) (nT 25 (.aload_n 0, 1) nE nE)))) (nT 41 (.iload_n 2, 1) (nT 33 (.invokevirtual 404, 3) (nT 31 (.aload_n 0, 1) (nT 28 (.invokevirtual 461, 3) (nT 27 (.iconst 1, 1) nE nE) nE) (nT 32 (.iload_n 2, 1) nE nE)) (nT 39 (.iload_n 1, 1) (nT 36 (.if_icmp .ge 9, 3) nE nE) (nT 40 (.iconst 1, 1) nE nE))) (nT 45 (.iinc 2 1, 3) (nT 43 (.ior, 1) (nT 42 (.ishl, 1) nE nE) (nT 44 (.istore_n 1, 1) nE nE)) (nT 51 (.iload_n 1, 1) (nT 48 (.goto (-44), 3) nE nE) (nT 52 (.ireturn, 1) nE nE)))))
def i_X12_needOf : Nat → Option (Instr × Nat) := (nT 9 (.imul, 1) (nT 4 (.iconst 5, 1) (nT 1 (.getfield 42, 3) (nT 0 (.aload_n 0, 1) nE nE) nE) (nT 6 (.getfield 251, 3) (nT 5 (.aload_n 0, 1) nE nE) nE)) (nT 12 (.iaload, 1) (nT 11 (.iadd, 1) (nT 10 (.iload_n 1, 1) nE nE) nE) (nT 13 (.ireturn, 1) nE nE)))
def i_X12_openedShaken : Nat → Option (Instr × Nat) := (nT 10 (.iload_n 2, 1) (nT 5 (.aload_n 0, 1) (nT 1 (.iload_n 1, 1) (nT 0 (.aload_n 0, 1) nE nE) (nT 2 (.invokevirtual 392, 3) nE nE)) (nT 7 (.getfield 334, 3) (nT 6 (.dup, 1) nE nE) nE)) (nT 16 (.iload_n 1, 1) (nT 12 (.putfield 334, 3) (nT 11 (.iadd, 1) nE nE) (nT 15 (.aload_n 0, 1) nE nE)) (nT 20 (.ireturn, 1) (nT 17 (.invokevirtual 395, 3) nE nE) nE)))
def i_X12_onDay : Nat → Option (Instr × Nat) := (nT 7 (.getfield 337, 3) (nT 2 (.iload_n 1, 1) (nT 1 (.aload_n 0, 1) (nT 0 (.aload_n 0, 1) nE nE) nE) (nT 6 (.aload_n 0, 1) (nT 3 (.invokevirtual 386, 3) nE nE) nE)) (nT 14 (.aload_n 0, 1) (nT 11 (.invokevirtual 389, 3) (nT 10 (.isub, 1) nE nE) nE) (nT 18 (.ireturn, 1) (nT 15 (.getfield 319, 3) nE nE) nE)))
def i_X12_dayOf : Nat → Option (Instr × Nat) := (nT 9 (.imul, 1) (nT 4 (.iconst 5, 1) (nT 1 (.getfield 45, 3) (nT 0 (.aload_n 0, 1) nE nE) nE) (nT 6 (.getfield 251, 3) (nT 5 (.aload_n 0, 1) nE nE) nE)) (nT 12 (.iaload, 1) (nT 11 (.iadd, 1) (nT 10 (.iload_n 1, 1) nE nE) nE) (nT 13 (.ireturn, 1) nE nE)))
def i_X12_layAside : Nat → Option (Instr × Nat) := (nT 34 (.putfield 322, 3) (nT 17 (.iconst 5, 1) (nT 7 (.iadd, 1) (nT 2 (.getfield 89, 3) (nT 1 (.aload_n 0, 1) (nT 0 (.aload_n 0, 1) nE nE) nE) (nT 6 (.iload_n 1, 1) (nT 5 (.iconst 0, 1) nE nE) nE)) (nT 12 (.aload_n 0, 1) (nT 9 (.putfield 319, 3) (nT 8 (.iaload, 1) nE nE) nE) (nT 14 (.getfield 89, 3) (nT 13 (.aload_n 0, 1) nE nE) nE))) (nT 25 (.aload_n 0, 1) (nT 20 (.iaload, 1) (nT 19 (.iadd, 1) (nT 18 (.iload_n 1, 1) nE nE) nE) (nT 24 (.aload_n 0, 1) (nT 21 (.putfield 325, 3) nE nE) nE)) (nT 31 (.iload_n 1, 1) (nT 29 (.bipush 10, 2) (nT 26 (.getfield 89, 3) nE nE) nE) (nT 33 (.iaload, 1) (nT 32 (.iadd, 1) nE nE) nE)))) (nT 55 (.bipush 20, 2) (nT 45 (.iadd, 1) (nT 39 (.getfield 89, 3) (nT 38 (.aload_n 0, 1) (nT 37 (.aload_n 0, 1) nE nE) nE) (nT 44 (.iload_n 1, 1) (nT 42 (.bipush 15, 2) nE nE) nE)) (nT 50 (.aload_n 0, 1) (nT 47 (.putfield 331, 3) (nT 46 (.iaload, 1) nE nE) nE) (nT 52 (.getfield 89, 3) (nT 51 (.aload_n 0, 1) nE nE) nE))) (nT 64 (.aload_n 0, 1) (nT 59 (.iaload, 1) (nT 58 (.iadd, 1) (nT 57 (.iload_n 1, 1) nE nE) nE) (nT 63 (.aload_n 0, 1) (nT 60 (.putfield 334, 3) nE nE) nE)) (nT 70 (.iaload, 1) (nT 68 (.bipush 31, 2) (nT 65 (.getfield 89, 3) nE nE) nE) (nT 74 (.return_, 1) (nT 71 (.putfield 337, 3) nE nE) nE)))))
def i_X12_wouldPass : Nat → Option (Instr × Nat) := (nT 13 (.aload_n 0, 1) (nT 5 (.ifCond .eq 20, 3) (nT 1 (.iload_n 1, 1) (nT 0 (.aload_n 0, 1) nE nE) (nT 2 (.invokevirtual 398, 3) nE nE)) (nT 9 (.iload_n 1, 1) (nT 8 (.aload_n 0, 1) nE nE) (nT 10 (.invokevirtual 401, 3) nE nE))) (nT 21 (.iconst 1, 1) (nT 15 (.invokevirtual 404, 3) (nT 14 (.iload_n 1, 1) nE nE) (nT 18 (.if_icmp .lt 7, 3) nE nE)) (nT 25 (.iconst 0, 1) (nT 22 (.goto 4, 3) nE nE) (nT 26 (.ireturn, 1) nE nE))))
end
section
def i_X12_openedAt : Nat → Option (Instr × Nat) := (nT 5 (.aload_n 0, 1) (nT 1 (.iload_n 1, 1) (nT 0 (.aload_n 0, 1) nE nE) (nT 2 (.invokevirtual 392, 3) nE nE)) (nT 7 (.invokevirtual 395, 3) (nT 6 (.iload_n 1, 1) nE nE) (nT 10 (.ireturn, 1) nE nE)))
def i_X12_isLeft : Nat → Option (Instr × Nat) := (nT 14 (.iload_n 1, 1) (nT 5 (.ifCond .eq 19, 3) (nT 1 (.iload_n 1, 1) (nT 0 (.aload_n 0, 1) nE nE) (nT 2 (.invokevirtual 354, 3) nE nE)) (nT 9 (.getfield 89, 3) (nT 8 (.aload_n 0, 1) nE nE) (nT 12 (.bipush 25, 2) nE nE))) (nT 20 (.iconst 1, 1) (nT 16 (.iaload, 1) (nT 15 (.iadd, 1) nE nE) (nT 17 (.ifCond .ne 7, 3) nE nE)) (nT 24 (.iconst 0, 1) (nT 21 (.goto 4, 3) nE nE) (nT 25 (.ireturn, 1) nE nE))))
def i_X12_isBill : Nat → Option (Instr × Nat) := (nT 7 (.getfield 251, 3) (nT 2 (.aload_n 0, 1) (nT 1 (.iconst 0, 1) (nT 0 (.iload_n 1, 1) nE nE) nE) (nT 6 (.aload_n 0, 1) (nT 3 (.getfield 24, 3) nE nE) nE)) (nT 12 (.isub, 1) (nT 11 (.iconst 1, 1) (nT 10 (.iaload, 1) nE nE) nE) (nT 16 (.ireturn, 1) (nT 13 (.invokestatic 350, 3) nE nE) nE)))
def i_X11_brittle : Nat → Option (Instr × Nat) := (nT 4 (.invokevirtual 310, 3) (nT 1 (.getfield 71, 3) (nT 0 (.aload_n 0, 1) nE nE) nE) (nT 7 (.ireturn, 1) nE nE))
def i_X1_brittleBills : Nat → Option (Instr × Nat) := (nT 26 (.invokevirtual 118, 3) (nT 12 (.if_icmp .ge 40, 3) (nT 4 (.iload_n 2, 1) (nT 2 (.iconst 0, 1) (nT 1 (.istore_n 1, 1) (nT 0 (.iconst 0, 1) nE nE) nE) (nT 3 (.istore_n 2, 1) nE nE)) (nT 6 (.getfield 9, 3) (nT 5 (.aload_n 0, 1) nE nE) (nT 9 (.getfield 55, 3) nE nE))) (nT 20 (.ifCond .eq 26, 3) (nT 16 (.iload_n 2, 1) (nT 15 (.aload_n 0, 1) nE nE) (nT 17 (.invokevirtual 104, 3) nE nE)) (nT 24 (.iload_n 2, 1) (nT 23 (.aload_n 0, 1) nE nE) (nT 25 (.iconst 1, 1) nE nE)))) (nT 42 (.iload_n 2, 1) (nT 34 (.invokevirtual 101, 3) (nT 30 (.getfield 9, 3) (nT 29 (.aload_n 0, 1) nE nE) (nT 33 (.iload_n 2, 1) nE nE)) (nT 40 (.iload_n 1, 1) (nT 37 (.if_icmp .ge 9, 3) nE nE) (nT 41 (.iconst 1, 1) nE nE))) (nT 46 (.iinc 2 1, 3) (nT 44 (.ior, 1) (nT 43 (.ishl, 1) nE nE) (nT 45 (.istore_n 1, 1) nE nE)) (nT 52 (.iload_n 1, 1) (nT 49 (.goto (-45), 3) nE nE) (nT 53 (.ireturn, 1) nE nE)))))
def i_X5_needsOf : Nat → Option (Instr × Nat) := (nT 9 (.getfield 18, 3) (nT 2 (.invokevirtual 64, 3) (nT 1 (.iload_n 1, 1) (nT 0 (.aload_n 0, 1) nE nE) nE) (nT 8 (.aload_n 0, 1) (nT 5 (.ifCond .eq 12, 3) nE nE) nE)) (nT 14 (.goto 4, 3) (nT 13 (.iaload, 1) (nT 12 (.iload_n 1, 1) nE nE) nE) (nT 18 (.ireturn, 1) (nT 17 (.iconst 0, 1) nE nE) nE)))
def i_X5_hasBill : Nat → Option (Instr × Nat) := (nT 12 (.iload_n 1, 1) (nT 5 (.aload_n 0, 1) (nT 1 (.ifCond .lt 20, 3) (nT 0 (.iload_n 1, 1) nE nE) (nT 4 (.iload_n 1, 1) nE nE)) (nT 9 (.if_icmp .ge 12, 3) (nT 6 (.getfield 41, 3) nE nE) nE)) (nT 18 (.goto 4, 3) (nT 14 (.if_icmp .ge 7, 3) (nT 13 (.iconst 5, 1) nE nE) (nT 17 (.iconst 1, 1) nE nE)) (nT 22 (.ireturn, 1) (nT 21 (.iconst 0, 1) nE nE) nE)))
def i_X1_volumeByShaking : Nat → Option (Instr × Nat) := (nT 21 (.iadd, 1) (nT 9 (.invokevirtual 68, 3) (nT 4 (.aload_n 0, 1) (nT 1 (.getfield 19, 3) (nT 0 (.aload_n 0, 1) nE nE) nE) (nT 8 (.iload_n 1, 1) (nT 5 (.getfield 15, 3) nE nE) nE)) (nT 16 (.dup, 1) (nT 13 (.getfield 19, 3) (nT 12 (.aload_n 0, 1) nE nE) nE) (nT 20 (.iload_n 2, 1) (nT 17 (.getfield 91, 3) nE nE) nE))) (nT 31 (.invokevirtual 85, 3) (nT 26 (.getfield 19, 3) (nT 25 (.aload_n 0, 1) (nT 22 (.putfield 91, 3) nE nE) nE) (nT 30 (.iload_n 1, 1) (nT 29 (.aload_n 0, 1) nE nE) nE)) (nT 38 (.getfield 19, 3) (nT 37 (.aload_n 0, 1) (nT 34 (.invokevirtual 78, 3) nE nE) nE) (nT 44 (.ireturn, 1) (nT 41 (.getfield 88, 3) nE nE) nE))))
def i_X1_daysLeft : Nat → Option (Instr × Nat) := (nT 8 (.aload_n 0, 1) (nT 4 (.iload_n 1, 1) (nT 1 (.getfield 9, 3) (nT 0 (.aload_n 0, 1) nE nE) nE) (nT 5 (.invokevirtual 62, 3) nE nE)) (nT 15 (.isub, 1) (nT 12 (.getfield 65, 3) (nT 9 (.getfield 15, 3) nE nE) nE) (nT 16 (.ireturn, 1) nE nE)))
def i_X5_opensOf : Nat → Option (Instr × Nat) := (nT 9 (.getfield 21, 3) (nT 2 (.invokevirtual 64, 3) (nT 1 (.iload_n 1, 1) (nT 0 (.aload_n 0, 1) nE nE) nE) (nT 8 (.aload_n 0, 1) (nT 5 (.ifCond .eq 12, 3) nE nE) nE)) (nT 14 (.goto 4, 3) (nT 13 (.iaload, 1) (nT 12 (.iload_n 1, 1) nE nE) nE) (nT 18 (.ireturn, 1) (nT 17 (.iconst 0, 1) nE nE) nE)))
def i_X10_take : Nat → Option (Instr × Nat) := (nT 27 (.putfield 28, 3) (nT 12 (.iload_n 2, 1) (nT 4 (.invokevirtual 17, 3) (nT 2 (.iload_n 2, 1) (nT 1 (.aload_n 1, 1) (nT 0 (.aload_n 0, 1) nE nE) nE) (nT 3 (.iconst 0, 1) nE nE)) (nT 10 (.aload_n 0, 1) (nT 7 (.putfield 21, 3) nE nE) (nT 11 (.aload_n 1, 1) nE nE))) (nT 21 (.aload_n 1, 1) (nT 17 (.putfield 25, 3) (nT 14 (.invokevirtual 17, 3) (nT 13 (.iconst 1, 1) nE nE) nE) (nT 20 (.aload_n 0, 1) nE nE)) (nT 23 (.iconst 2, 1) (nT 22 (.iload_n 2, 1) nE nE) (nT 24 (.invokevirtual 17, 3) nE nE)))) (nT 42 (.iload_n 2, 1) (nT 34 (.invokevirtual 17, 3) (nT 32 (.iload_n 2, 1) (nT 31 (.aload_n 1, 1) (nT 30 (.aload_n 0, 1) nE nE) nE) (nT 33 (.iconst 3, 1) nE nE)) (nT 40 (.aload_n 0, 1) (nT 37 (.putfield 31, 3) nE nE) (nT 41 (.aload_n 1, 1) nE nE))) (nT 51 (.aload_n 1, 1) (nT 47 (.putfield 34, 3) (nT 44 (.invokevirtual 17, 3) (nT 43 (.iconst 4, 1) nE nE) nE) (nT 50 (.aload_n 0, 1) nE nE)) (nT 55 (.putfield 40, 3) (nT 52 (.getfield 37, 3) nE nE) (nT 58 (.return_, 1) nE nE)))))
def i_X1_wouldPass : Nat → Option (Instr × Nat) := (nT 15 (.aload_n 0, 1) (nT 8 (.aload_n 0, 1) (nT 2 (.invokevirtual 46, 3) (nT 1 (.iload_n 1, 1) (nT 0 (.aload_n 0, 1) nE nE) nE) (nT 5 (.ifCond .eq 25, 3) nE nE)) (nT 11 (.iconst 0, 1) (nT 10 (.iconst 0, 1) (nT 9 (.iload_n 1, 1) nE nE) nE) (nT 12 (.invokevirtual 97, 3) nE nE))) (nT 26 (.iconst 1, 1) (nT 20 (.invokevirtual 101, 3) (nT 19 (.iload_n 1, 1) (nT 16 (.getfield 9, 3) nE nE) nE) (nT 23 (.if_icmp .lt 7, 3) nE nE)) (nT 30 (.iconst 0, 1) (nT 27 (.goto 4, 3) nE nE) (nT 31 (.ireturn, 1) nE nE))))
def i_X1_volumeByBreathing : Nat → Option (Instr × Nat) := (nT 25 (.invokevirtual 82, 3) (nT 12 (.aload_n 0, 1) (nT 5 (.getfield 15, 3) (nT 1 (.getfield 19, 3) (nT 0 (.aload_n 0, 1) nE nE) (nT 4 (.aload_n 0, 1) nE nE)) (nT 9 (.invokevirtual 68, 3) (nT 8 (.iload_n 1, 1) nE nE) nE)) (nT 20 (.aload_n 0, 1) (nT 16 (.iload_n 3, 1) (nT 13 (.getfield 19, 3) nE nE) (nT 17 (.invokevirtual 78, 3) nE nE)) (nT 24 (.iload_n 2, 1) (nT 21 (.getfield 19, 3) nE nE) nE))) (nT 38 (.isub, 1) (nT 33 (.iload_n 1, 1) (nT 29 (.getfield 19, 3) (nT 28 (.aload_n 0, 1) nE nE) (nT 32 (.aload_n 0, 1) nE nE)) (nT 37 (.iload_n 3, 1) (nT 34 (.invokevirtual 85, 3) nE nE) nE)) (nT 43 (.getfield 19, 3) (nT 42 (.aload_n 0, 1) (nT 39 (.invokevirtual 78, 3) nE nE) nE) (nT 49 (.ireturn, 1) (nT 46 (.getfield 88, 3) nE nE) nE))))
def i_X1_isKept : Nat → Option (Instr × Nat) := (nT 15 (.iload_n 1, 1) (nT 5 (.invokevirtual 23, 3) (nT 1 (.getfield 9, 3) (nT 0 (.aload_n 0, 1) nE nE) (nT 4 (.iload_n 1, 1) nE nE)) (nT 11 (.aload_n 0, 1) (nT 8 (.ifCond .eq 19, 3) nE nE) (nT 12 (.getfield 15, 3) nE nE))) (nT 23 (.iconst 1, 1) (nT 17 (.invokevirtual 31, 3) (nT 16 (.iconst 5, 1) nE nE) (nT 20 (.ifCond .ne 7, 3) nE nE)) (nT 27 (.iconst 0, 1) (nT 24 (.goto 4, 3) nE nE) (nT 28 (.ireturn, 1) nE nE))))
def i_X12_matches : Nat → Option (Instr × Nat) := (nT 38 (.ifCond .eq 36, 3) (nT 18 (.istore_n 3, 1) (nT 6 (.getfield 24, 3) (nT 3 (.istore_n 2, 1) (nT 1 (.istore_n 1, 1) (nT 0 (.iconst 0, 1) nE nE) (nT 2 (.iconst 0, 1) nE nE)) (nT 5 (.aload_n 0, 1) (nT 4 (.iload_n 2, 1) nE nE) nE)) (nT 13 (.iaload, 1) (nT 10 (.getfield 251, 3) (nT 9 (.aload_n 0, 1) nE nE) nE) (nT 17 (.iconst 0, 1) (nT 14 (.if_icmp .ge 72, 3) nE nE) nE))) (nT 28 (.iaload, 1) (nT 21 (.getfield 24, 3) (nT 20 (.aload_n 0, 1) (nT 19 (.iload_n 3, 1) nE nE) nE) (nT 25 (.getfield 251, 3) (nT 24 (.aload_n 0, 1) nE nE) nE)) (nT 33 (.iload_n 2, 1) (nT 32 (.aload_n 0, 1) (nT 29 (.if_icmp .ge 51, 3) nE nE) nE) (nT 35 (.invokevirtual 437, 3) (nT 34 (.iload_n 3, 1) nE nE) nE)))) (nT 60 (.invokevirtual 470, 3) (nT 50 (.iload_n 3, 1) (nT 43 (.invokevirtual 425, 3) (nT 42 (.iload_n 2, 1) (nT 41 (.aload_n 0, 1) nE nE) nE) (nT 49 (.aload_n 0, 1) (nT 46 (.ifCond .ne 28, 3) nE nE) nE)) (nT 57 (.aload_n 0, 1) (nT 54 (.ifCond .ne 20, 3) (nT 51 (.invokevirtual 425, 3) nE nE) nE) (nT 59 (.iload_n 3, 1) (nT 58 (.iload_n 2, 1) nE nE) nE))) (nT 74 (.iinc 3 1, 3) (nT 65 (.invokevirtual 404, 3) (nT 64 (.iload_n 2, 1) (nT 63 (.aload_n 0, 1) nE nE) nE) (nT 71 (.iinc 1 1, 3) (nT 68 (.if_icmp .lt 6, 3) nE nE) nE)) (nT 83 (.goto (-79), 3) (nT 80 (.iinc 2 1, 3) (nT 77 (.goto (-58), 3) nE nE) nE) (nT 87 (.ireturn, 1) (nT 86 (.iload_n 1, 1) nE nE) nE)))))
def i_X12_joined : Nat → Option (Instr × Nat) := (nT 11 (.iload_n 1, 1) (nT 5 (.iload_n 1, 1) (nT 1 (.invokevirtual 464, 3) (nT 0 (.aload_n 0, 1) nE nE) (nT 4 (.aload_n 0, 1) nE nE)) (nT 7 (.invokevirtual 440, 3) (nT 6 (.iload_n 2, 1) nE nE) (nT 10 (.aload_n 0, 1) nE nE))) (nT 17 (.invokevirtual 467, 3) (nT 15 (.istore_n 3, 1) (nT 12 (.invokevirtual 401, 3) nE nE) (nT 16 (.aload_n 0, 1) nE nE)) (nT 21 (.ireturn, 1) (nT 20 (.iload_n 3, 1) nE nE) nE)))
def i_X12_bringBack : Nat → Option (Instr × Nat) := (nT 13 (.aload_n 0, 1) (nT 5 (.if_icmp .ge 21, 3) (nT 2 (.iload_n 1, 1) (nT 1 (.istore_n 1, 1) (nT 0 (.iconst 0, 1) nE nE) nE) (nT 3 (.bipush 33, 2) nE nE)) (nT 9 (.getfield 89, 3) (nT 8 (.aload_n 0, 1) nE nE) (nT 12 (.iload_n 1, 1) nE nE))) (nT 19 (.iastore, 1) (nT 17 (.iload_n 1, 1) (nT 14 (.getfield 95, 3) nE nE) (nT 18 (.iaload, 1) nE nE)) (nT 23 (.goto (-21), 3) (nT 20 (.iinc 1 1, 3) nE nE) (nT 26 (.return_, 1) nE nE))))
def i_X12_joinBoth : Nat → Option (Instr × Nat) := (nT 80 (.getfield 89, 3) (nT 39 (.iaload, 1) (nT 19 (.getfield 89, 3) (nT 10 (.aload_n 0, 1) (nT 5 (.iload_n 1, 1) (nT 1 (.getfield 89, 3) (nT 0 (.aload_n 0, 1) nE nE) (nT 4 (.iconst 0, 1) nE nE)) (nT 7 (.sipush 999, 3) (nT 6 (.iadd, 1) nE nE) nE)) (nT 16 (.iadd, 1) (nT 14 (.iconst 0, 1) (nT 11 (.getfield 89, 3) nE nE) (nT 15 (.iload_n 1, 1) nE nE)) (nT 18 (.aload_n 0, 1) (nT 17 (.iaload, 1) nE nE) nE))) (nT 30 (.iastore, 1) (nT 25 (.iaload, 1) (nT 23 (.iload_n 2, 1) (nT 22 (.iconst 0, 1) nE nE) (nT 24 (.iadd, 1) nE nE)) (nT 27 (.invokestatic 377, 3) (nT 26 (.iadd, 1) nE nE) nE)) (nT 36 (.iload_n 1, 1) (nT 32 (.getfield 89, 3) (nT 31 (.aload_n 0, 1) nE nE) (nT 35 (.iconst 5, 1) nE nE)) (nT 38 (.dup2, 1) (nT 37 (.iadd, 1) nE nE) nE)))) (nT 58 (.iaload, 1) (nT 48 (.ior, 1) (nT 45 (.iload_n 2, 1) (nT 41 (.getfield 89, 3) (nT 40 (.aload_n 0, 1) nE nE) (nT 44 (.iconst 5, 1) nE nE)) (nT 47 (.iaload, 1) (nT 46 (.iadd, 1) nE nE) nE)) (nT 54 (.bipush 10, 2) (nT 50 (.aload_n 0, 1) (nT 49 (.iastore, 1) nE nE) (nT 51 (.getfield 89, 3) nE nE)) (nT 57 (.iadd, 1) (nT 56 (.iload_n 2, 1) nE nE) nE))) (nT 68 (.if_icmp .le 21, 3) (nT 65 (.iload_n 1, 1) (nT 60 (.getfield 89, 3) (nT 59 (.aload_n 0, 1) nE nE) (nT 63 (.bipush 10, 2) nE nE)) (nT 67 (.iaload, 1) (nT 66 (.iadd, 1) nE nE) nE)) (nT 77 (.iload_n 1, 1) (nT 72 (.getfield 89, 3) (nT 71 (.aload_n 0, 1) nE nE) (nT 75 (.bipush 10, 2) nE nE)) (nT 79 (.aload_n 0, 1) (nT 78 (.iadd, 1) nE nE) nE))))) (nT 123 (.getfield 89, 3) (nT 103 (.bipush 20, 2) (nT 90 (.getfield 89, 3) (nT 87 (.iaload, 1) (nT 85 (.iload_n 2, 1) (nT 83 (.bipush 10, 2) nE nE) (nT 86 (.iadd, 1) nE nE)) (nT 89 (.aload_n 0, 1) (nT 88 (.iastore, 1) nE nE) nE)) (nT 97 (.bipush 99, 2) (nT 95 (.iload_n 1, 1) (nT 93 (.bipush 20, 2) nE nE) (nT 96 (.iadd, 1) nE nE)) (nT 100 (.getfield 89, 3) (nT 99 (.aload_n 0, 1) nE nE) nE))) (nT 114 (.iload_n 2, 1) (nT 108 (.aload_n 0, 1) (nT 106 (.iadd, 1) (nT 105 (.iload_n 1, 1) nE nE) (nT 107 (.iaload, 1) nE nE)) (nT 112 (.bipush 20, 2) (nT 109 (.getfield 89, 3) nE nE) nE)) (nT 118 (.invokestatic 377, 3) (nT 116 (.iaload, 1) (nT 115 (.iadd, 1) nE nE) (nT 117 (.iadd, 1) nE nE)) (nT 122 (.aload_n 0, 1) (nT 121 (.iastore, 1) nE nE) nE)))) (nT 141 (.getfield 89, 3) (nT 132 (.getfield 89, 3) (nT 129 (.iconst 0, 1) (nT 127 (.iload_n 2, 1) (nT 126 (.iconst 0, 1) nE nE) (nT 128 (.iadd, 1) nE nE)) (nT 131 (.aload_n 0, 1) (nT 130 (.iastore, 1) nE nE) nE)) (nT 138 (.iconst 0, 1) (nT 136 (.iload_n 2, 1) (nT 135 (.iconst 5, 1) nE nE) (nT 137 (.iadd, 1) nE nE)) (nT 140 (.aload_n 0, 1) (nT 139 (.iastore, 1) nE nE) nE))) (nT 151 (.getfield 89, 3) (nT 148 (.iconst 0, 1) (nT 146 (.iload_n 2, 1) (nT 144 (.bipush 10, 2) nE nE) (nT 147 (.iadd, 1) nE nE)) (nT 150 (.aload_n 0, 1) (nT 149 (.iastore, 1) nE nE) nE)) (nT 158 (.iconst 0, 1) (nT 156 (.iload_n 2, 1) (nT 154 (.bipush 20, 2) nE nE) (nT 157 (.iadd, 1) nE nE)) (nT 160 (.return_, 1) (nT 159 (.iastore, 1) nE nE) nE))))))
def i_X12_keepNow : Nat → Option (Instr × Nat) := (nT 13 (.aload_n 0, 1) (nT 5 (.if_icmp .ge 21, 3) (nT 2 (.iload_n 1, 1) (nT 1 (.istore_n 1, 1) (nT 0 (.iconst 0, 1) nE nE) nE) (nT 3 (.bipush 33, 2) nE nE)) (nT 9 (.getfield 95, 3) (nT 8 (.aload_n 0, 1) nE nE) (nT 12 (.iload_n 1, 1) nE nE))) (nT 19 (.iastore, 1) (nT 17 (.iload_n 1, 1) (nT 14 (.getfield 89, 3) nE nE) (nT 18 (.iaload, 1) nE nE)) (nT 23 (.goto (-21), 3) (nT 20 (.iinc 1 1, 3) nE nE) (nT 26 (.return_, 1) nE nE))))
def i_X12_canJoin : Nat → Option (Instr × Nat) := (nT 17 (.iload_n 2, 1) (nT 8 (.aload_n 0, 1) (nT 2 (.invokevirtual 398, 3) (nT 1 (.iload_n 1, 1) (nT 0 (.aload_n 0, 1) nE nE) nE) (nT 5 (.ifCond .eq 28, 3) nE nE)) (nT 13 (.ifCond .eq 20, 3) (nT 10 (.invokevirtual 398, 3) (nT 9 (.iload_n 2, 1) nE nE) nE) (nT 16 (.iload_n 1, 1) nE nE))) (nT 26 (.ifCond .ne 7, 3) (nT 22 (.iload_n 2, 1) (nT 21 (.aload_n 0, 1) (nT 18 (.if_icmp .eq 15, 3) nE nE) nE) (nT 23 (.invokevirtual 431, 3) nE nE)) (nT 33 (.iconst 0, 1) (nT 30 (.goto 4, 3) (nT 29 (.iconst 1, 1) nE nE) nE) (nT 34 (.ireturn, 1) nE nE))))
def i_X12_isEmpty : Nat → Option (Instr × Nat) := (nT 7 (.iaload, 1) (nT 4 (.iconst 5, 1) (nT 1 (.getfield 89, 3) (nT 0 (.aload_n 0, 1) nE nE) nE) (nT 6 (.iadd, 1) (nT 5 (.iload_n 1, 1) nE nE) nE)) (nT 12 (.goto 4, 3) (nT 11 (.iconst 1, 1) (nT 8 (.ifCond .ne 7, 3) nE nE) nE) (nT 16 (.ireturn, 1) (nT 15 (.iconst 0, 1) nE nE) nE)))
def i_X11_matches : Nat → Option (Instr × Nat) := (nT 4 (.invokevirtual 307, 3) (nT 1 (.getfield 71, 3) (nT 0 (.aload_n 0, 1) nE nE) nE) (nT 7 (.ireturn, 1) nE nE))
def i_X1_countMatches : Nat → Option (Instr × Nat) := (nT 38 (.iload_n 2, 1) (nT 17 (.iload_n 3, 1) (nT 5 (.aload_n 0, 1) (nT 2 (.iconst 0, 1) (nT 1 (.istore_n 1, 1) (nT 0 (.iconst 0, 1) nE nE) nE) (nT 4 (.iload_n 2, 1) (nT 3 (.istore_n 2, 1) nE nE) nE)) (nT 12 (.if_icmp .ge 73, 3) (nT 9 (.getfield 55, 3) (nT 6 (.getfield 9, 3) nE nE) nE) (nT 16 (.istore_n 3, 1) (nT 15 (.iconst 0, 1) nE nE) nE))) (nT 29 (.iload_n 2, 1) (nT 22 (.getfield 55, 3) (nT 19 (.getfield 9, 3) (nT 18 (.aload_n 0, 1) nE nE) nE) (nT 28 (.aload_n 0, 1) (nT 25 (.if_icmp .ge 54, 3) nE nE) nE)) (nT 34 (.ifCond .eq 39, 3) (nT 31 (.invokevirtual 121, 3) (nT 30 (.iload_n 3, 1) nE nE) nE) (nT 37 (.aload_n 0, 1) nE nE)))) (nT 60 (.getfield 9, 3) (nT 50 (.ifCond .ne 23, 3) (nT 45 (.aload_n 0, 1) (nT 42 (.ifCond .ne 31, 3) (nT 39 (.invokevirtual 104, 3) nE nE) nE) (nT 47 (.invokevirtual 104, 3) (nT 46 (.iload_n 3, 1) nE nE) nE)) (nT 55 (.iload_n 3, 1) (nT 54 (.iload_n 2, 1) (nT 53 (.aload_n 0, 1) nE nE) nE) (nT 59 (.aload_n 0, 1) (nT 56 (.invokevirtual 124, 3) nE nE) nE))) (nT 76 (.goto (-59), 3) (nT 67 (.if_icmp .lt 6, 3) (nT 64 (.invokevirtual 101, 3) (nT 63 (.iload_n 2, 1) nE nE) nE) (nT 73 (.iinc 3 1, 3) (nT 70 (.iinc 1 1, 3) nE nE) nE)) (nT 85 (.iload_n 1, 1) (nT 82 (.goto (-78), 3) (nT 79 (.iinc 2 1, 3) nE nE) nE) (nT 86 (.ireturn, 1) nE nE)))))
def i_X1_jointVolume : Nat → Option (Instr × Nat) := (nT 21 (.invokevirtual 94, 3) (nT 9 (.invokevirtual 68, 3) (nT 4 (.aload_n 0, 1) (nT 1 (.getfield 19, 3) (nT 0 (.aload_n 0, 1) nE nE) nE) (nT 8 (.iload_n 1, 1) (nT 5 (.getfield 15, 3) nE nE) nE)) (nT 16 (.aload_n 0, 1) (nT 13 (.getfield 19, 3) (nT 12 (.aload_n 0, 1) nE nE) nE) (nT 20 (.iload_n 2, 1) (nT 17 (.getfield 15, 3) nE nE) nE))) (nT 33 (.invokevirtual 78, 3) (nT 28 (.aload_n 0, 1) (nT 25 (.getfield 19, 3) (nT 24 (.aload_n 0, 1) nE nE) nE) (nT 30 (.invokevirtual 85, 3) (nT 29 (.iload_n 1, 1) nE nE) nE)) (nT 40 (.getfield 88, 3) (nT 37 (.getfield 19, 3) (nT 36 (.aload_n 0, 1) nE nE) nE) (nT 43 (.ireturn, 1) nE nE))))
def i_X10_pourIn : Nat → Option (Instr × Nat) := (nT 36 (.aload_n 0, 1) (nT 18 (.putfield 21, 3) (nT 9 (.iload_n 2, 1) (nT 4 (.aload_n 0, 1) (nT 1 (.sipush 999, 3) (nT 0 (.aload_n 0, 1) nE nE) nE) (nT 8 (.aload_n 1, 1) (nT 5 (.getfield 21, 3) nE nE) nE)) (nT 14 (.iadd, 1) (nT 11 (.invokevirtual 17, 3) (nT 10 (.iconst 0, 1) nE nE) nE) (nT 15 (.invokestatic 51, 3) nE nE))) (nT 27 (.iload_n 2, 1) (nT 23 (.getfield 25, 3) (nT 22 (.dup, 1) (nT 21 (.aload_n 0, 1) nE nE) nE) (nT 26 (.aload_n 1, 1) nE nE)) (nT 32 (.ior, 1) (nT 29 (.invokevirtual 17, 3) (nT 28 (.iconst 1, 1) nE nE) nE) (nT 33 (.putfield 25, 3) nE nE)))) (nT 56 (.aload_n 0, 1) (nT 44 (.invokevirtual 17, 3) (nT 41 (.aload_n 1, 1) (nT 38 (.getfield 28, 3) (nT 37 (.aload_n 0, 1) nE nE) nE) (nT 43 (.iconst 2, 1) (nT 42 (.iload_n 2, 1) nE nE) nE)) (nT 53 (.aload_n 0, 1) (nT 50 (.putfield 28, 3) (nT 47 (.invokestatic 56, 3) nE nE) nE) (nT 54 (.bipush 99, 2) nE nE))) (nT 63 (.invokevirtual 17, 3) (nT 61 (.iload_n 2, 1) (nT 60 (.aload_n 1, 1) (nT 57 (.getfield 34, 3) nE nE) nE) (nT 62 (.iconst 4, 1) nE nE)) (nT 70 (.putfield 34, 3) (nT 67 (.invokestatic 51, 3) (nT 66 (.iadd, 1) nE nE) nE) (nT 73 (.return_, 1) nE nE)))))
def i_X1_mayJoin : Nat → Option (Instr × Nat) := (nT 18 (.ifCond .eq 18, 3) (nT 7 (.invokevirtual 46, 3) (nT 2 (.if_icmp .eq 34, 3) (nT 1 (.iload_n 2, 1) (nT 0 (.iload_n 1, 1) nE nE) nE) (nT 6 (.iload_n 1, 1) (nT 5 (.aload_n 0, 1) nE nE) nE)) (nT 14 (.iload_n 2, 1) (nT 13 (.aload_n 0, 1) (nT 10 (.ifCond .eq 26, 3) nE nE) nE) (nT 15 (.invokevirtual 46, 3) nE nE))) (nT 29 (.ifCond .ne 7, 3) (nT 25 (.iload_n 2, 1) (nT 22 (.getfield 15, 3) (nT 21 (.aload_n 0, 1) nE nE) nE) (nT 26 (.invokevirtual 52, 3) nE nE)) (nT 36 (.iconst 0, 1) (nT 33 (.goto 4, 3) (nT 32 (.iconst 1, 1) nE nE) nE) (nT 37 (.ireturn, 1) nE nE))))
def i_X6_isEmpty : Nat → Option (Instr × Nat) := (nT 6 (.ifCond .ne 7, 3) (nT 2 (.iconst 1, 1) (nT 1 (.iload_n 1, 1) (nT 0 (.aload_n 0, 1) nE nE) nE) (nT 3 (.invokevirtual 19, 3) nE nE)) (nT 13 (.iconst 0, 1) (nT 10 (.goto 4, 3) (nT 9 (.iconst 1, 1) nE nE) nE) (nT 14 (.ireturn, 1) nE nE)))
def i_X12_richest : Nat → Option (Instr × Nat) := (nT 30 (.getfield 89, 3) (nT 13 (.iaload, 1) (nT 4 (.iload_n 2, 1) (nT 2 (.iconst 0, 1) (nT 1 (.istore_n 1, 1) (nT 0 (.iconst (-1), 1) nE nE) nE) (nT 3 (.istore_n 2, 1) nE nE)) (nT 9 (.aload_n 0, 1) (nT 6 (.getfield 24, 3) (nT 5 (.aload_n 0, 1) nE nE) nE) (nT 10 (.getfield 251, 3) nE nE))) (nT 22 (.ifCond .eq 28, 3) (nT 18 (.iload_n 2, 1) (nT 17 (.aload_n 0, 1) (nT 14 (.if_icmp .ge 42, 3) nE nE) nE) (nT 19 (.invokevirtual 398, 3) nE nE)) (nT 26 (.ifCond .lt 22, 3) (nT 25 (.iload_n 1, 1) nE nE) (nT 29 (.aload_n 0, 1) nE nE)))) (nT 43 (.iadd, 1) (nT 37 (.aload_n 0, 1) (nT 35 (.iadd, 1) (nT 34 (.iload_n 2, 1) (nT 33 (.iconst 0, 1) nE nE) nE) (nT 36 (.iaload, 1) nE nE)) (nT 41 (.iconst 0, 1) (nT 38 (.getfield 89, 3) nE nE) (nT 42 (.iload_n 1, 1) nE nE))) (nT 50 (.iinc 2 1, 3) (nT 48 (.iload_n 2, 1) (nT 45 (.if_icmp .le 5, 3) (nT 44 (.iaload, 1) nE nE) nE) (nT 49 (.istore_n 1, 1) nE nE)) (nT 56 (.iload_n 1, 1) (nT 53 (.goto (-49), 3) nE nE) (nT 57 (.ireturn, 1) nE nE)))))
def i_X11_richest : Nat → Option (Instr × Nat) := (nT 4 (.invokevirtual 304, 3) (nT 1 (.getfield 71, 3) (nT 0 (.aload_n 0, 1) nE nE) nE) (nT 7 (.ireturn, 1) nE nE))
def i_X1_richestKept : Nat → Option (Instr × Nat) := (nT 26 (.istore 4, 2) (nT 8 (.getfield 9, 3) (nT 4 (.iconst 0, 1) (nT 2 (.iconst (-1), 1) (nT 1 (.istore_n 1, 1) (nT 0 (.iconst (-1), 1) nE nE) nE) (nT 3 (.istore_n 2, 1) nE nE)) (nT 6 (.iload_n 3, 1) (nT 5 (.istore_n 3, 1) nE nE) (nT 7 (.aload_n 0, 1) nE nE))) (nT 18 (.getfield 15, 3) (nT 14 (.if_icmp .ge 39, 3) (nT 11 (.getfield 55, 3) nE nE) (nT 17 (.aload_n 0, 1) nE nE)) (nT 22 (.iconst 0, 1) (nT 21 (.iload_n 3, 1) nE nE) (nT 23 (.invokevirtual 31, 3) nE nE)))) (nT 42 (.iload 4, 2) (nT 33 (.ifCond .eq 14, 3) (nT 29 (.iload_n 3, 1) (nT 28 (.aload_n 0, 1) nE nE) (nT 30 (.invokevirtual 46, 3) nE nE)) (nT 38 (.iload_n 2, 1) (nT 36 (.iload 4, 2) nE nE) (nT 39 (.if_icmp .le 8, 3) nE nE))) (nT 47 (.iinc 3 1, 3) (nT 45 (.iload_n 3, 1) (nT 44 (.istore_n 2, 1) nE nE) (nT 46 (.istore_n 1, 1) nE nE)) (nT 53 (.iload_n 1, 1) (nT 50 (.goto (-44), 3) nE nE) (nT 54 (.ireturn, 1) nE nE)))))
def i_X12_wasted : Nat → Option (Instr × Nat) := (nT 26 (.iload_n 2, 1) (nT 10 (.getfield 251, 3) (nT 4 (.iload_n 2, 1) (nT 2 (.iconst 0, 1) (nT 1 (.istore_n 1, 1) (nT 0 (.iconst 0, 1) nE nE) nE) (nT 3 (.istore_n 2, 1) nE nE)) (nT 6 (.getfield 24, 3) (nT 5 (.aload_n 0, 1) nE nE) (nT 9 (.aload_n 0, 1) nE nE))) (nT 18 (.iload_n 2, 1) (nT 14 (.if_icmp .ge 36, 3) (nT 13 (.iaload, 1) nE nE) (nT 17 (.aload_n 0, 1) nE nE)) (nT 22 (.ifCond .eq 22, 3) (nT 19 (.invokevirtual 398, 3) nE nE) (nT 25 (.aload_n 0, 1) nE nE)))) (nT 40 (.iadd, 1) (nT 34 (.aload_n 0, 1) (nT 30 (.ifCond .ne 14, 3) (nT 27 (.invokevirtual 425, 3) nE nE) (nT 33 (.iload_n 1, 1) nE nE)) (nT 38 (.iconst 0, 1) (nT 35 (.getfield 89, 3) nE nE) (nT 39 (.iload_n 2, 1) nE nE))) (nT 44 (.iinc 2 1, 3) (nT 42 (.iadd, 1) (nT 41 (.iaload, 1) nE nE) (nT 43 (.istore_n 1, 1) nE nE)) (nT 50 (.iload_n 1, 1) (nT 47 (.goto (-43), 3) nE nE) (nT 51 (.ireturn, 1) nE nE)))))
def i_X11_wasted : Nat → Option (Instr × Nat) := (nT 4 (.invokevirtual 301, 3) (nT 1 (.getfield 71, 3) (nT 0 (.aload_n 0, 1) nE nE) nE) (nT 7 (.ireturn, 1) nE nE))
def i_X1_volumeWasted : Nat → Option (Instr × Nat) := (nT 25 (.iload_n 2, 1) (nT 9 (.getfield 55, 3) (nT 3 (.istore_n 2, 1) (nT 1 (.istore_n 1, 1) (nT 0 (.iconst 0, 1) nE nE) (nT 2 (.iconst 0, 1) nE nE)) (nT 5 (.aload_n 0, 1) (nT 4 (.iload_n 2, 1) nE nE) (nT 6 (.getfield 9, 3) nE nE))) (nT 17 (.iload_n 2, 1) (nT 15 (.iload_n 1, 1) (nT 12 (.if_icmp .ge 41, 3) nE nE) (nT 16 (.aload_n 0, 1) nE nE)) (nT 21 (.ifCond .eq 23, 3) (nT 18 (.invokevirtual 46, 3) nE nE) (nT 24 (.aload_n 0, 1) nE nE)))) (nT 41 (.goto 4, 3) (nT 33 (.getfield 15, 3) (nT 29 (.ifCond .ne 15, 3) (nT 26 (.invokevirtual 104, 3) nE nE) (nT 32 (.aload_n 0, 1) nE nE)) (nT 37 (.iconst 0, 1) (nT 36 (.iload_n 2, 1) nE nE) (nT 38 (.invokevirtual 31, 3) nE nE))) (nT 47 (.iinc 2 1, 3) (nT 45 (.iadd, 1) (nT 44 (.iconst 0, 1) nE nE) (nT 46 (.istore_n 1, 1) nE nE)) (nT 53 (.iload_n 1, 1) (nT 50 (.goto (-46), 3) nE nE) (nT 54 (.ireturn, 1) nE nE)))))
def i_X12_sabotage : Nat → Option (Instr × Nat) := (nT 68 (.ifCond .lt 68, 3) (nT 28 (.invokestatic 476, 3) (nT 15 (.ireturn, 1) (nT 6 (.iconst 1, 1) (nT 2 (.putfield 374, 3) (nT 1 (.iconst 0, 1) (nT 0 (.aload_n 0, 1) nE nE) nE) (nT 5 (.iload_n 1, 1) nE nE)) (nT 11 (.ifCond .ne 5, 3) (nT 8 (.invokestatic 350, 3) (nT 7 (.iconst 3, 1) nE nE) nE) (nT 14 (.iconst (-1), 1) nE nE))) (nT 20 (.iconst 0, 1) (nT 18 (.iconst 0, 1) (nT 17 (.istore_n 2, 1) (nT 16 (.iconst (-1), 1) nE nE) nE) (nT 19 (.istore_n 3, 1) nE nE)) (nT 25 (.bipush 6, 2) (nT 23 (.iload 4, 2) (nT 21 (.istore 4, 2) nE nE) nE) (nT 27 (.iload_n 1, 1) nE nE)))) (nT 49 (.ifCond .ge 7, 3) (nT 39 (.iload 4, 2) (nT 35 (.invokevirtual 464, 3) (nT 34 (.aload_n 0, 1) (nT 31 (.if_icmp .ge 111, 3) nE nE) nE) (nT 38 (.aload_n 0, 1) nE nE)) (nT 45 (.istore 5, 2) (nT 42 (.invokevirtual 516, 3) (nT 41 (.iload_n 1, 1) nE nE) nE) (nT 47 (.iload 5, 2) nE nE))) (nT 60 (.istore 6, 2) (nT 56 (.aload_n 0, 1) (nT 53 (.goto 7, 3) (nT 52 (.iconst (-1), 1) nE nE) nE) (nT 57 (.invokevirtual 519, 3) nE nE)) (nT 63 (.invokevirtual 467, 3) (nT 62 (.aload_n 0, 1) nE nE) (nT 66 (.iload 6, 2) nE nE))))) (nT 107 (.iload_n 1, 1) (nT 89 (.iload_n 3, 1) (nT 78 (.if_icmp .gt 58, 3) (nT 75 (.iload 6, 2) (nT 72 (.ifCond .lt 24, 3) (nT 71 (.iload_n 2, 1) nE nE) nE) (nT 77 (.iload_n 2, 1) nE nE)) (nT 84 (.if_icmp .ne 12, 3) (nT 83 (.iload_n 2, 1) (nT 81 (.iload 6, 2) nE nE) nE) (nT 87 (.iload 5, 2) nE nE))) (nT 99 (.iload 5, 2) (nT 96 (.iload 6, 2) (nT 93 (.goto 43, 3) (nT 90 (.if_icmp .lt 6, 3) nE nE) nE) (nT 98 (.istore_n 2, 1) nE nE)) (nT 103 (.istore 7, 2) (nT 102 (.iconst 0, 1) (nT 101 (.istore_n 3, 1) nE nE) nE) (nT 105 (.iload 7, 2) nE nE)))) (nT 125 (.iinc 7 1, 3) (nT 117 (.aload_n 0, 1) (nT 112 (.getfield 101, 3) (nT 111 (.aload_n 0, 1) (nT 108 (.if_icmp .ge 23, 3) nE nE) nE) (nT 115 (.iload 7, 2) nE nE)) (nT 123 (.iaload, 1) (nT 121 (.iload 7, 2) (nT 118 (.getfield 104, 3) nE nE) nE) (nT 124 (.iastore, 1) nE nE))) (nT 136 (.iinc 4 1, 3) (nT 132 (.iload_n 1, 1) (nT 131 (.aload_n 0, 1) (nT 128 (.goto (-23), 3) nE nE) nE) (nT 133 (.putfield 374, 3) nE nE)) (nT 142 (.iload_n 2, 1) (nT 139 (.goto (-116), 3) nE nE) (nT 143 (.ireturn, 1) nE nE))))))
def i_X12_forced : Nat → Option (Instr × Nat) := (nT 31 (.getfield 89, 3) (nT 14 (.if_icmp .ge 50, 3) (nT 5 (.aload_n 0, 1) (nT 2 (.iconst 0, 1) (nT 1 (.istore_n 1, 1) (nT 0 (.iconst 0, 1) nE nE) nE) (nT 4 (.iload_n 2, 1) (nT 3 (.istore_n 2, 1) nE nE) nE)) (nT 10 (.getfield 251, 3) (nT 9 (.aload_n 0, 1) (nT 6 (.getfield 24, 3) nE nE) nE) (nT 13 (.iaload, 1) nE nE))) (nT 24 (.iload_n 2, 1) (nT 19 (.getfield 95, 3) (nT 18 (.aload_n 0, 1) (nT 17 (.iload_n 1, 1) nE nE) nE) (nT 22 (.bipush 25, 2) nE nE)) (nT 27 (.ifCond .ne 28, 3) (nT 26 (.iaload, 1) (nT 25 (.iadd, 1) nE nE) nE) (nT 30 (.aload_n 0, 1) nE nE)))) (nT 48 (.ifCond .eq 7, 3) (nT 39 (.iconst 1, 1) (nT 37 (.iadd, 1) (nT 36 (.iload_n 2, 1) (nT 34 (.bipush 25, 2) nE nE) nE) (nT 38 (.iaload, 1) nE nE)) (nT 44 (.iload_n 2, 1) (nT 43 (.aload_n 0, 1) (nT 40 (.if_icmp .eq 11, 3) nE nE) nE) (nT 45 (.invokevirtual 425, 3) nE nE))) (nT 57 (.istore_n 1, 1) (nT 55 (.iconst 0, 1) (nT 52 (.goto 4, 3) (nT 51 (.iconst 1, 1) nE nE) nE) (nT 56 (.iadd, 1) nE nE)) (nT 64 (.iload_n 1, 1) (nT 61 (.goto (-57), 3) (nT 58 (.iinc 2 1, 3) nE nE) nE) (nT 65 (.ireturn, 1) nE nE)))))
def i_X12_shakeAll : Nat → Option (Instr × Nat) := (nT 48 (.invokevirtual 434, 3) (nT 23 (.idiv, 1) (nT 11 (.iload_n 1, 1) (nT 3 (.istore 4, 2) (nT 1 (.istore_n 3, 1) (nT 0 (.iconst 0, 1) nE nE) (nT 2 (.iconst 0, 1) nE nE)) (nT 7 (.iload_n 2, 1) (nT 5 (.iload 4, 2) nE nE) (nT 8 (.if_icmp .ge 92, 3) nE nE))) (nT 16 (.isub, 1) (nT 14 (.iload_n 2, 1) (nT 12 (.bipush 6, 2) nE nE) (nT 15 (.iconst 1, 1) nE nE)) (nT 19 (.isub, 1) (nT 17 (.iload 4, 2) nE nE) (nT 20 (.invokestatic 476, 3) nE nE)))) (nT 35 (.iload 4, 2) (nT 28 (.isub, 1) (nT 26 (.irem, 1) (nT 24 (.bipush 6, 2) nE nE) (nT 27 (.iconst 1, 1) nE nE)) (nT 31 (.aload_n 0, 1) (nT 29 (.istore 5, 2) nE nE) (nT 32 (.getfield 104, 3) nE nE))) (nT 42 (.ifCond .lt 14, 3) (nT 39 (.iastore, 1) (nT 37 (.iload 5, 2) nE nE) (nT 40 (.iload 5, 2) nE nE)) (nT 46 (.iload 5, 2) (nT 45 (.aload_n 0, 1) nE nE) nE)))) (nT 75 (.iload_n 3, 1) (nT 65 (.bipush 20, 2) (nT 56 (.iload 5, 2) (nT 54 (.iconst (-1), 1) (nT 51 (.ifCond .ne 5, 3) nE nE) (nT 55 (.ireturn, 1) nE nE)) (nT 61 (.aload_n 0, 1) (nT 58 (.ifCond .lt 17, 3) nE nE) (nT 62 (.getfield 89, 3) nE nE))) (nT 71 (.iaload, 1) (nT 69 (.iadd, 1) (nT 67 (.iload 5, 2) nE nE) (nT 70 (.dup2, 1) nE nE)) (nT 73 (.iadd, 1) (nT 72 (.iconst 1, 1) nE nE) (nT 74 (.iastore, 1) nE nE)))) (nT 88 (.aload_n 0, 1) (nT 82 (.goto 4, 3) (nT 78 (.ifCond .lt 7, 3) (nT 76 (.iload 5, 2) nE nE) (nT 81 (.iconst 1, 1) nE nE)) (nT 86 (.iadd, 1) (nT 85 (.iconst 0, 1) nE nE) (nT 87 (.istore_n 3, 1) nE nE))) (nT 97 (.goto (-92), 3) (nT 92 (.istore 6, 2) (nT 89 (.invokevirtual 443, 3) nE nE) (nT 94 (.iinc 4 1, 3) nE nE)) (nT 101 (.ireturn, 1) (nT 100 (.iload_n 3, 1) nE nE) nE)))))
def i_X12_goDay : Nat → Option (Instr × Nat) := (nT 77 (.if_icmp .eq 6, 3) (nT 39 (.getfield 89, 3) (nT 17 (.aload_n 0, 1) (nT 5 (.aload_n 0, 1) (nT 2 (.iconst 0, 1) (nT 1 (.istore_n 1, 1) (nT 0 (.iconst 0, 1) nE nE) nE) (nT 4 (.iload_n 2, 1) (nT 3 (.istore_n 2, 1) nE nE) nE)) (nT 10 (.getfield 251, 3) (nT 9 (.aload_n 0, 1) (nT 6 (.getfield 24, 3) nE nE) nE) (nT 14 (.if_icmp .ge 120, 3) (nT 13 (.iaload, 1) nE nE) nE))) (nT 29 (.iload_n 2, 1) (nT 22 (.ifCond .ne 6, 3) (nT 19 (.invokevirtual 398, 3) (nT 18 (.iload_n 2, 1) nE nE) nE) (nT 28 (.aload_n 0, 1) (nT 25 (.goto 103, 3) nE nE) nE)) (nT 34 (.iconst 1, 1) (nT 33 (.aload_n 0, 1) (nT 30 (.invokevirtual 392, 3) nE nE) nE) (nT 38 (.aload_n 0, 1) (nT 35 (.invokevirtual 389, 3) nE nE) nE)))) (nT 58 (.aload_n 0, 1) (nT 49 (.iastore, 1) (nT 44 (.iadd, 1) (nT 43 (.iload_n 2, 1) (nT 42 (.iconst 0, 1) nE nE) nE) (nT 46 (.getfield 319, 3) (nT 45 (.aload_n 0, 1) nE nE) nE)) (nT 54 (.bipush 10, 2) (nT 51 (.getfield 89, 3) (nT 50 (.aload_n 0, 1) nE nE) nE) (nT 57 (.iadd, 1) (nT 56 (.iload_n 2, 1) nE nE) nE))) (nT 68 (.aload_n 0, 1) (nT 63 (.aload_n 0, 1) (nT 62 (.iastore, 1) (nT 59 (.getfield 322, 3) nE nE) nE) (nT 65 (.invokevirtual 386, 3) (nT 64 (.iload_n 2, 1) nE nE) nE)) (nT 74 (.iaload, 1) (nT 72 (.bipush 31, 2) (nT 69 (.getfield 89, 3) nE nE) nE) (nT 76 (.iadd, 1) (nT 75 (.iconst 1, 1) nE nE) nE))))) (nT 119 (.if_icmp .ne 9, 3) (nT 100 (.if_icmp .lt 7, 3) (nT 90 (.iadd, 1) (nT 84 (.getfield 89, 3) (nT 83 (.aload_n 0, 1) (nT 80 (.goto 48, 3) nE nE) nE) (nT 89 (.iload_n 2, 1) (nT 87 (.bipush 25, 2) nE nE) nE)) (nT 95 (.aload_n 0, 1) (nT 92 (.getfield 319, 3) (nT 91 (.aload_n 0, 1) nE nE) nE) (nT 97 (.invokevirtual 404, 3) (nT 96 (.iload_n 2, 1) nE nE) nE))) (nT 110 (.getfield 89, 3) (nT 107 (.iconst 2, 1) (nT 104 (.goto 4, 3) (nT 103 (.iconst 1, 1) nE nE) nE) (nT 109 (.aload_n 0, 1) (nT 108 (.iastore, 1) nE nE) nE)) (nT 116 (.iadd, 1) (nT 115 (.iload_n 2, 1) (nT 113 (.bipush 25, 2) nE nE) nE) (nT 118 (.iconst 1, 1) (nT 117 (.iaload, 1) nE nE) nE)))) (nT 140 (.dup2, 1) (nT 127 (.istore_n 1, 1) (nT 124 (.iload_n 2, 1) (nT 123 (.iconst 1, 1) (nT 122 (.iload_n 1, 1) nE nE) nE) (nT 126 (.ior, 1) (nT 125 (.ishl, 1) nE nE) nE)) (nT 134 (.aload_n 0, 1) (nT 131 (.goto (-127), 3) (nT 128 (.iinc 2 1, 3) nE nE) nE) (nT 138 (.bipush 31, 2) (nT 135 (.getfield 89, 3) nE nE) nE))) (nT 146 (.getfield 89, 3) (nT 143 (.iadd, 1) (nT 142 (.iconst 1, 1) (nT 141 (.iaload, 1) nE nE) nE) (nT 145 (.aload_n 0, 1) (nT 144 (.iastore, 1) nE nE) nE)) (nT 152 (.iastore, 1) (nT 151 (.iconst 0, 1) (nT 149 (.bipush 30, 2) nE nE) nE) (nT 154 (.ireturn, 1) (nT 153 (.iload_n 1, 1) nE nE) nE))))))
def i_X12_canShake : Nat → Option (Instr × Nat) := (nT 20 (.bipush 20, 2) (nT 9 (.iload_n 1, 1) (nT 2 (.invokevirtual 398, 3) (nT 1 (.iload_n 1, 1) (nT 0 (.aload_n 0, 1) nE nE) nE) (nT 8 (.aload_n 0, 1) (nT 5 (.ifCond .eq 29, 3) nE nE) nE)) (nT 16 (.aload_n 0, 1) (nT 13 (.ifCond .ne 21, 3) (nT 10 (.invokevirtual 431, 3) nE nE) nE) (nT 17 (.getfield 89, 3) nE nE))) (nT 27 (.if_icmp .ge 7, 3) (nT 24 (.iaload, 1) (nT 23 (.iadd, 1) (nT 22 (.iload_n 1, 1) nE nE) nE) (nT 25 (.bipush 99, 2) nE nE)) (nT 34 (.iconst 0, 1) (nT 31 (.goto 4, 3) (nT 30 (.iconst 1, 1) nE nE) nE) (nT 35 (.ireturn, 1) nE nE))))
def i_X12_times : Nat → Option (Instr × Nat) := (nT 9 (.iload_n 2, 1) (nT 3 (.istore_n 3, 1) (nT 1 (.istore_n 2, 1) (nT 0 (.iconst 1, 1) nE nE) (nT 2 (.iconst 0, 1) nE nE)) (nT 5 (.iload_n 1, 1) (nT 4 (.iload_n 3, 1) nE nE) (nT 6 (.if_icmp .ge 13, 3) nE nE))) (nT 13 (.iinc 3 1, 3) (nT 11 (.imul, 1) (nT 10 (.iload_n 0, 1) nE nE) (nT 12 (.istore_n 2, 1) nE nE)) (nT 19 (.iload_n 2, 1) (nT 16 (.goto (-12), 3) nE nE) (nT 20 (.ireturn, 1) nE nE))))
def i_X11_sabotage : Nat → Option (Instr × Nat) := (nT 4 (.iload_n 1, 1) (nT 1 (.getfield 87, 3) (nT 0 (.aload_n 0, 1) nE nE) nE) (nT 8 (.ireturn, 1) (nT 5 (.invokevirtual 298, 3) nE nE) nE))
def i_X3_chooseSabotage : Nat → Option (Instr × Nat) := (nT 38 (.iload_n 3, 1) (nT 18 (.iconst 0, 1) (nT 10 (.iconst 3, 1) (nT 5 (.iconst 1, 1) (nT 1 (.invokevirtual 122, 3) (nT 0 (.aload_n 0, 1) nE nE) (nT 4 (.iload_n 1, 1) nE nE)) (nT 9 (.iload_n 1, 1) (nT 6 (.if_icmp .lt 8, 3) nE nE) nE)) (nT 15 (.ireturn, 1) (nT 14 (.iconst (-1), 1) (nT 11 (.if_icmp .le 5, 3) nE nE) nE) (nT 17 (.istore_n 2, 1) (nT 16 (.iconst 1, 1) nE nE) nE))) (nT 28 (.imul, 1) (nT 22 (.if_icmp .ge 14, 3) (nT 20 (.iload_n 3, 1) (nT 19 (.istore_n 3, 1) nE nE) (nT 21 (.iload_n 1, 1) nE nE)) (nT 26 (.bipush 6, 2) (nT 25 (.iload_n 2, 1) nE nE) nE)) (nT 33 (.goto (-13), 3) (nT 30 (.iinc 3 1, 3) (nT 29 (.istore_n 2, 1) nE nE) nE) (nT 37 (.istore_n 3, 1) (nT 36 (.iconst 0, 1) nE nE) nE)))) (nT 62 (.istore_n 3, 1) (nT 49 (.iinc 3 1, 3) (nT 44 (.iload_n 3, 1) (nT 40 (.if_icmp .ge 15, 3) (nT 39 (.iconst 5, 1) nE nE) (nT 43 (.aload_n 0, 1) nE nE)) (nT 46 (.invokevirtual 161, 3) (nT 45 (.iload_n 1, 1) nE nE) nE)) (nT 56 (.bipush 6, 2) (nT 55 (.aload_n 0, 1) (nT 52 (.goto (-14), 3) nE nE) nE) (nT 61 (.iconst 0, 1) (nT 58 (.putfield 85, 3) nE nE) nE))) (nT 71 (.invokevirtual 164, 3) (nT 68 (.aload_n 0, 1) (nT 64 (.iload_n 2, 1) (nT 63 (.iload_n 3, 1) nE nE) (nT 65 (.if_icmp .ge 15, 3) nE nE)) (nT 70 (.iload_n 1, 1) (nT 69 (.iload_n 3, 1) nE nE) nE)) (nT 80 (.aload_n 0, 1) (nT 77 (.goto (-14), 3) (nT 74 (.iinc 3 1, 3) nE nE) nE) (nT 84 (.ireturn, 1) (nT 81 (.getfield 85, 3) nE nE) nE)))))
def i_X3_weighSabotage : Nat → Option (Instr × Nat) := (nT 82 (.iconst 0, 1) (nT 37 (.istore 4, 2) (nT 16 (.istore 5, 2) (nT 9 (.istore_n 3, 1) (nT 4 (.iconst 0, 1) (nT 1 (.getfield 18, 3) (nT 0 (.aload_n 0, 1) nE nE) nE) (nT 8 (.iconst 0, 1) (nT 5 (.invokestatic 66, 3) nE nE) nE)) (nT 13 (.iload_n 2, 1) (nT 11 (.istore 4, 2) (nT 10 (.iload_n 1, 1) nE nE) nE) (nT 15 (.isub, 1) (nT 14 (.iconst 1, 1) nE nE) nE))) (nT 28 (.iconst 1, 1) (nT 23 (.iload 4, 2) (nT 20 (.ifCond .lt 62, 3) (nT 18 (.iload 5, 2) nE nE) nE) (nT 27 (.irem, 1) (nT 25 (.bipush 6, 2) nE nE) nE)) (nT 32 (.iload 4, 2) (nT 30 (.istore 6, 2) (nT 29 (.isub, 1) nE nE) nE) (nT 36 (.idiv, 1) (nT 34 (.bipush 6, 2) nE nE) nE)))) (nT 60 (.getfield 18, 3) (nT 48 (.iload 6, 2) (nT 43 (.iload 5, 2) (nT 40 (.getfield 15, 3) (nT 39 (.aload_n 0, 1) nE nE) nE) (nT 47 (.iastore, 1) (nT 45 (.iload 6, 2) nE nE) nE)) (nT 55 (.iconst 5, 1) (nT 53 (.iload 6, 2) (nT 50 (.ifCond .lt 26, 3) nE nE) nE) (nT 59 (.aload_n 0, 1) (nT 56 (.if_icmp .ge 20, 3) nE nE) nE))) (nT 70 (.ishl, 1) (nT 66 (.iaload, 1) (nT 65 (.dup2, 1) (nT 63 (.iload 6, 2) nE nE) nE) (nT 68 (.iload 5, 2) (nT 67 (.iconst 1, 1) nE nE) nE)) (nT 73 (.iinc 3 1, 3) (nT 72 (.iastore, 1) (nT 71 (.ior, 1) nE nE) nE) (nT 79 (.goto (-61), 3) (nT 76 (.iinc 5 (-1), 3) nE nE) nE))))) (nT 124 (.istore 5, 2) (nT 104 (.iaload, 1) (nT 92 (.getfield 25, 3) (nT 87 (.iconst 5, 1) (nT 85 (.iload 5, 2) (nT 83 (.istore 5, 2) nE nE) nE) (nT 91 (.aload_n 0, 1) (nT 88 (.if_icmp .ge 32, 3) nE nE) nE)) (nT 98 (.aload_n 0, 1) (nT 97 (.laload, 1) (nT 95 (.iload 5, 2) nE nE) nE) (nT 102 (.iload 5, 2) (nT 99 (.getfield 18, 3) nE nE) nE))) (nT 110 (.ifCond .ne 4, 3) (nT 107 (.land, 1) (nT 106 (.lconst 1, 1) (nT 105 (.lshr, 1) nE nE) nE) (nT 109 (.lcmp, 1) (nT 108 (.lconst 0, 1) nE nE) nE)) (nT 117 (.goto (-32), 3) (nT 114 (.iinc 5 1, 3) (nT 113 (.return_, 1) nE nE) nE) (nT 121 (.invokevirtual 115, 3) (nT 120 (.aload_n 0, 1) nE nE) nE)))) (nT 149 (.if_icmp .ge 19, 3) (nT 137 (.aload_n 0, 1) (nT 129 (.getfield 85, 3) (nT 128 (.aload_n 0, 1) (nT 126 (.iload 5, 2) nE nE) nE) (nT 135 (.iload 5, 2) (nT 132 (.if_icmp .lt 20, 3) nE nE) nE)) (nT 144 (.iload_n 3, 1) (nT 141 (.if_icmp .ne 27, 3) (nT 138 (.getfield 85, 3) nE nE) nE) (nT 146 (.getfield 105, 3) (nT 145 (.aload_n 0, 1) nE nE) nE))) (nT 160 (.putfield 105, 3) (nT 155 (.putfield 85, 3) (nT 153 (.iload 5, 2) (nT 152 (.aload_n 0, 1) nE nE) nE) (nT 159 (.iload_n 3, 1) (nT 158 (.aload_n 0, 1) nE nE) nE)) (nT 165 (.invokevirtual 119, 3) (nT 164 (.iload_n 2, 1) (nT 163 (.aload_n 0, 1) nE nE) nE) (nT 168 (.return_, 1) nE nE))))))
def i_X3_layTried : Nat → Option (Instr × Nat) := (nT 10 (.bipush 6, 2) (nT 5 (.aload_n 0, 1) (nT 1 (.getfield 15, 3) (nT 0 (.aload_n 0, 1) nE nE) (nT 4 (.iconst 0, 1) nE nE)) (nT 9 (.iconst 0, 1) (nT 6 (.getfield 9, 3) nE nE) nE)) (nT 16 (.iload_n 1, 1) (nT 15 (.aload_n 0, 1) (nT 12 (.invokestatic 60, 3) nE nE) nE) (nT 20 (.return_, 1) (nT 17 (.putfield 56, 3) nE nE) nE)))
def i_X3_countForced : Nat → Option (Instr × Nat) := (nT 17 (.getfield 18, 3) (nT 6 (.if_icmp .ge 28, 3) (nT 3 (.istore_n 2, 1) (nT 1 (.istore_n 1, 1) (nT 0 (.iconst 0, 1) nE nE) (nT 2 (.iconst 0, 1) nE nE)) (nT 5 (.iconst 5, 1) (nT 4 (.iload_n 2, 1) nE nE) nE)) (nT 14 (.iload_n 2, 1) (nT 10 (.aload_n 0, 1) (nT 9 (.iload_n 1, 1) nE nE) (nT 11 (.getfield 21, 3) nE nE)) (nT 16 (.aload_n 0, 1) (nT 15 (.laload, 1) nE nE) nE))) (nT 26 (.iadd, 1) (nT 23 (.lconst 1, 1) (nT 21 (.iaload, 1) (nT 20 (.iload_n 2, 1) nE nE) (nT 22 (.lshr, 1) nE nE)) (nT 25 (.l2i, 1) (nT 24 (.land, 1) nE nE) nE)) (nT 31 (.goto (-27), 3) (nT 28 (.iinc 2 1, 3) (nT 27 (.istore_n 1, 1) nE nE) nE) (nT 35 (.ireturn, 1) (nT 34 (.iload_n 1, 1) nE nE) nE))))
def i_J7_fill_53178 : Nat → Option (Instr × Nat) := (nT 7 (.if_icmp .ge 13, 3) (nT 3 (.arraylength, 1) (nT 1 (.istore_n 2, 1) (nT 0 (.iconst 0, 1) nE nE) (nT 2 (.aload_n 0, 1) nE nE)) (nT 5 (.iload_n 2, 1) (nT 4 (.istore_n 3, 1) nE nE) (nT 6 (.iload_n 3, 1) nE nE))) (nT 13 (.iastore, 1) (nT 11 (.iload_n 2, 1) (nT 10 (.aload_n 0, 1) nE nE) (nT 12 (.iload_n 1, 1) nE nE)) (nT 17 (.goto (-12), 3) (nT 14 (.iinc 2 1, 3) nE nE) (nT 20 (.return_, 1) nE nE))))
def i_X3_fillShaken : Nat → Option (Instr × Nat) := (nT 127 (.if_icmp .ge 7, 3) (nT 57 (.aload_n 0, 1) (nT 27 (.istore_n 3, 1) (nT 12 (.lconst 0, 1) (nT 6 (.lastore, 1) (nT 4 (.iload_n 1, 1) (nT 1 (.getfield 25, 3) (nT 0 (.aload_n 0, 1) nE nE) nE) (nT 5 (.lconst 1, 1) nE nE)) (nT 8 (.getfield 21, 3) (nT 7 (.aload_n 0, 1) nE nE) (nT 11 (.iload_n 1, 1) nE nE))) (nT 19 (.invokevirtual 92, 3) (nT 15 (.getfield 49, 3) (nT 14 (.aload_n 0, 1) (nT 13 (.lastore, 1) nE nE) nE) (nT 18 (.iload_n 1, 1) nE nE)) (nT 25 (.return_, 1) (nT 22 (.ifCond .ne 4, 3) nE nE) (nT 26 (.iconst 0, 1) nE nE)))) (nT 40 (.invokevirtual 167, 3) (nT 32 (.if_icmp .ge 225, 3) (nT 30 (.iload_n 2, 1) (nT 29 (.iconst 1, 1) (nT 28 (.iload_n 3, 1) nE nE) nE) (nT 31 (.ishl, 1) nE nE)) (nT 36 (.getfield 41, 3) (nT 35 (.aload_n 0, 1) nE nE) (nT 39 (.iload_n 1, 1) nE nE))) (nT 50 (.iconst 0, 1) (nT 46 (.iconst 1, 1) (nT 43 (.ifCond .ne 7, 3) nE nE) (nT 47 (.goto 4, 3) nE nE)) (nT 53 (.aload_n 0, 1) (nT 51 (.istore 4, 2) nE nE) (nT 54 (.getfield 45, 3) nE nE))))) (nT 93 (.goto 4, 3) (nT 74 (.aload_n 0, 1) (nT 66 (.istore 5, 2) (nT 62 (.invokevirtual 125, 3) (nT 61 (.iload_n 1, 1) (nT 58 (.getfield 41, 3) nE nE) nE) (nT 65 (.iconst 0, 1) nE nE)) (nT 70 (.iload_n 2, 1) (nT 68 (.iload 5, 2) nE nE) (nT 71 (.if_icmp .ge 102, 3) nE nE))) (nT 85 (.iload_n 1, 1) (nT 81 (.aload_n 0, 1) (nT 78 (.getfield 149, 3) (nT 75 (.getfield 45, 3) nE nE) nE) (nT 82 (.getfield 37, 3) nE nE)) (nT 89 (.if_icmp .lt 7, 3) (nT 86 (.invokevirtual 129, 3) nE nE) (nT 92 (.iconst 1, 1) nE nE)))) (nT 108 (.iload 4, 2) (nT 102 (.ishr, 1) (nT 99 (.iload_n 3, 1) (nT 97 (.istore 6, 2) (nT 96 (.iconst 0, 1) nE nE) nE) (nT 100 (.iload 5, 2) nE nE)) (nT 104 (.iand, 1) (nT 103 (.iconst 1, 1) nE nE) (nT 105 (.ifCond .eq 45, 3) nE nE))) (nT 118 (.aload_n 0, 1) (nT 113 (.iload 6, 2) (nT 110 (.ifCond .eq 24, 3) nE nE) (nT 115 (.ifCond .ne 19, 3) nE nE)) (nT 122 (.getfield 170, 3) (nT 119 (.getfield 45, 3) nE nE) (nT 125 (.bipush 99, 2) nE nE)))))) (nT 200 (.iload_n 1, 1) (nT 163 (.iconst 1, 1) (nT 145 (.iconst 1, 1) (nT 137 (.aload_n 0, 1) (nT 134 (.iconst 0, 1) (nT 131 (.goto 4, 3) (nT 130 (.iconst 1, 1) nE nE) nE) (nT 135 (.istore 4, 2) nE nE)) (nT 141 (.dup, 1) (nT 138 (.getfield 45, 3) nE nE) (nT 142 (.getfield 170, 3) nE nE))) (nT 154 (.iload 6, 2) (nT 150 (.aload_n 0, 1) (nT 147 (.putfield 170, 3) (nT 146 (.iadd, 1) nE nE) nE) (nT 151 (.getfield 45, 3) nE nE)) (nT 159 (.iconst 0, 1) (nT 156 (.ifCond .eq 7, 3) nE nE) (nT 160 (.goto 4, 3) nE nE)))) (nT 182 (.invokevirtual 129, 3) (nT 174 (.getfield 45, 3) (nT 170 (.goto (-102), 3) (nT 167 (.iinc 5 1, 3) (nT 164 (.invokevirtual 155, 3) nE nE) nE) (nT 173 (.aload_n 0, 1) nE nE)) (nT 178 (.getfield 37, 3) (nT 177 (.aload_n 0, 1) nE nE) (nT 181 (.iload_n 1, 1) nE nE))) (nT 192 (.isub, 1) (nT 186 (.getfield 45, 3) (nT 185 (.aload_n 0, 1) nE nE) (nT 189 (.getfield 149, 3) nE nE)) (nT 196 (.aload_n 0, 1) (nT 193 (.invokevirtual 155, 3) nE nE) (nT 197 (.getfield 25, 3) nE nE))))) (nT 225 (.getfield 45, 3) (nT 214 (.lconst 0, 1) (nT 208 (.lconst 1, 1) (nT 203 (.iload 4, 2) (nT 202 (.laload, 1) (nT 201 (.dup2, 1) nE nE) nE) (nT 205 (.ifCond .eq 9, 3) nE nE)) (nT 210 (.lshl, 1) (nT 209 (.iload_n 3, 1) nE nE) (nT 211 (.goto 4, 3) nE nE))) (nT 221 (.iload_n 1, 1) (nT 217 (.aload_n 0, 1) (nT 216 (.lastore, 1) (nT 215 (.lor, 1) nE nE) nE) (nT 218 (.getfield 21, 3) nE nE)) (nT 223 (.laload, 1) (nT 222 (.dup2, 1) nE nE) (nT 224 (.aload_n 0, 1) nE nE)))) (nT 244 (.lshl, 1) (nT 236 (.invokevirtual 100, 3) (nT 232 (.getfield 37, 3) (nT 231 (.aload_n 0, 1) (nT 228 (.getfield 158, 3) nE nE) nE) (nT 235 (.iload_n 1, 1) nE nE)) (nT 242 (.lconst 1, 1) (nT 239 (.if_icmp .lt 9, 3) nE nE) (nT 243 (.iload_n 3, 1) nE nE))) (nT 250 (.lastore, 1) (nT 248 (.lconst 0, 1) (nT 245 (.goto 4, 3) nE nE) (nT 249 (.lor, 1) nE nE)) (nT 254 (.goto (-226), 3) (nT 251 (.iinc 3 1, 3) nE nE) (nT 257 (.return_, 1) nE nE)))))))
def i_X3_clear : Nat → Option (Instr × Nat) := (nT 2 (.putfield 56, 3) (nT 1 (.iconst 0, 1) (nT 0 (.aload_n 0, 1) nE nE) nE) (nT 5 (.return_, 1) nE nE))
def i_X12_spoil : Nat → Option (Instr × Nat) := (nT 19 (.iload_n 1, 1) (nT 10 (.iconst 0, 1) (nT 5 (.ifCond .ne 5, 3) (nT 1 (.iload_n 1, 1) (nT 0 (.aload_n 0, 1) nE nE) (nT 2 (.invokevirtual 398, 3) nE nE)) (nT 9 (.ireturn, 1) (nT 8 (.iconst (-1), 1) nE nE) nE)) (nT 13 (.bipush 20, 2) (nT 12 (.iload_n 2, 1) (nT 11 (.istore_n 2, 1) nE nE) nE) (nT 18 (.aload_n 0, 1) (nT 15 (.if_icmp .gt 25, 3) nE nE) nE))) (nT 32 (.iload_n 2, 1) (nT 25 (.iload_n 1, 1) (nT 21 (.invokevirtual 461, 3) (nT 20 (.iload_n 2, 1) nE nE) (nT 24 (.aload_n 0, 1) nE nE)) (nT 29 (.if_icmp .ge 5, 3) (nT 26 (.invokevirtual 404, 3) nE nE) nE)) (nT 37 (.goto (-25), 3) (nT 34 (.iinc 2 1, 3) (nT 33 (.ireturn, 1) nE nE) nE) (nT 41 (.ireturn, 1) (nT 40 (.iconst (-1), 1) nE nE) nE))))
def i_X11_spoil : Nat → Option (Instr × Nat) := (nT 4 (.iload_n 1, 1) (nT 1 (.getfield 71, 3) (nT 0 (.aload_n 0, 1) nE nE) nE) (nT 8 (.ireturn, 1) (nT 5 (.invokevirtual 295, 3) nE nE) nE))
def i_X1_shakesToSpoil : Nat → Option (Instr × Nat) := (nT 19 (.invokevirtual 118, 3) (nT 9 (.iload_n 1, 1) (nT 3 (.bipush 20, 2) (nT 1 (.istore_n 2, 1) (nT 0 (.iconst 0, 1) nE nE) (nT 2 (.iload_n 2, 1) nE nE)) (nT 8 (.aload_n 0, 1) (nT 5 (.if_icmp .gt 36, 3) nE nE) nE)) (nT 16 (.aload_n 0, 1) (nT 13 (.ifCond .eq 28, 3) (nT 10 (.invokevirtual 46, 3) nE nE) nE) (nT 18 (.iload_n 2, 1) (nT 17 (.iload_n 1, 1) nE nE) nE))) (nT 33 (.iload_n 2, 1) (nT 26 (.iload_n 1, 1) (nT 23 (.getfield 9, 3) (nT 22 (.aload_n 0, 1) nE nE) nE) (nT 30 (.if_icmp .ge 5, 3) (nT 27 (.invokevirtual 101, 3) nE nE) nE)) (nT 38 (.goto (-36), 3) (nT 35 (.iinc 2 1, 3) (nT 34 (.ireturn, 1) nE nE) nE) (nT 42 (.ireturn, 1) (nT 41 (.iconst (-1), 1) nE nE) nE))))
def i_X12_queue : Nat → Option (Instr × Nat) := (nT 60 (.ifCond .ne 6, 3) (nT 28 (.invokestatic 449, 3) (nT 15 (.aload_n 0, 1) (nT 6 (.iload_n 1, 1) (nT 2 (.putfield 374, 3) (nT 1 (.iconst 0, 1) (nT 0 (.aload_n 0, 1) nE nE) nE) (nT 5 (.aload_n 0, 1) nE nE)) (nT 13 (.iconst (-1), 1) (nT 10 (.ifCond .ne 5, 3) (nT 7 (.invokevirtual 398, 3) nE nE) nE) (nT 14 (.ireturn, 1) nE nE))) (nT 24 (.iconst 5, 1) (nT 20 (.aload_n 0, 1) (nT 17 (.invokevirtual 347, 3) (nT 16 (.aload_n 0, 1) nE nE) nE) (nT 21 (.getfield 89, 3) nE nE)) (nT 26 (.iadd, 1) (nT 25 (.iload_n 1, 1) nE nE) (nT 27 (.iaload, 1) nE nE)))) (nT 41 (.invokevirtual 347, 3) (nT 37 (.iconst 0, 1) (nT 35 (.iconst (-1), 1) (nT 32 (.putfield 507, 3) (nT 31 (.isub, 1) nE nE) nE) (nT 36 (.istore_n 2, 1) nE nE)) (nT 39 (.iload_n 3, 1) (nT 38 (.istore_n 3, 1) nE nE) (nT 40 (.aload_n 0, 1) nE nE))) (nT 54 (.aload_n 0, 1) (nT 48 (.invokestatic 476, 3) (nT 45 (.getfield 507, 3) (nT 44 (.aload_n 0, 1) nE nE) nE) (nT 51 (.if_icmp .ge 72, 3) nE nE)) (nT 56 (.iload_n 3, 1) (nT 55 (.iload_n 1, 1) nE nE) (nT 57 (.invokevirtual 510, 3) nE nE))))) (nT 97 (.aload_n 0, 1) (nT 79 (.goto 38, 3) (nT 71 (.istore 4, 2) (nT 67 (.iload_n 1, 1) (nT 66 (.aload_n 0, 1) (nT 63 (.goto 54, 3) nE nE) nE) (nT 68 (.invokevirtual 513, 3) nE nE)) (nT 75 (.iload_n 2, 1) (nT 73 (.iload 4, 2) nE nE) (nT 76 (.if_icmp .gt 6, 3) nE nE))) (nT 88 (.iload 5, 2) (nT 85 (.iconst 0, 1) (nT 84 (.istore_n 2, 1) (nT 82 (.iload 4, 2) nE nE) nE) (nT 86 (.istore 5, 2) nE nE)) (nT 91 (.getfield 507, 3) (nT 90 (.aload_n 0, 1) nE nE) (nT 94 (.if_icmp .ge 23, 3) nE nE)))) (nT 114 (.goto (-26), 3) (nT 107 (.iload 5, 2) (nT 103 (.aload_n 0, 1) (nT 101 (.iload 5, 2) (nT 98 (.getfield 101, 3) nE nE) nE) (nT 104 (.getfield 104, 3) nE nE)) (nT 110 (.iastore, 1) (nT 109 (.iaload, 1) nE nE) (nT 111 (.iinc 5 1, 3) nE nE))) (nT 125 (.getfield 507, 3) (nT 123 (.aload_n 0, 1) (nT 120 (.goto (-81), 3) (nT 117 (.iinc 3 1, 3) nE nE) nE) (nT 124 (.aload_n 0, 1) nE nE)) (nT 131 (.iload_n 2, 1) (nT 128 (.putfield 374, 3) nE nE) (nT 132 (.ireturn, 1) nE nE))))))
def i_X12_openedByQueue : Nat → Option (Instr × Nat) := (nT 28 (.iconst 1, 1) (nT 12 (.if_icmp .ge 38, 3) (nT 6 (.istore_n 2, 1) (nT 2 (.invokevirtual 392, 3) (nT 1 (.iload_n 1, 1) (nT 0 (.aload_n 0, 1) nE nE) nE) (nT 5 (.iconst 0, 1) nE nE)) (nT 8 (.aload_n 0, 1) (nT 7 (.iload_n 2, 1) nE nE) (nT 9 (.getfield 507, 3) nE nE))) (nT 20 (.iload_n 1, 1) (nT 16 (.getfield 337, 3) (nT 15 (.aload_n 0, 1) nE nE) (nT 19 (.aload_n 0, 1) nE nE)) (nT 24 (.if_icmp .ge 26, 3) (nT 21 (.invokevirtual 386, 3) nE nE) (nT 27 (.aload_n 0, 1) nE nE)))) (nT 40 (.iconst 1, 1) (nT 34 (.iaload, 1) (nT 30 (.getfield 104, 3) (nT 29 (.aload_n 0, 1) nE nE) (nT 33 (.iload_n 2, 1) nE nE)) (nT 36 (.invokevirtual 407, 3) (nT 35 (.ishl, 1) nE nE) (nT 39 (.aload_n 0, 1) nE nE))) (nT 50 (.aload_n 0, 1) (nT 44 (.iinc 2 1, 3) (nT 41 (.invokevirtual 389, 3) nE nE) (nT 47 (.goto (-40), 3) nE nE)) (nT 52 (.invokevirtual 395, 3) (nT 51 (.iload_n 1, 1) nE nE) (nT 55 (.ireturn, 1) nE nE)))))
def i_X12_layQueue : Nat → Option (Instr × Nat) := (nT 42 (.iconst 5, 1) (nT 22 (.iload 5, 2) (nT 9 (.iconst 1, 1) (nT 3 (.istore 4, 2) (nT 1 (.istore_n 3, 1) (nT 0 (.iload_n 2, 1) nE nE) (nT 2 (.iconst 0, 1) nE nE)) (nT 6 (.getfield 507, 3) (nT 5 (.aload_n 0, 1) nE nE) nE)) (nT 15 (.ifCond .lt 69, 3) (nT 11 (.istore 5, 2) (nT 10 (.isub, 1) nE nE) (nT 13 (.iload 5, 2) nE nE)) (nT 19 (.getfield 104, 3) (nT 18 (.aload_n 0, 1) nE nE) nE))) (nT 32 (.aload_n 0, 1) (nT 29 (.irem, 1) (nT 25 (.aload_n 0, 1) (nT 24 (.iload_n 3, 1) nE nE) (nT 26 (.invokevirtual 347, 3) nE nE)) (nT 31 (.iload_n 3, 1) (nT 30 (.iastore, 1) nE nE) nE)) (nT 37 (.istore_n 3, 1) (nT 36 (.idiv, 1) (nT 33 (.invokevirtual 347, 3) nE nE) nE) (nT 39 (.getfield 89, 3) (nT 38 (.aload_n 0, 1) nE nE) nE)))) (nT 64 (.iload 4, 2) (nT 50 (.getfield 104, 3) (nT 46 (.iload 4, 2) (nT 44 (.iadd, 1) (nT 43 (.iload_n 1, 1) nE nE) (nT 45 (.iaload, 1) nE nE)) (nT 49 (.aload_n 0, 1) (nT 48 (.ior, 1) nE nE) nE)) (nT 59 (.ifCond .eq 5, 3) (nT 55 (.iaload, 1) (nT 53 (.iload 5, 2) nE nE) (nT 56 (.invokestatic 357, 3) nE nE)) (nT 63 (.ireturn, 1) (nT 62 (.iconst 0, 1) nE nE) nE))) (nT 75 (.ior, 1) (nT 71 (.iload 5, 2) (nT 67 (.aload_n 0, 1) (nT 66 (.iconst 1, 1) nE nE) (nT 68 (.getfield 104, 3) nE nE)) (nT 74 (.ishl, 1) (nT 73 (.iaload, 1) nE nE) nE)) (nT 81 (.goto (-68), 3) (nT 78 (.iinc 5 (-1), 3) (nT 76 (.istore 4, 2) nE nE) nE) (nT 85 (.ireturn, 1) (nT 84 (.iconst 1, 1) nE nE) nE)))))
def i_X12_bitsOf : Nat → Option (Instr × Nat) := (nT 12 (.iload_n 2, 1) (nT 4 (.iload_n 2, 1) (nT 2 (.iload_n 0, 1) (nT 1 (.istore_n 1, 1) (nT 0 (.iconst 0, 1) nE nE) nE) (nT 3 (.istore_n 2, 1) nE nE)) (nT 8 (.iinc 1 1, 3) (nT 5 (.ifCond .eq 15, 3) nE nE) (nT 11 (.iload_n 2, 1) nE nE))) (nT 16 (.istore_n 2, 1) (nT 14 (.isub, 1) (nT 13 (.iconst 1, 1) nE nE) (nT 15 (.iand, 1) nE nE)) (nT 20 (.iload_n 1, 1) (nT 17 (.goto (-13), 3) nE nE) (nT 21 (.ireturn, 1) nE nE))))
def i_X11_queue : Nat → Option (Instr × Nat) := (nT 4 (.iload_n 1, 1) (nT 1 (.getfield 87, 3) (nT 0 (.aload_n 0, 1) nE nE) nE) (nT 8 (.ireturn, 1) (nT 5 (.invokevirtual 292, 3) nE nE) nE))
def i_X3_chooseQueue : Nat → Option (Instr × Nat) := (nT 44 (.getfield 37, 3) (nT 24 (.iconst (-1), 1) (nT 10 (.getfield 49, 3) (nT 5 (.iconst (-1), 1) (nT 1 (.invokevirtual 122, 3) (nT 0 (.aload_n 0, 1) nE nE) (nT 4 (.aload_n 0, 1) nE nE)) (nT 9 (.aload_n 0, 1) (nT 6 (.putfield 85, 3) nE nE) nE)) (nT 17 (.ifCond .eq 63, 3) (nT 14 (.invokevirtual 92, 3) (nT 13 (.iload_n 1, 1) nE nE) nE) (nT 21 (.getfield 34, 3) (nT 20 (.aload_n 0, 1) nE nE) nE))) (nT 34 (.aload_n 0, 1) (nT 29 (.getfield 30, 3) (nT 28 (.aload_n 0, 1) (nT 25 (.invokestatic 66, 3) nE nE) nE) (nT 33 (.aaload, 1) (nT 32 (.iconst 0, 1) nE nE) nE)) (nT 39 (.invokevirtual 125, 3) (nT 38 (.iload_n 1, 1) (nT 35 (.getfield 41, 3) nE nE) nE) (nT 43 (.aload_n 0, 1) (nT 42 (.iconst 1, 1) nE nE) nE)))) (nT 65 (.aload_n 0, 1) (nT 55 (.aload_n 0, 1) (nT 52 (.isub, 1) (nT 50 (.ishl, 1) (nT 47 (.getfield 108, 3) nE nE) (nT 51 (.iconst 1, 1) nE nE)) (nT 54 (.aload_n 0, 1) (nT 53 (.istore_n 2, 1) nE nE) nE)) (nT 60 (.invokevirtual 129, 3) (nT 59 (.iload_n 1, 1) (nT 56 (.getfield 37, 3) nE nE) nE) (nT 64 (.iload_n 2, 1) (nT 63 (.iconst 0, 1) nE nE) nE))) (nT 75 (.ixor, 1) (nT 70 (.iconst 1, 1) (nT 69 (.iload_n 1, 1) (nT 66 (.getfield 41, 3) nE nE) nE) (nT 74 (.iconst (-1), 1) (nT 71 (.invokevirtual 134, 3) nE nE) nE)) (nT 80 (.aload_n 0, 1) (nT 77 (.invokevirtual 138, 3) (nT 76 (.iand, 1) nE nE) nE) (nT 84 (.ireturn, 1) (nT 81 (.getfield 85, 3) nE nE) nE)))))
def i_X3_extendQueue : Nat → Option (Instr × Nat) := (nT 54 (.invokevirtual 145, 3) (nT 25 (.astore 4, 2) (nT 13 (.invokevirtual 142, 3) (nT 7 (.if_icmp .lt 10, 3) (nT 4 (.iload_n 2, 1) (nT 1 (.ifCond .eq 9, 3) (nT 0 (.iload_n 3, 1) nE nE) nE) (nT 5 (.bipush 6, 2) nE nE)) (nT 11 (.iload_n 1, 1) (nT 10 (.aload_n 0, 1) nE nE) (nT 12 (.iload_n 2, 1) nE nE))) (nT 21 (.iload_n 2, 1) (nT 17 (.aload_n 0, 1) (nT 16 (.return_, 1) nE nE) (nT 18 (.getfield 30, 3) nE nE)) (nT 23 (.iadd, 1) (nT 22 (.iconst 1, 1) nE nE) (nT 24 (.aaload, 1) nE nE)))) (nT 41 (.iconst 1, 1) (nT 34 (.if_icmp .ge 77, 3) (nT 30 (.iload 5, 2) (nT 28 (.istore 5, 2) (nT 27 (.iconst 0, 1) nE nE) nE) (nT 32 (.bipush 6, 2) nE nE)) (nT 38 (.iload 5, 2) (nT 37 (.iload_n 3, 1) nE nE) (nT 40 (.ishr, 1) nE nE))) (nT 48 (.aload_n 0, 1) (nT 43 (.ifCond .eq 62, 3) (nT 42 (.iand, 1) nE nE) (nT 46 (.aload 4, 2) nE nE)) (nT 52 (.iload_n 2, 1) (nT 49 (.getfield 30, 3) nE nE) (nT 53 (.aaload, 1) nE nE))))) (nT 88 (.iastore, 1) (nT 72 (.invokevirtual 152, 3) (nT 66 (.aload 4, 2) (nT 62 (.iload_n 1, 1) (nT 59 (.getfield 149, 3) (nT 57 (.aload 4, 2) nE nE) nE) (nT 63 (.if_icmp .ge 18, 3) nE nE)) (nT 69 (.iload 5, 2) (nT 68 (.iconst 1, 1) nE nE) (nT 71 (.ishl, 1) nE nE))) (nT 81 (.aload_n 0, 1) (nT 77 (.iconst 1, 1) (nT 75 (.aload 4, 2) nE nE) (nT 78 (.invokevirtual 155, 3) nE nE)) (nT 85 (.iload_n 2, 1) (nT 82 (.getfield 15, 3) nE nE) (nT 86 (.iload 5, 2) nE nE)))) (nT 98 (.ishl, 1) (nT 93 (.iadd, 1) (nT 91 (.iload_n 2, 1) (nT 90 (.iload_n 1, 1) (nT 89 (.aload_n 0, 1) nE nE) nE) (nT 92 (.iconst 1, 1) nE nE)) (nT 95 (.iconst 1, 1) (nT 94 (.iload_n 3, 1) nE nE) (nT 96 (.iload 5, 2) nE nE))) (nT 102 (.invokevirtual 138, 3) (nT 100 (.ixor, 1) (nT 99 (.iconst (-1), 1) nE nE) (nT 101 (.iand, 1) nE nE)) (nT 108 (.goto (-78), 3) (nT 105 (.iinc 5 1, 3) nE nE) (nT 111 (.return_, 1) nE nE))))))
def i_X10_copyFrom : Nat → Option (Instr × Nat) := (nT 24 (.aload_n 0, 1) (nT 10 (.getfield 25, 3) (nT 5 (.putfield 21, 3) (nT 1 (.aload_n 1, 1) (nT 0 (.aload_n 0, 1) nE nE) (nT 2 (.getfield 21, 3) nE nE)) (nT 9 (.aload_n 1, 1) (nT 8 (.aload_n 0, 1) nE nE) nE)) (nT 17 (.aload_n 1, 1) (nT 16 (.aload_n 0, 1) (nT 13 (.putfield 25, 3) nE nE) nE) (nT 21 (.putfield 28, 3) (nT 18 (.getfield 28, 3) nE nE) nE))) (nT 37 (.putfield 34, 3) (nT 32 (.aload_n 0, 1) (nT 26 (.getfield 31, 3) (nT 25 (.aload_n 1, 1) nE nE) (nT 29 (.putfield 31, 3) nE nE)) (nT 34 (.getfield 34, 3) (nT 33 (.aload_n 1, 1) nE nE) nE)) (nT 42 (.getfield 40, 3) (nT 41 (.aload_n 1, 1) (nT 40 (.aload_n 0, 1) nE nE) nE) (nT 48 (.return_, 1) (nT 45 (.putfield 40, 3) nE nE) nE))))
def i_X3_weighQueue : Nat → Option (Instr × Nat) := (nT 59 (.aload_n 0, 1) (nT 29 (.sipush 999, 3) (nT 15 (.aaload, 1) (nT 7 (.if_icmp .gt 15, 3) (nT 4 (.iload_n 2, 1) (nT 1 (.ifCond .lt 21, 3) (nT 0 (.iload_n 2, 1) nE nE) nE) (nT 5 (.bipush 6, 2) nE nE)) (nT 11 (.getfield 30, 3) (nT 10 (.aload_n 0, 1) nE nE) (nT 14 (.iload_n 2, 1) nE nE))) (nT 23 (.istore_n 3, 1) (nT 19 (.goto 4, 3) (nT 16 (.getfield 158, 3) nE nE) (nT 22 (.iconst (-1), 1) nE nE)) (nT 25 (.ifCond .lt 10, 3) (nT 24 (.iload_n 3, 1) nE nE) (nT 28 (.iload_n 3, 1) nE nE)))) (nT 43 (.if_icmp .ne 45, 3) (nT 37 (.getfield 34, 3) (nT 35 (.return_, 1) (nT 32 (.if_icmp .le 4, 3) nE nE) (nT 36 (.aload_n 0, 1) nE nE)) (nT 41 (.iaload, 1) (nT 40 (.iload_n 3, 1) nE nE) (nT 42 (.iconst (-1), 1) nE nE))) (nT 51 (.getfield 30, 3) (nT 47 (.getfield 45, 3) (nT 46 (.aload_n 0, 1) nE nE) (nT 50 (.aload_n 0, 1) nE nE)) (nT 55 (.aaload, 1) (nT 54 (.iload_n 2, 1) nE nE) (nT 56 (.invokevirtual 145, 3) nE nE))))) (nT 89 (.getfield 34, 3) (nT 75 (.aload_n 0, 1) (nT 65 (.getfield 45, 3) (nT 63 (.iload_n 1, 1) (nT 60 (.getfield 45, 3) nE nE) (nT 64 (.aload_n 0, 1) nE nE)) (nT 71 (.isub, 1) (nT 68 (.getfield 149, 3) nE nE) (nT 72 (.invokevirtual 155, 3) nE nE))) (nT 81 (.getfield 45, 3) (nT 79 (.iload_n 3, 1) (nT 76 (.getfield 34, 3) nE nE) (nT 80 (.aload_n 0, 1) nE nE)) (nT 87 (.iastore, 1) (nT 84 (.getfield 158, 3) nE nE) (nT 88 (.aload_n 0, 1) nE nE)))) (nT 103 (.getfield 34, 3) (nT 95 (.getfield 85, 3) (nT 93 (.iaload, 1) (nT 92 (.iload_n 3, 1) nE nE) (nT 94 (.aload_n 0, 1) nE nE)) (nT 101 (.aload_n 0, 1) (nT 98 (.if_icmp .le 18, 3) nE nE) (nT 102 (.aload_n 0, 1) nE nE))) (nT 111 (.aload_n 0, 1) (nT 107 (.iaload, 1) (nT 106 (.iload_n 3, 1) nE nE) (nT 108 (.putfield 85, 3) nE nE)) (nT 113 (.invokevirtual 119, 3) (nT 112 (.iload_n 2, 1) nE nE) (nT 116 (.return_, 1) nE nE))))))
def i_X12_ripe : Nat → Option (Instr × Nat) := (nT 51 (.aload_n 0, 1) (nT 25 (.iand, 1) (nT 13 (.ifCond .eq 25, 3) (nT 5 (.ifCond .eq 33, 3) (nT 1 (.iload_n 1, 1) (nT 0 (.aload_n 0, 1) nE nE) (nT 2 (.invokevirtual 398, 3) nE nE)) (nT 9 (.iload_n 2, 1) (nT 8 (.aload_n 0, 1) nE nE) (nT 10 (.invokevirtual 458, 3) nE nE))) (nT 21 (.iconst 5, 1) (nT 17 (.aload_n 0, 1) (nT 16 (.iload_n 2, 1) nE nE) (nT 18 (.getfield 89, 3) nE nE)) (nT 23 (.iadd, 1) (nT 22 (.iload_n 1, 1) nE nE) (nT 24 (.iaload, 1) nE nE)))) (nT 39 (.ireturn, 1) (nT 31 (.iconst 1, 1) (nT 29 (.iload_n 3, 1) (nT 26 (.ifCond .ne 12, 3) nE nE) (nT 30 (.iconst 0, 1) nE nE)) (nT 35 (.ifCond .ne 5, 3) (nT 32 (.invokestatic 350, 3) nE nE) (nT 38 (.iconst (-1), 1) nE nE))) (nT 44 (.istore 5, 2) (nT 41 (.istore 4, 2) (nT 40 (.iconst (-1), 1) nE nE) (nT 43 (.iconst (-1), 1) nE nE)) (nT 47 (.istore 6, 2) (nT 46 (.iconst 0, 1) nE nE) (nT 49 (.iload 6, 2) nE nE))))) (nT 79 (.iload 5, 2) (nT 64 (.if_icmp .ge 37, 3) (nT 57 (.getfield 89, 3) (nT 53 (.invokevirtual 386, 3) (nT 52 (.iload_n 1, 1) nE nE) (nT 56 (.aload_n 0, 1) nE nE)) (nT 62 (.iaload, 1) (nT 60 (.bipush 31, 2) nE nE) (nT 63 (.isub, 1) nE nE))) (nT 70 (.iload 6, 2) (nT 68 (.iload_n 1, 1) (nT 67 (.aload_n 0, 1) nE nE) (nT 69 (.iload_n 2, 1) nE nE)) (nT 75 (.istore 7, 2) (nT 72 (.invokevirtual 455, 3) nE nE) (nT 77 (.iload 7, 2) nE nE)))) (nT 98 (.goto (-49), 3) (nT 89 (.istore 4, 2) (nT 84 (.goto 11, 3) (nT 81 (.if_icmp .gt 6, 3) nE nE) (nT 87 (.iload 6, 2) nE nE)) (nT 93 (.istore 5, 2) (nT 91 (.iload 7, 2) nE nE) (nT 95 (.iinc 6 1, 3) nE nE))) (nT 107 (.goto 5, 3) (nT 102 (.ifCond .ne 8, 3) (nT 101 (.iload_n 3, 1) nE nE) (nT 105 (.iload 4, 2) nE nE)) (nT 112 (.ireturn, 1) (nT 110 (.iload 5, 2) nE nE) nE)))))
def i_X12_openedLater : Nat → Option (Instr × Nat) := (nT 10 (.aload_n 0, 1) (nT 5 (.aload_n 0, 1) (nT 1 (.iload_n 1, 1) (nT 0 (.aload_n 0, 1) nE nE) (nT 2 (.invokevirtual 392, 3) nE nE)) (nT 7 (.invokevirtual 389, 3) (nT 6 (.iload_n 3, 1) nE nE) nE)) (nT 16 (.iload_n 1, 1) (nT 12 (.invokevirtual 407, 3) (nT 11 (.iload_n 2, 1) nE nE) (nT 15 (.aload_n 0, 1) nE nE)) (nT 20 (.ireturn, 1) (nT 17 (.invokevirtual 395, 3) nE nE) nE)))
def i_X12_isSet : Nat → Option (Instr × Nat) := (nT 7 (.ishl, 1) (nT 2 (.iconst 1, 1) (nT 1 (.iconst 0, 1) (nT 0 (.iload_n 1, 1) nE nE) nE) (nT 4 (.invokevirtual 347, 3) (nT 3 (.aload_n 0, 1) nE nE) nE)) (nT 10 (.invokestatic 350, 3) (nT 9 (.isub, 1) (nT 8 (.iconst 1, 1) nE nE) nE) (nT 13 (.ireturn, 1) nE nE)))
def i_X11_ripe : Nat → Option (Instr × Nat) := (nT 22 (.iload 4, 2) (nT 10 (.ireturn, 1) (nT 5 (.iconst 1, 1) (nT 1 (.ifCond .eq 10, 3) (nT 0 (.iload_n 3, 1) nE nE) (nT 4 (.iload_n 3, 1) nE nE)) (nT 9 (.iconst (-1), 1) (nT 6 (.if_icmp .eq 5, 3) nE nE) nE)) (nT 16 (.iload_n 2, 1) (nT 12 (.getfield 71, 3) (nT 11 (.aload_n 0, 1) nE nE) (nT 15 (.iload_n 1, 1) nE nE)) (nT 20 (.istore 4, 2) (nT 17 (.invokevirtual 285, 3) nE nE) nE))) (nT 37 (.aload_n 0, 1) (nT 29 (.ifCond .ne 8, 3) (nT 25 (.if_icmp .eq 7, 3) (nT 24 (.iconst (-1), 1) nE nE) (nT 28 (.iload_n 3, 1) nE nE)) (nT 34 (.goto 14, 3) (nT 32 (.iload 4, 2) nE nE) nE)) (nT 43 (.iload 4, 2) (nT 41 (.iload_n 1, 1) (nT 38 (.getfield 71, 3) nE nE) (nT 42 (.iload_n 2, 1) nE nE)) (nT 48 (.ireturn, 1) (nT 45 (.invokevirtual 288, 3) nE nE) nE))))
def i_X1_ripestDays : Nat → Option (Instr × Nat) := (nT 45 (.iconst 0, 1) (nT 21 (.ifCond .eq 21, 3) (nT 7 (.invokevirtual 46, 3) (nT 3 (.istore 4, 2) (nT 1 (.istore_n 3, 1) (nT 0 (.iconst (-1), 1) nE nE) (nT 2 (.iconst (-1), 1) nE nE)) (nT 6 (.iload_n 1, 1) (nT 5 (.aload_n 0, 1) nE nE) nE)) (nT 14 (.getfield 9, 3) (nT 13 (.aload_n 0, 1) (nT 10 (.ifCond .eq 32, 3) nE nE) nE) (nT 18 (.invokevirtual 115, 3) (nT 17 (.iload_n 2, 1) nE nE) nE))) (nT 34 (.iand, 1) (nT 29 (.iload_n 1, 1) (nT 25 (.aload_n 0, 1) (nT 24 (.iload_n 2, 1) nE nE) (nT 26 (.getfield 15, 3) nE nE)) (nT 31 (.invokevirtual 31, 3) (nT 30 (.iconst 1, 1) nE nE) nE)) (nT 39 (.goto 4, 3) (nT 38 (.iconst 1, 1) (nT 35 (.ifCond .ne 7, 3) nE nE) nE) (nT 43 (.istore 5, 2) (nT 42 (.iconst 0, 1) nE nE) nE)))) (nT 68 (.invokevirtual 97, 3) (nT 58 (.iload 5, 2) (nT 51 (.iload_n 1, 1) (nT 48 (.iload 6, 2) (nT 46 (.istore 6, 2) nE nE) (nT 50 (.aload_n 0, 1) nE nE)) (nT 55 (.if_icmp .ge 38, 3) (nT 52 (.invokevirtual 85, 3) nE nE) nE)) (nT 64 (.iload_n 1, 1) (nT 63 (.aload_n 0, 1) (nT 60 (.ifCond .eq 33, 3) nE nE) nE) (nT 66 (.iload 6, 2) (nT 65 (.iload_n 2, 1) nE nE) nE))) (nT 84 (.iload 6, 2) (nT 77 (.if_icmp .le 10, 3) (nT 73 (.iload 7, 2) (nT 71 (.istore 7, 2) nE nE) (nT 75 (.iload 4, 2) nE nE)) (nT 82 (.istore 4, 2) (nT 80 (.iload 7, 2) nE nE) nE)) (nT 90 (.goto (-42), 3) (nT 87 (.iinc 6 1, 3) (nT 86 (.istore_n 3, 1) nE nE) nE) (nT 94 (.ireturn, 1) (nT 93 (.iload_n 3, 1) nE nE) nE)))))
def i_X5_hasSet : Nat → Option (Instr × Nat) := (nT 10 (.ishl, 1) (nT 5 (.iconst 1, 1) (nT 1 (.ifCond .lt 17, 3) (nT 0 (.iload_n 1, 1) nE nE) (nT 4 (.iload_n 1, 1) nE nE)) (nT 7 (.getfield 37, 3) (nT 6 (.aload_n 0, 1) nE nE) nE)) (nT 15 (.goto 4, 3) (nT 14 (.iconst 1, 1) (nT 11 (.if_icmp .ge 7, 3) nE nE) nE) (nT 19 (.ireturn, 1) (nT 18 (.iconst 0, 1) nE nE) nE)))
def i_X12_mean : Nat → Option (Instr × Nat) := (nT 19 (.aload_n 0, 1) (nT 7 (.ifCond .eq 28, 3) (nT 2 (.iload_n 2, 1) (nT 1 (.iload_n 1, 1) (nT 0 (.aload_n 0, 1) nE nE) nE) (nT 4 (.invokevirtual 497, 3) (nT 3 (.iconst 3, 1) nE nE) nE)) (nT 12 (.iconst 1, 1) (nT 11 (.iconst 0, 1) (nT 10 (.iload_n 3, 1) nE nE) nE) (nT 16 (.ifCond .eq 19, 3) (nT 13 (.invokestatic 350, 3) nE nE) nE))) (nT 27 (.iload_n 2, 1) (nT 22 (.iload_n 2, 1) (nT 21 (.iload_n 1, 1) (nT 20 (.aload_n 0, 1) nE nE) nE) (nT 24 (.invokevirtual 500, 3) (nT 23 (.iconst 1, 1) nE nE) nE)) (nT 32 (.goto 4, 3) (nT 29 (.invokevirtual 504, 3) (nT 28 (.iload_n 3, 1) nE nE) nE) (nT 36 (.ireturn, 1) (nT 35 (.iconst (-1), 1) nE nE) nE))))
def i_X12_partOf : Nat → Option (Instr × Nat) := (nT 21 (.iinc 5 (-1), 3) (nT 9 (.iload 5, 2) (nT 3 (.iload_n 2, 1) (nT 1 (.istore 4, 2) (nT 0 (.iconst 1, 1) nE nE) nE) (nT 7 (.istore 5, 2) (nT 4 (.invokestatic 449, 3) nE nE) nE)) (nT 16 (.bipush 100, 2) (nT 14 (.iload 4, 2) (nT 11 (.ifCond .le 16, 3) nE nE) nE) (nT 19 (.istore 4, 2) (nT 18 (.imul, 1) nE nE) nE))) (nT 35 (.iload 4, 2) (nT 28 (.ifCond .ne 7, 3) (nT 27 (.iload_n 3, 1) (nT 24 (.goto (-15), 3) nE nE) nE) (nT 32 (.goto 5, 3) (nT 31 (.iload_n 1, 1) nE nE) nE)) (nT 40 (.invokestatic 491, 3) (nT 39 (.iload_n 1, 1) (nT 37 (.iload 4, 2) nE nE) nE) (nT 44 (.ireturn, 1) (nT 43 (.idiv, 1) nE nE) nE))))
def i_X12_divisor : Nat → Option (Instr × Nat) := (nT 10 (.irem, 1) (nT 4 (.iload_n 3, 1) (nT 2 (.iload_n 1, 1) (nT 1 (.istore_n 2, 1) (nT 0 (.iload_n 0, 1) nE nE) nE) (nT 3 (.istore_n 3, 1) nE nE)) (nT 8 (.iload_n 2, 1) (nT 5 (.ifCond .le 16, 3) nE nE) (nT 9 (.iload_n 3, 1) nE nE))) (nT 17 (.istore_n 3, 1) (nT 14 (.istore_n 2, 1) (nT 13 (.iload_n 3, 1) (nT 11 (.istore 4, 2) nE nE) nE) (nT 15 (.iload 4, 2) nE nE)) (nT 21 (.iload_n 2, 1) (nT 18 (.goto (-14), 3) nE nE) (nT 22 (.ireturn, 1) nE nE))))
def i_X12_overParts : Nat → Option (Instr × Nat) := (nT 36 (.iload_n 2, 1) (nT 16 (.ixor, 1) (nT 8 (.iload_n 2, 1) (nT 3 (.iconst 0, 1) (nT 1 (.istore 4, 2) (nT 0 (.iconst 0, 1) nE nE) nE) (nT 6 (.iload 5, 2) (nT 4 (.istore 5, 2) nE nE) nE)) (nT 14 (.iload_n 2, 1) (nT 12 (.iload 5, 2) (nT 9 (.if_icmp .gt 67, 3) nE nE) nE) (nT 15 (.iconst (-1), 1) nE nE))) (nT 26 (.iload 5, 2) (nT 21 (.goto 49, 3) (nT 18 (.ifCond .eq 6, 3) (nT 17 (.iand, 1) nE nE) nE) (nT 25 (.iload_n 1, 1) (nT 24 (.aload_n 0, 1) nE nE) nE)) (nT 33 (.iload 4, 2) (nT 31 (.istore 6, 2) (nT 28 (.invokevirtual 452, 3) nE nE) nE) (nT 35 (.aload_n 0, 1) nE nE)))) (nT 58 (.if_icmp .lt 7, 3) (nT 48 (.goto 18, 3) (nT 42 (.iload_n 3, 1) (nT 39 (.invokevirtual 494, 3) (nT 37 (.iload 5, 2) nE nE) nE) (nT 46 (.iload 6, 2) (nT 43 (.ifCond .eq 8, 3) nE nE) nE)) (nT 54 (.iload_n 1, 1) (nT 53 (.aload_n 0, 1) (nT 51 (.iload 6, 2) nE nE) nE) (nT 55 (.invokevirtual 404, 3) nE nE))) (nT 68 (.istore 4, 2) (nT 65 (.iconst 0, 1) (nT 62 (.goto 4, 3) (nT 61 (.iconst 1, 1) nE nE) nE) (nT 67 (.iadd, 1) (nT 66 (.imul, 1) nE nE) nE)) (nT 76 (.iload 4, 2) (nT 73 (.goto (-67), 3) (nT 70 (.iinc 5 1, 3) nE nE) nE) (nT 78 (.ireturn, 1) nE nE)))))
def i_X12_weightOf : Nat → Option (Instr × Nat) := (nT 35 (.aload_n 0, 1) (nT 15 (.iload 4, 2) (nT 5 (.iload 4, 2) (nT 2 (.iconst 0, 1) (nT 1 (.istore_n 3, 1) (nT 0 (.iconst 1, 1) nE nE) nE) (nT 3 (.istore 4, 2) nE nE)) (nT 11 (.if_icmp .ge 54, 3) (nT 8 (.invokevirtual 347, 3) (nT 7 (.aload_n 0, 1) nE nE) nE) (nT 14 (.iload_n 1, 1) nE nE))) (nT 25 (.iload 4, 2) (nT 23 (.iload_n 3, 1) (nT 20 (.ifCond .eq 39, 3) (nT 17 (.invokestatic 357, 3) nE nE) nE) (nT 24 (.iload_n 2, 1) nE nE)) (nT 30 (.ifCond .eq 18, 3) (nT 27 (.invokestatic 357, 3) nE nE) (nT 33 (.bipush 100, 2) nE nE)))) (nT 52 (.aload_n 0, 1) (nT 44 (.isub, 1) (nT 40 (.getfield 251, 3) (nT 39 (.aload_n 0, 1) (nT 36 (.getfield 30, 3) nE nE) nE) (nT 43 (.iaload, 1) nE nE)) (nT 48 (.aload_n 0, 1) (nT 45 (.goto 12, 3) nE nE) (nT 49 (.getfield 30, 3) nE nE))) (nT 59 (.iinc 4 1, 3) (nT 57 (.imul, 1) (nT 56 (.iaload, 1) (nT 53 (.getfield 251, 3) nE nE) nE) (nT 58 (.istore_n 3, 1) nE nE)) (nT 65 (.iload_n 3, 1) (nT 62 (.goto (-57), 3) nE nE) (nT 66 (.ireturn, 1) nE nE)))))
def i_X12_openedWith : Nat → Option (Instr × Nat) := (nT 7 (.invokevirtual 407, 3) (nT 2 (.invokevirtual 392, 3) (nT 1 (.iload_n 1, 1) (nT 0 (.aload_n 0, 1) nE nE) nE) (nT 6 (.iload_n 2, 1) (nT 5 (.aload_n 0, 1) nE nE) nE)) (nT 12 (.invokevirtual 395, 3) (nT 11 (.iload_n 1, 1) (nT 10 (.aload_n 0, 1) nE nE) nE) (nT 15 (.ireturn, 1) nE nE)))
def i_X12_mayAll : Nat → Option (Instr × Nat) := (nT 31 (.aload_n 0, 1) (nT 16 (.iload_n 2, 1) (nT 8 (.aload_n 0, 1) (nT 2 (.invokevirtual 398, 3) (nT 1 (.iload_n 1, 1) (nT 0 (.aload_n 0, 1) nE nE) nE) (nT 5 (.ifCond .eq 19, 3) nE nE)) (nT 10 (.invokevirtual 458, 3) (nT 9 (.iload_n 2, 1) nE nE) (nT 13 (.ifCond .eq 11, 3) nE nE))) (nT 25 (.ireturn, 1) (nT 21 (.if_icmp .le 5, 3) (nT 20 (.iload_n 3, 1) (nT 17 (.invokestatic 449, 3) nE nE) nE) (nT 24 (.iconst 0, 1) nE nE)) (nT 27 (.istore 4, 2) (nT 26 (.iconst 0, 1) nE nE) (nT 29 (.iload 4, 2) nE nE)))) (nT 50 (.iload_n 1, 1) (nT 41 (.invokestatic 357, 3) (nT 38 (.iload_n 2, 1) (nT 35 (.if_icmp .ge 30, 3) (nT 32 (.invokevirtual 347, 3) nE nE) nE) (nT 39 (.iload 4, 2) nE nE)) (nT 47 (.aload_n 0, 1) (nT 44 (.ifCond .eq 15, 3) nE nE) (nT 48 (.iload 4, 2) nE nE))) (nT 59 (.iinc 4 1, 3) (nT 57 (.iconst 0, 1) (nT 54 (.ifCond .ne 5, 3) (nT 51 (.invokevirtual 413, 3) nE nE) nE) (nT 58 (.ireturn, 1) nE nE)) (nT 65 (.iconst 1, 1) (nT 62 (.goto (-33), 3) nE nE) (nT 66 (.ireturn, 1) nE nE)))))
def i_X12_mayVote : Nat → Option (Instr × Nat) := (nT 27 (.ifCond .ne 22, 3) (nT 13 (.ifCond .eq 36, 3) (nT 5 (.ifCond .eq 44, 3) (nT 1 (.iload_n 1, 1) (nT 0 (.aload_n 0, 1) nE nE) (nT 2 (.invokevirtual 410, 3) nE nE)) (nT 9 (.iload_n 2, 1) (nT 8 (.aload_n 0, 1) nE nE) (nT 10 (.invokevirtual 398, 3) nE nE))) (nT 22 (.iaload, 1) (nT 17 (.getfield 89, 3) (nT 16 (.aload_n 0, 1) nE nE) (nT 20 (.bipush 30, 2) nE nE)) (nT 24 (.invokestatic 357, 3) (nT 23 (.iload_n 1, 1) nE nE) nE))) (nT 38 (.iload_n 1, 1) (nT 35 (.iload_n 2, 1) (nT 31 (.getfield 89, 3) (nT 30 (.aload_n 0, 1) nE nE) (nT 34 (.iconst 5, 1) nE nE)) (nT 37 (.iaload, 1) (nT 36 (.iadd, 1) nE nE) nE)) (nT 46 (.goto 4, 3) (nT 42 (.ifCond .ne 7, 3) (nT 39 (.invokestatic 357, 3) nE nE) (nT 45 (.iconst 1, 1) nE nE)) (nT 50 (.ireturn, 1) (nT 49 (.iconst 0, 1) nE nE) nE))))
def i_X11_mean : Nat → Option (Instr × Nat) := (nT 12 (.aload_n 0, 1) (nT 5 (.iload_n 2, 1) (nT 1 (.getfield 80, 3) (nT 0 (.aload_n 0, 1) nE nE) (nT 4 (.iload_n 1, 1) nE nE)) (nT 9 (.ifCond .eq 14, 3) (nT 6 (.invokevirtual 282, 3) nE nE) nE)) (nT 20 (.goto 4, 3) (nT 16 (.iload_n 3, 1) (nT 13 (.getfield 80, 3) nE nE) (nT 17 (.invokevirtual 267, 3) nE nE)) (nT 24 (.ireturn, 1) (nT 23 (.iconst (-1), 1) nE nE) nE)))
def i_X2_part : Nat → Option (Instr × Nat) := (nT 24 (.ifCond .ne 5, 3) (nT 13 (.ifCond .lt 14, 3) (nT 5 (.getfield 31, 3) (nT 1 (.getfield 27, 3) (nT 0 (.aload_n 0, 1) nE nE) (nT 4 (.aload_n 0, 1) nE nE)) (nT 11 (.lstore_n 2, 1) (nT 8 (.invokestatic 34, 3) nE nE) (nT 12 (.iload_n 1, 1) nE nE))) (nT 21 (.lload_n 2, 1) (nT 17 (.iconst 1, 1) (nT 16 (.iload_n 1, 1) nE nE) (nT 18 (.if_icmp .gt 9, 3) nE nE)) (nT 23 (.lcmp, 1) (nT 22 (.lconst 0, 1) nE nE) nE))) (nT 37 (.goto 7, 3) (nT 30 (.ifCond .ne 10, 3) (nT 28 (.ireturn, 1) (nT 27 (.iconst (-1), 1) nE nE) (nT 29 (.iload_n 1, 1) nE nE)) (nT 34 (.getfield 27, 3) (nT 33 (.aload_n 0, 1) nE nE) nE)) (nT 45 (.ldiv, 1) (nT 41 (.getfield 31, 3) (nT 40 (.aload_n 0, 1) nE nE) (nT 44 (.lload_n 2, 1) nE nE)) (nT 47 (.ireturn, 1) (nT 46 (.l2i, 1) nE nE) nE))))
def i_X2_commonDivisor : Nat → Option (Instr × Nat) := (nT 17 (.lload_n 2, 1) (nT 10 (.lload_n 2, 1) (nT 3 (.iload 4, 2) (nT 1 (.istore 4, 2) (nT 0 (.iconst 0, 1) nE nE) nE) (nT 7 (.if_icmp .ge 25, 3) (nT 5 (.bipush 100, 2) nE nE) nE)) (nT 13 (.ifCond .eq 19, 3) (nT 12 (.lcmp, 1) (nT 11 (.lconst 0, 1) nE nE) nE) (nT 16 (.lload_n 0, 1) nE nE))) (nT 25 (.lstore_n 2, 1) (nT 21 (.lload_n 2, 1) (nT 19 (.lstore 5, 2) (nT 18 (.lrem, 1) nE nE) nE) (nT 23 (.lload 5, 2) (nT 22 (.lstore_n 0, 1) nE nE) nE)) (nT 32 (.lload_n 0, 1) (nT 29 (.goto (-26), 3) (nT 26 (.iinc 4 1, 3) nE nE) nE) (nT 33 (.lreturn, 1) nE nE))))
def i_X2_weighMean : Nat → Option (Instr × Nat) := (nT 40 (.iconst (-1), 1) (nT 18 (.ldc2_w 102, 3) (nT 10 (.iconst 0, 1) (nT 3 (.iconst 3, 1) (nT 1 (.iload_n 1, 1) (nT 0 (.aload_n 0, 1) nE nE) (nT 2 (.iload_n 2, 1) nE nE)) (nT 7 (.ifCond .ne 5, 3) (nT 4 (.invokevirtual 98, 3) nE nE) nE)) (nT 13 (.lconst 0, 1) (nT 12 (.aload_n 0, 1) (nT 11 (.ireturn, 1) nE nE) nE) (nT 17 (.aload_n 0, 1) (nT 14 (.putfield 27, 3) nE nE) nE))) (nT 32 (.istore_n 3, 1) (nT 25 (.invokestatic 104, 3) (nT 22 (.invokestatic 61, 3) (nT 21 (.iload_n 2, 1) nE nE) nE) (nT 31 (.iconst 0, 1) (nT 28 (.putfield 31, 3) nE nE) nE)) (nT 35 (.if_icmp .gt 44, 3) (nT 34 (.iload_n 2, 1) (nT 33 (.iload_n 3, 1) nE nE) nE) (nT 39 (.iload_n 2, 1) (nT 38 (.iload_n 3, 1) nE nE) nE)))) (nT 61 (.iload_n 1, 1) (nT 51 (.aload_n 0, 1) (nT 46 (.aload_n 0, 1) (nT 42 (.iand, 1) (nT 41 (.ixor, 1) nE nE) (nT 43 (.ifCond .ne 30, 3) nE nE)) (nT 48 (.getfield 27, 3) (nT 47 (.dup, 1) nE nE) nE)) (nT 54 (.invokevirtual 112, 3) (nT 53 (.iload_n 2, 1) (nT 52 (.iload_n 3, 1) nE nE) nE) (nT 58 (.getfield 23, 3) (nT 57 (.aload_n 0, 1) nE nE) nE))) (nT 69 (.ladd, 1) (nT 64 (.invokevirtual 108, 3) (nT 63 (.iconst 0, 1) (nT 62 (.iload_n 3, 1) nE nE) nE) (nT 68 (.lmul, 1) (nT 67 (.i2l, 1) nE nE) nE)) (nT 76 (.goto (-43), 3) (nT 73 (.iinc 3 1, 3) (nT 70 (.putfield 27, 3) nE nE) nE) (nT 80 (.ireturn, 1) (nT 79 (.iconst 1, 1) nE nE) nE)))))
def i_X2_weightOf : Nat → Option (Instr × Nat) := (nT 20 (.aload_n 0, 1) (nT 8 (.getfield 9, 3) (nT 4 (.istore_n 3, 1) (nT 1 (.invokestatic 61, 3) (nT 0 (.iload_n 1, 1) nE nE) nE) (nT 7 (.aload_n 0, 1) (nT 5 (.bipush 100, 2) nE nE) nE)) (nT 15 (.i2l, 1) (nT 14 (.isub, 1) (nT 11 (.getfield 125, 3) nE nE) nE) (nT 17 (.invokestatic 104, 3) (nT 16 (.iload_n 3, 1) nE nE) nE))) (nT 32 (.iload_n 3, 1) (nT 27 (.i2l, 1) (nT 24 (.getfield 125, 3) (nT 21 (.getfield 9, 3) nE nE) nE) (nT 29 (.invokestatic 61, 3) (nT 28 (.iload_n 2, 1) nE nE) nE)) (nT 37 (.lmul, 1) (nT 34 (.invokestatic 104, 3) (nT 33 (.isub, 1) nE nE) nE) (nT 38 (.lreturn, 1) nE nE))))
def i_X2_raise : Nat → Option (Instr × Nat) := (nT 11 (.lload_n 3, 1) (nT 3 (.istore 5, 2) (nT 1 (.lstore_n 3, 1) (nT 0 (.lconst 1, 1) nE nE) (nT 2 (.iconst 0, 1) nE nE)) (nT 7 (.iload_n 2, 1) (nT 5 (.iload 5, 2) nE nE) (nT 8 (.if_icmp .ge 13, 3) nE nE))) (nT 15 (.iinc 5 1, 3) (nT 13 (.lmul, 1) (nT 12 (.lload_n 0, 1) nE nE) (nT 14 (.lstore_n 3, 1) nE nE)) (nT 21 (.lload_n 3, 1) (nT 18 (.goto (-13), 3) nE nE) (nT 22 (.lreturn, 1) nE nE))))
def i_J6_bitCount_0f7a4 : Nat → Option (Instr × Nat) := (nT 27 (.iushr, 1) (nT 14 (.iand, 1) (nT 7 (.iand, 1) (nT 2 (.iconst 1, 1) (nT 1 (.iload_n 0, 1) (nT 0 (.iload_n 0, 1) nE nE) nE) (nT 4 (.ldc_w 265, 3) (nT 3 (.iushr, 1) nE nE) nE)) (nT 10 (.iload_n 0, 1) (nT 9 (.istore_n 0, 1) (nT 8 (.isub, 1) nE nE) nE) (nT 11 (.ldc_w 266, 3) nE nE))) (nT 22 (.iadd, 1) (nT 17 (.iushr, 1) (nT 16 (.iconst 2, 1) (nT 15 (.iload_n 0, 1) nE nE) nE) (nT 21 (.iand, 1) (nT 18 (.ldc_w 266, 3) nE nE) nE)) (nT 25 (.iload_n 0, 1) (nT 24 (.iload_n 0, 1) (nT 23 (.istore_n 0, 1) nE nE) nE) (nT 26 (.iconst 4, 1) nE nE)))) (nT 41 (.iload_n 0, 1) (nT 35 (.iload_n 0, 1) (nT 32 (.iand, 1) (nT 29 (.ldc_w 267, 3) (nT 28 (.iadd, 1) nE nE) nE) (nT 34 (.iload_n 0, 1) (nT 33 (.istore_n 0, 1) nE nE) nE)) (nT 39 (.iadd, 1) (nT 38 (.iushr, 1) (nT 36 (.bipush 8, 2) nE nE) nE) (nT 40 (.istore_n 0, 1) nE nE))) (nT 47 (.istore_n 0, 1) (nT 45 (.iushr, 1) (nT 43 (.bipush 16, 2) (nT 42 (.iload_n 0, 1) nE nE) nE) (nT 46 (.iadd, 1) nE nE)) (nT 51 (.iand, 1) (nT 49 (.bipush 63, 2) (nT 48 (.iload_n 0, 1) nE nE) nE) (nT 52 (.ireturn, 1) nE nE)))))
end
section
def i_X2_mayAllVote : Nat → Option (Instr × Nat) := (nT 27 (.if_icmp .gt 22, 3) (nT 12 (.getfield 9, 3) (nT 5 (.invokevirtual 116, 3) (nT 1 (.getfield 9, 3) (nT 0 (.aload_n 0, 1) nE nE) (nT 4 (.iload_n 1, 1) nE nE)) (nT 11 (.aload_n 0, 1) (nT 8 (.ifCond .eq 41, 3) nE nE) nE)) (nT 22 (.iload_n 2, 1) (nT 16 (.invokevirtual 119, 3) (nT 15 (.iload_n 2, 1) nE nE) (nT 19 (.ifCond .eq 30, 3) nE nE)) (nT 26 (.iload_n 3, 1) (nT 23 (.invokestatic 61, 3) nE nE) nE))) (nT 40 (.ixor, 1) (nT 35 (.iload_n 1, 1) (nT 31 (.aload_n 0, 1) (nT 30 (.iload_n 2, 1) nE nE) (nT 32 (.getfield 23, 3) nE nE)) (nT 39 (.iconst (-1), 1) (nT 36 (.invokevirtual 122, 3) nE nE) nE)) (nT 46 (.goto 4, 3) (nT 42 (.ifCond .ne 7, 3) (nT 41 (.iand, 1) nE nE) (nT 45 (.iconst 1, 1) nE nE)) (nT 50 (.ireturn, 1) (nT 49 (.iconst 0, 1) nE nE) nE))))
def i_X1_votersFor : Nat → Option (Instr × Nat) := (nT 25 (.getfield 49, 3) (nT 11 (.istore_n 2, 1) (nT 5 (.getfield 42, 3) (nT 1 (.aload_n 0, 1) (nT 0 (.iconst 1, 1) nE nE) (nT 2 (.getfield 9, 3) nE nE)) (nT 9 (.iconst 1, 1) (nT 8 (.ishl, 1) nE nE) (nT 10 (.isub, 1) nE nE))) (nT 17 (.ifCond .eq 29, 3) (nT 13 (.iload_n 1, 1) (nT 12 (.aload_n 0, 1) nE nE) (nT 14 (.invokevirtual 46, 3) nE nE)) (nT 21 (.aload_n 0, 1) (nT 20 (.iload_n 2, 1) nE nE) (nT 22 (.getfield 15, 3) nE nE)))) (nT 37 (.invokevirtual 31, 3) (nT 31 (.aload_n 0, 1) (nT 29 (.ixor, 1) (nT 28 (.iconst (-1), 1) nE nE) (nT 30 (.iand, 1) nE nE)) (nT 35 (.iload_n 1, 1) (nT 32 (.getfield 15, 3) nE nE) (nT 36 (.iconst 1, 1) nE nE))) (nT 43 (.goto 4, 3) (nT 41 (.ixor, 1) (nT 40 (.iconst (-1), 1) nE nE) (nT 42 (.iand, 1) nE nE)) (nT 47 (.ireturn, 1) (nT 46 (.iconst 0, 1) nE nE) nE))))
def i_X12_odds : Nat → Option (Instr × Nat) := (nT 19 (.aload_n 0, 1) (nT 7 (.ifCond .eq 28, 3) (nT 2 (.iload_n 2, 1) (nT 1 (.iload_n 1, 1) (nT 0 (.aload_n 0, 1) nE nE) nE) (nT 4 (.invokevirtual 497, 3) (nT 3 (.iconst 4, 1) nE nE) nE)) (nT 12 (.iconst 1, 1) (nT 11 (.iconst 0, 1) (nT 10 (.iload_n 3, 1) nE nE) nE) (nT 16 (.ifCond .eq 19, 3) (nT 13 (.invokestatic 350, 3) nE nE) nE))) (nT 27 (.iload_n 2, 1) (nT 22 (.iload_n 2, 1) (nT 21 (.iload_n 1, 1) (nT 20 (.aload_n 0, 1) nE nE) nE) (nT 24 (.invokevirtual 500, 3) (nT 23 (.iconst 0, 1) nE nE) nE)) (nT 32 (.goto 4, 3) (nT 29 (.invokevirtual 504, 3) (nT 28 (.iload_n 3, 1) nE nE) nE) (nT 36 (.ireturn, 1) (nT 35 (.iconst (-1), 1) nE nE) nE))))
def i_X11_odds : Nat → Option (Instr × Nat) := (nT 12 (.aload_n 0, 1) (nT 5 (.iload_n 2, 1) (nT 1 (.getfield 80, 3) (nT 0 (.aload_n 0, 1) nE nE) (nT 4 (.iload_n 1, 1) nE nE)) (nT 9 (.ifCond .eq 14, 3) (nT 6 (.invokevirtual 279, 3) nE nE) nE)) (nT 20 (.goto 4, 3) (nT 16 (.iload_n 3, 1) (nT 13 (.getfield 80, 3) nE nE) (nT 17 (.invokevirtual 267, 3) nE nE)) (nT 24 (.ireturn, 1) (nT 23 (.iconst (-1), 1) nE nE) nE)))
def i_X2_weighOdds : Nat → Option (Instr × Nat) := (nT 50 (.iload_n 2, 1) (nT 22 (.invokestatic 61, 3) (nT 11 (.ireturn, 1) (nT 3 (.iconst 4, 1) (nT 1 (.iload_n 1, 1) (nT 0 (.aload_n 0, 1) nE nE) (nT 2 (.iload_n 2, 1) nE nE)) (nT 7 (.ifCond .ne 5, 3) (nT 4 (.invokevirtual 98, 3) nE nE) (nT 10 (.iconst 0, 1) nE nE))) (nT 17 (.aload_n 0, 1) (nT 13 (.lconst 0, 1) (nT 12 (.aload_n 0, 1) nE nE) (nT 14 (.putfield 27, 3) nE nE)) (nT 21 (.iload_n 2, 1) (nT 18 (.ldc2_w 102, 3) nE nE) nE))) (nT 35 (.if_icmp .gt 64, 3) (nT 32 (.istore_n 3, 1) (nT 28 (.putfield 31, 3) (nT 25 (.invokestatic 104, 3) nE nE) (nT 31 (.iconst 0, 1) nE nE)) (nT 34 (.iload_n 2, 1) (nT 33 (.iload_n 3, 1) nE nE) nE)) (nT 43 (.invokevirtual 44, 3) (nT 39 (.getfield 23, 3) (nT 38 (.aload_n 0, 1) nE nE) (nT 42 (.iload_n 1, 1) nE nE)) (nT 49 (.iload_n 3, 1) (nT 46 (.ifCond .eq 53, 3) nE nE) nE)))) (nT 75 (.if_icmp .lt 18, 3) (nT 62 (.iload_n 3, 1) (nT 54 (.ifCond .ne 39, 3) (nT 52 (.ixor, 1) (nT 51 (.iconst (-1), 1) nE nE) (nT 53 (.iand, 1) nE nE)) (nT 58 (.getfield 23, 3) (nT 57 (.aload_n 0, 1) nE nE) (nT 61 (.iload_n 1, 1) nE nE))) (nT 68 (.getfield 9, 3) (nT 64 (.invokevirtual 108, 3) (nT 63 (.iconst 0, 1) nE nE) (nT 67 (.aload_n 0, 1) nE nE)) (nT 72 (.invokevirtual 95, 3) (nT 71 (.iload_n 1, 1) nE nE) nE))) (nT 86 (.invokevirtual 112, 3) (nT 83 (.aload_n 0, 1) (nT 79 (.dup, 1) (nT 78 (.aload_n 0, 1) nE nE) (nT 80 (.getfield 27, 3) nE nE)) (nT 85 (.iload_n 2, 1) (nT 84 (.iload_n 3, 1) nE nE) nE)) (nT 96 (.goto (-63), 3) (nT 90 (.putfield 27, 3) (nT 89 (.ladd, 1) nE nE) (nT 93 (.iinc 3 1, 3) nE nE)) (nT 100 (.ireturn, 1) (nT 99 (.iconst 1, 1) nE nE) nE)))))
def i_X12_law : Nat → Option (Instr × Nat) := (nT 32 (.iload_n 3, 1) (nT 16 (.istore_n 3, 1) (nT 11 (.iconst (-1), 1) (nT 3 (.bipush 99, 2) (nT 1 (.bipush (-99), 2) (nT 0 (.iload_n 1, 1) nE nE) nE) (nT 8 (.ifCond .ne 5, 3) (nT 5 (.invokestatic 350, 3) nE nE) nE)) (nT 14 (.istore_n 2, 1) (nT 13 (.iconst 0, 1) (nT 12 (.ireturn, 1) nE nE) nE) (nT 15 (.iconst 0, 1) nE nE))) (nT 23 (.getfield 251, 3) (nT 19 (.getfield 24, 3) (nT 18 (.aload_n 0, 1) (nT 17 (.iload_n 3, 1) nE nE) nE) (nT 22 (.aload_n 0, 1) nE nE)) (nT 30 (.iload_n 2, 1) (nT 27 (.if_icmp .ge 40, 3) (nT 26 (.iaload, 1) nE nE) nE) (nT 31 (.aload_n 0, 1) nE nE)))) (nT 51 (.if_icmp .lt 7, 3) (nT 44 (.aload_n 0, 1) (nT 39 (.aload_n 0, 1) (nT 36 (.ifCond .eq 22, 3) (nT 33 (.invokevirtual 398, 3) nE nE) nE) (nT 41 (.invokevirtual 401, 3) (nT 40 (.iload_n 3, 1) nE nE) nE)) (nT 49 (.iload_n 1, 1) (nT 46 (.invokevirtual 404, 3) (nT 45 (.iload_n 3, 1) nE nE) nE) (nT 50 (.iadd, 1) nE nE))) (nT 60 (.istore_n 2, 1) (nT 58 (.iconst 0, 1) (nT 55 (.goto 4, 3) (nT 54 (.iconst 1, 1) nE nE) nE) (nT 59 (.iadd, 1) nE nE)) (nT 67 (.iload_n 2, 1) (nT 64 (.goto (-47), 3) (nT 61 (.iinc 3 1, 3) nE nE) nE) (nT 68 (.ireturn, 1) nE nE)))))
def i_X11_law : Nat → Option (Instr × Nat) := (nT 12 (.iconst (-1), 1) (nT 6 (.iload_n 1, 1) (nT 1 (.bipush (-99), 2) (nT 0 (.iload_n 1, 1) nE nE) (nT 3 (.if_icmp .lt 9, 3) nE nE)) (nT 9 (.if_icmp .le 7, 3) (nT 7 (.bipush 99, 2) nE nE) nE)) (nT 20 (.iload_n 1, 1) (nT 16 (.aload_n 0, 1) (nT 13 (.goto 11, 3) nE nE) (nT 17 (.getfield 71, 3) nE nE)) (nT 24 (.ireturn, 1) (nT 21 (.invokevirtual 276, 3) nE nE) nE)))
def i_X1_passingWithNeed : Nat → Option (Instr × Nat) := (nT 25 (.iconst 0, 1) (nT 9 (.getfield 55, 3) (nT 3 (.istore_n 3, 1) (nT 1 (.istore_n 2, 1) (nT 0 (.iconst 0, 1) nE nE) (nT 2 (.iconst 0, 1) nE nE)) (nT 5 (.aload_n 0, 1) (nT 4 (.iload_n 3, 1) nE nE) (nT 6 (.getfield 9, 3) nE nE))) (nT 17 (.invokevirtual 46, 3) (nT 15 (.aload_n 0, 1) (nT 12 (.if_icmp .ge 40, 3) nE nE) (nT 16 (.iload_n 3, 1) nE nE)) (nT 23 (.aload_n 0, 1) (nT 20 (.ifCond .eq 26, 3) nE nE) (nT 24 (.iload_n 3, 1) nE nE)))) (nT 39 (.iadd, 1) (nT 31 (.getfield 9, 3) (nT 27 (.invokevirtual 97, 3) (nT 26 (.iconst 0, 1) nE nE) (nT 30 (.aload_n 0, 1) nE nE)) (nT 35 (.invokevirtual 101, 3) (nT 34 (.iload_n 3, 1) nE nE) (nT 38 (.iload_n 1, 1) nE nE))) (nT 49 (.goto (-45), 3) (nT 43 (.iinc 2 1, 3) (nT 40 (.if_icmp .lt 6, 3) nE nE) (nT 46 (.iinc 3 1, 3) nE nE)) (nT 53 (.ireturn, 1) (nT 52 (.iload_n 2, 1) nE nE) nE))))
def i_X12_joint : Nat → Option (Instr × Nat) := (nT 10 (.iload_n 1, 1) (nT 3 (.invokevirtual 437, 3) (nT 1 (.iload_n 1, 1) (nT 0 (.aload_n 0, 1) nE nE) (nT 2 (.iload_n 2, 1) nE nE)) (nT 9 (.aload_n 0, 1) (nT 6 (.ifCond .eq 12, 3) nE nE) nE)) (nT 15 (.goto 4, 3) (nT 12 (.invokevirtual 470, 3) (nT 11 (.iload_n 2, 1) nE nE) nE) (nT 19 (.ireturn, 1) (nT 18 (.iconst (-1), 1) nE nE) nE)))
def i_X11_joint : Nat → Option (Instr × Nat) := (nT 13 (.getfield 71, 3) (nT 5 (.iload_n 2, 1) (nT 1 (.getfield 71, 3) (nT 0 (.aload_n 0, 1) nE nE) (nT 4 (.iload_n 1, 1) nE nE)) (nT 9 (.ifCond .eq 15, 3) (nT 6 (.invokevirtual 212, 3) nE nE) (nT 12 (.aload_n 0, 1) nE nE))) (nT 21 (.goto 4, 3) (nT 17 (.iload_n 2, 1) (nT 16 (.iload_n 1, 1) nE nE) (nT 18 (.invokevirtual 273, 3) nE nE)) (nT 25 (.ireturn, 1) (nT 24 (.iconst (-1), 1) nE nE) nE)))
def i_X12_best : Nat → Option (Instr × Nat) := (nT 29 (.aload_n 0, 1) (nT 13 (.istore_n 3, 1) (nT 8 (.iconst (-1), 1) (nT 2 (.invokevirtual 398, 3) (nT 1 (.iload_n 1, 1) (nT 0 (.aload_n 0, 1) nE nE) nE) (nT 5 (.ifCond .ne 5, 3) nE nE)) (nT 11 (.istore_n 2, 1) (nT 10 (.iconst (-1), 1) (nT 9 (.ireturn, 1) nE nE) nE) (nT 12 (.iconst (-1), 1) nE nE))) (nT 21 (.if_icmp .gt 42, 3) (nT 17 (.iload 4, 2) (nT 15 (.istore 4, 2) (nT 14 (.iconst 0, 1) nE nE) nE) (nT 19 (.bipush 9, 2) nE nE)) (nT 25 (.iload_n 1, 1) (nT 24 (.aload_n 0, 1) nE nE) (nT 26 (.invokevirtual 392, 3) nE nE)))) (nT 48 (.goto 9, 3) (nT 37 (.invokevirtual 395, 3) (nT 35 (.aload_n 0, 1) (nT 32 (.putfield 331, 3) (nT 30 (.iload 4, 2) nE nE) nE) (nT 36 (.iload_n 1, 1) nE nE)) (nT 44 (.iload_n 3, 1) (nT 42 (.iload 5, 2) (nT 40 (.istore 5, 2) nE nE) nE) (nT 45 (.if_icmp .gt 6, 3) nE nE))) (nT 57 (.iinc 4 1, 3) (nT 54 (.iload 5, 2) (nT 53 (.istore_n 2, 1) (nT 51 (.iload 4, 2) nE nE) nE) (nT 56 (.istore_n 3, 1) nE nE)) (nT 63 (.iload_n 2, 1) (nT 60 (.goto (-43), 3) nE nE) (nT 64 (.ireturn, 1) nE nE)))))
def i_X11_best : Nat → Option (Instr × Nat) := (nT 4 (.iload_n 1, 1) (nT 1 (.getfield 71, 3) (nT 0 (.aload_n 0, 1) nE nE) nE) (nT 8 (.ireturn, 1) (nT 5 (.invokevirtual 270, 3) nE nE) nE))
def i_X1_bestShelf : Nat → Option (Instr × Nat) := (nT 40 (.putfield 112, 3) (nT 16 (.invokevirtual 46, 3) (nT 5 (.istore 4, 2) (nT 2 (.iconst (-1), 1) (nT 1 (.istore_n 2, 1) (nT 0 (.iconst (-1), 1) nE nE) nE) (nT 4 (.iconst 0, 1) (nT 3 (.istore_n 3, 1) nE nE) nE)) (nT 11 (.if_icmp .gt 72, 3) (nT 9 (.bipush 9, 2) (nT 7 (.iload 4, 2) nE nE) nE) (nT 15 (.iload_n 1, 1) (nT 14 (.aload_n 0, 1) nE nE) nE))) (nT 30 (.iload_n 1, 1) (nT 23 (.getfield 19, 3) (nT 22 (.aload_n 0, 1) (nT 19 (.ifCond .eq 64, 3) nE nE) nE) (nT 27 (.getfield 15, 3) (nT 26 (.aload_n 0, 1) nE nE) nE)) (nT 35 (.getfield 19, 3) (nT 34 (.aload_n 0, 1) (nT 31 (.invokevirtual 68, 3) nE nE) nE) (nT 38 (.iload 4, 2) nE nE)))) (nT 63 (.if_icmp .le 14, 3) (nT 52 (.invokevirtual 78, 3) (nT 47 (.aload_n 0, 1) (nT 44 (.getfield 19, 3) (nT 43 (.aload_n 0, 1) nE nE) nE) (nT 49 (.invokevirtual 85, 3) (nT 48 (.iload_n 1, 1) nE nE) nE)) (nT 59 (.getfield 88, 3) (nT 56 (.getfield 19, 3) (nT 55 (.aload_n 0, 1) nE nE) nE) (nT 62 (.iload_n 3, 1) nE nE))) (nT 76 (.istore_n 2, 1) (nT 70 (.getfield 88, 3) (nT 67 (.getfield 19, 3) (nT 66 (.aload_n 0, 1) nE nE) nE) (nT 74 (.iload 4, 2) (nT 73 (.istore_n 3, 1) nE nE) nE)) (nT 83 (.iload_n 2, 1) (nT 80 (.goto (-73), 3) (nT 77 (.iinc 4 1, 3) nE nE) nE) (nT 84 (.ireturn, 1) nE nE)))))
def i_X12_power : Nat → Option (Instr × Nat) := (nT 67 (.iconst 1, 1) (nT 31 (.istore 5, 2) (nT 17 (.iconst 0, 1) (nT 8 (.aload_n 0, 1) (nT 2 (.invokevirtual 410, 3) (nT 1 (.iload_n 1, 1) (nT 0 (.aload_n 0, 1) nE nE) nE) (nT 5 (.ifCond .eq 20, 3) nE nE)) (nT 13 (.ifCond .eq 12, 3) (nT 10 (.invokevirtual 398, 3) (nT 9 (.iload_n 2, 1) nE nE) nE) (nT 16 (.iload_n 3, 1) nE nE))) (nT 26 (.ireturn, 1) (nT 22 (.ifCond .ne 5, 3) (nT 19 (.invokestatic 350, 3) (nT 18 (.iconst 1, 1) nE nE) nE) (nT 25 (.iconst (-1), 1) nE nE)) (nT 28 (.istore 4, 2) (nT 27 (.iconst 0, 1) nE nE) (nT 30 (.iconst 0, 1) nE nE)))) (nT 50 (.ifCond .ne 59, 3) (nT 40 (.ishl, 1) (nT 36 (.aload_n 0, 1) (nT 35 (.iconst 1, 1) (nT 33 (.iload 5, 2) nE nE) nE) (nT 37 (.invokevirtual 347, 3) nE nE)) (nT 46 (.iload_n 1, 1) (nT 44 (.iload 5, 2) (nT 41 (.if_icmp .ge 74, 3) nE nE) nE) (nT 47 (.invokestatic 357, 3) nE nE))) (nT 60 (.ifCond .ne 49, 3) (nT 55 (.iload 5, 2) (nT 54 (.iload_n 2, 1) (nT 53 (.aload_n 0, 1) nE nE) nE) (nT 57 (.invokevirtual 485, 3) nE nE)) (nT 64 (.iload_n 2, 1) (nT 63 (.aload_n 0, 1) nE nE) (nT 65 (.iload 5, 2) nE nE))))) (nT 105 (.imul, 1) (nT 87 (.invokestatic 488, 3) (nT 74 (.ifCond .ne 6, 3) (nT 70 (.ior, 1) (nT 69 (.ishl, 1) (nT 68 (.iload_n 1, 1) nE nE) nE) (nT 71 (.invokevirtual 485, 3) nE nE)) (nT 82 (.iload 5, 2) (nT 80 (.iload 4, 2) (nT 77 (.goto 32, 3) nE nE) nE) (nT 84 (.invokestatic 449, 3) nE nE))) (nT 96 (.iload 5, 2) (nT 94 (.iconst 1, 1) (nT 91 (.invokevirtual 347, 3) (nT 90 (.aload_n 0, 1) nE nE) nE) (nT 95 (.isub, 1) nE nE)) (nT 101 (.isub, 1) (nT 98 (.invokestatic 449, 3) nE nE) (nT 102 (.invokestatic 488, 3) nE nE)))) (nT 125 (.ifCond .ne 8, 3) (nT 115 (.aload_n 0, 1) (nT 109 (.iinc 5 1, 3) (nT 107 (.istore 4, 2) (nT 106 (.iadd, 1) nE nE) nE) (nT 112 (.goto (-79), 3) nE nE)) (nT 122 (.istore 5, 2) (nT 119 (.invokestatic 488, 3) (nT 116 (.invokevirtual 347, 3) nE nE) nE) (nT 124 (.iload_n 3, 1) nE nE))) (nT 137 (.iload 4, 2) (nT 133 (.iload 5, 2) (nT 130 (.goto 5, 3) (nT 128 (.iload 4, 2) nE nE) nE) (nT 135 (.iload 5, 2) nE nE)) (nT 142 (.idiv, 1) (nT 139 (.invokestatic 491, 3) nE nE) (nT 143 (.ireturn, 1) nE nE))))))
def i_X12_factorial : Nat → Option (Instr × Nat) := (nT 9 (.iload_n 1, 1) (nT 3 (.istore_n 2, 1) (nT 1 (.istore_n 1, 1) (nT 0 (.iconst 1, 1) nE nE) (nT 2 (.iconst 2, 1) nE nE)) (nT 5 (.iload_n 0, 1) (nT 4 (.iload_n 2, 1) nE nE) (nT 6 (.if_icmp .gt 13, 3) nE nE))) (nT 13 (.iinc 2 1, 3) (nT 11 (.imul, 1) (nT 10 (.iload_n 2, 1) nE nE) (nT 12 (.istore_n 1, 1) nE nE)) (nT 19 (.iload_n 1, 1) (nT 16 (.goto (-12), 3) nE nE) (nT 20 (.ireturn, 1) nE nE))))
def i_X12_passesAlone : Nat → Option (Instr × Nat) := (nT 31 (.iload_n 1, 1) (nT 16 (.bipush 15, 2) (nT 7 (.iaload, 1) (nT 2 (.getfield 89, 3) (nT 1 (.aload_n 0, 1) (nT 0 (.aload_n 0, 1) nE nE) nE) (nT 5 (.bipush 31, 2) nE nE)) (nT 12 (.aload_n 0, 1) (nT 11 (.aload_n 0, 1) (nT 8 (.invokevirtual 473, 3) nE nE) nE) (nT 13 (.getfield 89, 3) nE nE))) (nT 24 (.aload_n 0, 1) (nT 20 (.iaload, 1) (nT 19 (.iadd, 1) (nT 18 (.iload_n 1, 1) nE nE) nE) (nT 21 (.putfield 331, 3) nE nE)) (nT 26 (.getfield 89, 3) (nT 25 (.aload_n 0, 1) nE nE) (nT 29 (.bipush 20, 2) nE nE)))) (nT 44 (.invokevirtual 395, 3) (nT 38 (.iload_n 2, 1) (nT 34 (.putfield 334, 3) (nT 33 (.iaload, 1) (nT 32 (.iadd, 1) nE nE) nE) (nT 37 (.aload_n 0, 1) nE nE)) (nT 42 (.aload_n 0, 1) (nT 39 (.invokevirtual 407, 3) nE nE) (nT 43 (.iload_n 1, 1) nE nE))) (nT 55 (.iconst 1, 1) (nT 49 (.invokevirtual 404, 3) (nT 48 (.iload_n 1, 1) (nT 47 (.aload_n 0, 1) nE nE) nE) (nT 52 (.if_icmp .lt 7, 3) nE nE)) (nT 59 (.iconst 0, 1) (nT 56 (.goto 4, 3) nE nE) (nT 60 (.ireturn, 1) nE nE)))))
def i_X11_power : Nat → Option (Instr × Nat) := (nT 12 (.aload_n 0, 1) (nT 5 (.iload_n 2, 1) (nT 1 (.getfield 80, 3) (nT 0 (.aload_n 0, 1) nE nE) (nT 4 (.iload_n 1, 1) nE nE)) (nT 9 (.ifCond .eq 14, 3) (nT 6 (.invokevirtual 264, 3) nE nE) nE)) (nT 20 (.goto 4, 3) (nT 16 (.iload_n 3, 1) (nT 13 (.getfield 80, 3) nE nE) (nT 17 (.invokevirtual 267, 3) nE nE)) (nT 24 (.ireturn, 1) (nT 23 (.iconst (-1), 1) nE nE) nE)))
def i_X2_weighPower : Nat → Option (Instr × Nat) := (nT 65 (.iload_n 3, 1) (nT 34 (.getfield 49, 3) (nT 19 (.ifCond .ne 5, 3) (nT 8 (.ifCond .eq 14, 3) (nT 4 (.iload_n 1, 1) (nT 1 (.getfield 9, 3) (nT 0 (.aload_n 0, 1) nE nE) nE) (nT 5 (.invokevirtual 38, 3) nE nE)) (nT 15 (.iload_n 2, 1) (nT 12 (.getfield 23, 3) (nT 11 (.aload_n 0, 1) nE nE) nE) (nT 16 (.invokevirtual 44, 3) nE nE))) (nT 26 (.putfield 27, 3) (nT 24 (.aload_n 0, 1) (nT 23 (.ireturn, 1) (nT 22 (.iconst 0, 1) nE nE) nE) (nT 25 (.lconst 0, 1) nE nE)) (nT 30 (.aload_n 0, 1) (nT 29 (.aload_n 0, 1) nE nE) (nT 31 (.getfield 9, 3) nE nE)))) (nT 51 (.getfield 49, 3) (nT 45 (.iload_n 3, 1) (nT 43 (.iconst 0, 1) (nT 40 (.putfield 31, 3) (nT 37 (.invokestatic 53, 3) nE nE) nE) (nT 44 (.istore_n 3, 1) nE nE)) (nT 47 (.aload_n 0, 1) (nT 46 (.iconst 1, 1) nE nE) (nT 48 (.getfield 9, 3) nE nE))) (nT 60 (.iload_n 1, 1) (nT 58 (.iload_n 3, 1) (nT 55 (.if_icmp .ge 77, 3) (nT 54 (.ishl, 1) nE nE) nE) (nT 59 (.iconst 1, 1) nE nE)) (nT 62 (.ior, 1) (nT 61 (.ishl, 1) nE nE) (nT 63 (.istore 4, 2) nE nE))))) (nT 98 (.getfield 27, 3) (nT 81 (.iload_n 2, 1) (nT 73 (.iload_n 3, 1) (nT 71 (.aload_n 0, 1) (nT 68 (.if_icmp .eq 58, 3) (nT 66 (.iload 4, 2) nE nE) nE) (nT 72 (.iload_n 2, 1) nE nE)) (nT 77 (.ifCond .ne 49, 3) (nT 74 (.invokevirtual 57, 3) nE nE) (nT 80 (.aload_n 0, 1) nE nE))) (nT 91 (.invokestatic 61, 3) (nT 87 (.ifCond .eq 39, 3) (nT 84 (.invokevirtual 57, 3) (nT 82 (.iload 4, 2) nE nE) nE) (nT 90 (.iload_n 3, 1) nE nE)) (nT 96 (.aload_n 0, 1) (nT 94 (.istore 5, 2) nE nE) (nT 97 (.dup, 1) nE nE)))) (nT 117 (.isub, 1) (nT 110 (.getfield 49, 3) (nT 106 (.aload_n 0, 1) (nT 103 (.invokestatic 53, 3) (nT 101 (.iload 5, 2) nE nE) nE) (nT 107 (.getfield 9, 3) nE nE)) (nT 114 (.isub, 1) (nT 113 (.iconst 1, 1) nE nE) (nT 115 (.iload 5, 2) nE nE))) (nT 126 (.iinc 3 1, 3) (nT 122 (.ladd, 1) (nT 121 (.lmul, 1) (nT 118 (.invokestatic 53, 3) nE nE) nE) (nT 123 (.putfield 27, 3) nE nE)) (nT 132 (.iconst 1, 1) (nT 129 (.goto (-84), 3) nE nE) (nT 133 (.ireturn, 1) nE nE))))))
def i_X2_factorial : Nat → Option (Instr × Nat) := (nT 10 (.iload_n 3, 1) (nT 4 (.iload_n 3, 1) (nT 2 (.iconst 2, 1) (nT 1 (.lstore_n 1, 1) (nT 0 (.lconst 1, 1) nE nE) nE) (nT 3 (.istore_n 3, 1) nE nE)) (nT 6 (.if_icmp .gt 14, 3) (nT 5 (.iload_n 0, 1) nE nE) (nT 9 (.lload_n 1, 1) nE nE))) (nT 14 (.iinc 3 1, 3) (nT 12 (.lmul, 1) (nT 11 (.i2l, 1) nE nE) (nT 13 (.lstore_n 1, 1) nE nE)) (nT 20 (.lload_n 1, 1) (nT 17 (.goto (-13), 3) nE nE) (nT 21 (.lreturn, 1) nE nE))))
def i_X2_passesFromEmpty : Nat → Option (Instr × Nat) := (nT 37 (.invokevirtual 82, 3) (nT 17 (.iload_n 1, 1) (nT 8 (.iload_n 1, 1) (nT 4 (.aload_n 0, 1) (nT 1 (.getfield 19, 3) (nT 0 (.aload_n 0, 1) nE nE) nE) (nT 5 (.getfield 15, 3) nE nE)) (nT 13 (.aload_n 0, 1) (nT 10 (.invokevirtual 69, 3) (nT 9 (.iconst 3, 1) nE nE) nE) (nT 14 (.getfield 15, 3) nE nE))) (nT 26 (.getfield 73, 3) (nT 22 (.aload_n 0, 1) (nT 19 (.invokevirtual 69, 3) (nT 18 (.iconst 4, 1) nE nE) nE) (nT 23 (.getfield 15, 3) nE nE)) (nT 33 (.getfield 19, 3) (nT 32 (.aload_n 0, 1) (nT 29 (.invokevirtual 76, 3) nE nE) nE) (nT 36 (.iload_n 2, 1) nE nE)))) (nT 59 (.getfield 92, 3) (nT 48 (.iload_n 1, 1) (nT 44 (.aload_n 0, 1) (nT 41 (.getfield 19, 3) (nT 40 (.aload_n 0, 1) nE nE) nE) (nT 45 (.getfield 23, 3) nE nE)) (nT 55 (.aload_n 0, 1) (nT 52 (.invokevirtual 89, 3) (nT 49 (.invokevirtual 86, 3) nE nE) nE) (nT 56 (.getfield 19, 3) nE nE))) (nT 70 (.if_icmp .lt 7, 3) (nT 66 (.iload_n 1, 1) (nT 63 (.getfield 9, 3) (nT 62 (.aload_n 0, 1) nE nE) nE) (nT 67 (.invokevirtual 95, 3) nE nE)) (nT 77 (.iconst 0, 1) (nT 74 (.goto 4, 3) (nT 73 (.iconst 1, 1) nE nE) nE) (nT 78 (.ireturn, 1) nE nE)))))
def i_X12_plan : Nat → Option (Instr × Nat) := (nT 93 (.istore_n 2, 1) (nT 45 (.iload_n 2, 1) (nT 20 (.invokevirtual 347, 3) (nT 11 (.iaload, 1) (nT 3 (.aload_n 0, 1) (nT 1 (.istore_n 1, 1) (nT 0 (.iconst 0, 1) nE nE) (nT 2 (.iload_n 1, 1) nE nE)) (nT 7 (.aload_n 0, 1) (nT 4 (.getfield 24, 3) nE nE) (nT 8 (.getfield 251, 3) nE nE))) (nT 17 (.iload_n 2, 1) (nT 15 (.iconst 0, 1) (nT 12 (.if_icmp .ge 78, 3) nE nE) (nT 16 (.istore_n 2, 1) nE nE)) (nT 19 (.aload_n 0, 1) (nT 18 (.iconst 1, 1) nE nE) nE))) (nT 34 (.imul, 1) (nT 28 (.getfield 98, 3) (nT 24 (.if_icmp .ge 60, 3) (nT 23 (.ishl, 1) nE nE) (nT 27 (.aload_n 0, 1) nE nE)) (nT 33 (.iload_n 1, 1) (nT 31 (.bipush 64, 2) nE nE) nE)) (nT 38 (.iload_n 1, 1) (nT 36 (.iadd, 1) (nT 35 (.iload_n 2, 1) nE nE) (nT 37 (.aload_n 0, 1) nE nE)) (nT 42 (.ifCond .eq 34, 3) (nT 39 (.invokevirtual 398, 3) nE nE) nE)))) (nT 65 (.iload_n 1, 1) (nT 54 (.iand, 1) (nT 51 (.iload_n 1, 1) (nT 47 (.getfield 89, 3) (nT 46 (.aload_n 0, 1) nE nE) (nT 50 (.iconst 5, 1) nE nE)) (nT 53 (.iaload, 1) (nT 52 (.iadd, 1) nE nE) nE)) (nT 60 (.iload_n 2, 1) (nT 58 (.aload_n 0, 1) (nT 55 (.ifCond .ne 21, 3) nE nE) (nT 59 (.iload_n 1, 1) nE nE)) (nT 64 (.aload_n 0, 1) (nT 61 (.invokevirtual 452, 3) nE nE) nE))) (nT 78 (.iinc 2 1, 3) (nT 73 (.goto 4, 3) (nT 69 (.if_icmp .lt 7, 3) (nT 66 (.invokevirtual 404, 3) nE nE) (nT 72 (.iconst 1, 1) nE nE)) (nT 77 (.bastore, 1) (nT 76 (.iconst 0, 1) nE nE) nE)) (nT 90 (.iconst (-1), 1) (nT 84 (.iinc 1 1, 3) (nT 81 (.goto (-64), 3) nE nE) (nT 87 (.goto (-85), 3) nE nE)) (nT 92 (.iconst 0, 1) (nT 91 (.istore_n 1, 1) nE nE) nE))))) (nT 151 (.iload 5, 2) (nT 121 (.goto 68, 3) (nT 106 (.if_icmp .ge 89, 3) (nT 97 (.bipush 6, 2) (nT 95 (.istore_n 3, 1) (nT 94 (.iconst 0, 1) nE nE) (nT 96 (.iload_n 3, 1) nE nE)) (nT 100 (.invokevirtual 347, 3) (nT 99 (.aload_n 0, 1) nE nE) (nT 103 (.invokestatic 476, 3) nE nE))) (nT 114 (.istore 4, 2) (nT 110 (.iload_n 3, 1) (nT 109 (.aload_n 0, 1) nE nE) (nT 111 (.invokevirtual 479, 3) nE nE)) (nT 118 (.ifCond .ge 6, 3) (nT 116 (.iload 4, 2) nE nE) nE))) (nT 136 (.iload 5, 2) (nT 130 (.iload 5, 2) (nT 125 (.invokevirtual 482, 3) (nT 124 (.aload_n 0, 1) nE nE) (nT 128 (.istore 5, 2) nE nE)) (nT 133 (.if_icmp .lt 56, 3) (nT 132 (.iload_n 1, 1) nE nE) nE)) (nT 144 (.iload_n 2, 1) (nT 139 (.if_icmp .ne 12, 3) (nT 138 (.iload_n 1, 1) nE nE) (nT 142 (.iload 4, 2) nE nE)) (nT 148 (.goto 41, 3) (nT 145 (.if_icmp .lt 6, 3) nE nE) nE)))) (nT 176 (.getfield 104, 3) (nT 162 (.aload_n 0, 1) (nT 157 (.iconst 0, 1) (nT 154 (.iload 4, 2) (nT 153 (.istore_n 1, 1) nE nE) (nT 156 (.istore_n 2, 1) nE nE)) (nT 160 (.iload 6, 2) (nT 158 (.istore 6, 2) nE nE) nE)) (nT 170 (.getfield 101, 3) (nT 166 (.if_icmp .ge 23, 3) (nT 163 (.invokevirtual 347, 3) nE nE) (nT 169 (.aload_n 0, 1) nE nE)) (nT 175 (.aload_n 0, 1) (nT 173 (.iload 6, 2) nE nE) nE))) (nT 192 (.goto (-96), 3) (nT 183 (.iinc 6 1, 3) (nT 181 (.iaload, 1) (nT 179 (.iload 6, 2) nE nE) (nT 182 (.iastore, 1) nE nE)) (nT 189 (.iinc 3 1, 3) (nT 186 (.goto (-26), 3) nE nE) nE)) (nT 200 (.putfield 374, 3) (nT 196 (.aload_n 0, 1) (nT 195 (.aload_n 0, 1) nE nE) (nT 197 (.invokevirtual 347, 3) nE nE)) (nT 204 (.ireturn, 1) (nT 203 (.iload_n 1, 1) nE nE) nE))))))
def i_X12_passedByChoice : Nat → Option (Instr × Nat) := (nT 43 (.iconst 1, 1) (nT 19 (.iconst 0, 1) (nT 6 (.getfield 24, 3) (nT 3 (.istore_n 2, 1) (nT 1 (.istore_n 1, 1) (nT 0 (.iconst 0, 1) nE nE) (nT 2 (.iconst 0, 1) nE nE)) (nT 5 (.aload_n 0, 1) (nT 4 (.iload_n 2, 1) nE nE) nE)) (nT 14 (.if_icmp .ge 69, 3) (nT 10 (.getfield 251, 3) (nT 9 (.aload_n 0, 1) nE nE) (nT 13 (.iaload, 1) nE nE)) (nT 18 (.istore_n 3, 1) (nT 17 (.iconst 0, 1) nE nE) nE))) (nT 32 (.getfield 104, 3) (nT 25 (.invokevirtual 347, 3) (nT 22 (.iload 4, 2) (nT 20 (.istore 4, 2) nE nE) (nT 24 (.aload_n 0, 1) nE nE)) (nT 31 (.aload_n 0, 1) (nT 28 (.if_icmp .ge 27, 3) nE nE) nE)) (nT 38 (.iload_n 2, 1) (nT 37 (.iaload, 1) (nT 35 (.iload 4, 2) nE nE) nE) (nT 42 (.iload_n 3, 1) (nT 39 (.if_icmp .ne 10, 3) nE nE) nE)))) (nT 64 (.iload_n 3, 1) (nT 55 (.iload_n 1, 1) (nT 48 (.istore_n 3, 1) (nT 46 (.ishl, 1) (nT 44 (.iload 4, 2) nE nE) (nT 47 (.ior, 1) nE nE)) (nT 52 (.goto (-30), 3) (nT 49 (.iinc 4 1, 3) nE nE) nE)) (nT 60 (.bipush 64, 2) (nT 57 (.getfield 98, 3) (nT 56 (.aload_n 0, 1) nE nE) nE) (nT 63 (.imul, 1) (nT 62 (.iload_n 2, 1) nE nE) nE))) (nT 75 (.iadd, 1) (nT 70 (.iconst 1, 1) (nT 66 (.baload, 1) (nT 65 (.iadd, 1) nE nE) (nT 67 (.ifCond .eq 7, 3) nE nE)) (nT 74 (.iconst 0, 1) (nT 71 (.goto 4, 3) nE nE) nE)) (nT 80 (.goto (-76), 3) (nT 77 (.iinc 2 1, 3) (nT 76 (.istore_n 1, 1) nE nE) nE) (nT 84 (.ireturn, 1) (nT 83 (.iload_n 1, 1) nE nE) nE)))))
def i_X12_layChoice : Nat → Option (Instr × Nat) := (nT 41 (.iaload, 1) (nT 21 (.iload 4, 2) (nT 8 (.iconst 1, 1) (nT 3 (.istore_n 3, 1) (nT 1 (.istore_n 2, 1) (nT 0 (.iload_n 1, 1) nE nE) (nT 2 (.iconst 0, 1) nE nE)) (nT 5 (.invokevirtual 347, 3) (nT 4 (.aload_n 0, 1) nE nE) nE)) (nT 14 (.ifCond .lt 73, 3) (nT 10 (.istore 4, 2) (nT 9 (.isub, 1) nE nE) (nT 12 (.iload 4, 2) nE nE)) (nT 18 (.getfield 104, 3) (nT 17 (.aload_n 0, 1) nE nE) nE))) (nT 30 (.iload_n 2, 1) (nT 27 (.iconst 1, 1) (nT 24 (.bipush 6, 2) (nT 23 (.iload_n 2, 1) nE nE) (nT 26 (.irem, 1) nE nE)) (nT 29 (.iastore, 1) (nT 28 (.isub, 1) nE nE) nE)) (nT 35 (.aload_n 0, 1) (nT 33 (.idiv, 1) (nT 31 (.bipush 6, 2) nE nE) (nT 34 (.istore_n 2, 1) nE nE)) (nT 39 (.iload 4, 2) (nT 36 (.getfield 104, 3) nE nE) nE)))) (nT 65 (.getfield 104, 3) (nT 54 (.iaload, 1) (nT 48 (.aload_n 0, 1) (nT 45 (.aload_n 0, 1) (nT 42 (.ifCond .lt 21, 3) nE nE) (nT 46 (.iload 4, 2) nE nE)) (nT 52 (.iload 4, 2) (nT 49 (.getfield 104, 3) nE nE) nE)) (nT 62 (.ireturn, 1) (nT 58 (.ifCond .ne 5, 3) (nT 55 (.invokevirtual 413, 3) nE nE) (nT 61 (.iconst (-1), 1) nE nE)) (nT 64 (.aload_n 0, 1) (nT 63 (.iload_n 3, 1) nE nE) nE))) (nT 79 (.iadd, 1) (nT 74 (.iconst 1, 1) (nT 70 (.iaload, 1) (nT 68 (.iload 4, 2) nE nE) (nT 71 (.ifCond .lt 7, 3) nE nE)) (nT 78 (.iconst 0, 1) (nT 75 (.goto 4, 3) nE nE) nE)) (nT 84 (.goto (-72), 3) (nT 81 (.iinc 4 (-1), 3) (nT 80 (.istore_n 3, 1) nE nE) nE) (nT 88 (.ireturn, 1) (nT 87 (.iload_n 3, 1) nE nE) nE)))))
def i_X11_plan : Nat → Option (Instr × Nat) := (nT 4 (.invokevirtual 261, 3) (nT 1 (.getfield 87, 3) (nT 0 (.aload_n 0, 1) nE nE) nE) (nT 7 (.ireturn, 1) nE nE))
def i_X3_choosePlan : Nat → Option (Instr × Nat) := (nT 61 (.aload_n 0, 1) (nT 31 (.aload_n 0, 1) (nT 15 (.iload_n 1, 1) (nT 8 (.aload_n 0, 1) (nT 4 (.iconst 0, 1) (nT 1 (.getfield 18, 3) (nT 0 (.aload_n 0, 1) nE nE) nE) (nT 5 (.invokestatic 66, 3) nE nE)) (nT 13 (.iconst 0, 1) (nT 10 (.putfield 72, 3) (nT 9 (.iconst 0, 1) nE nE) nE) (nT 14 (.istore_n 1, 1) nE nE))) (nT 24 (.iload_n 1, 1) (nT 20 (.aload_n 0, 1) (nT 17 (.if_icmp .ge 98, 3) (nT 16 (.iconst 5, 1) nE nE) nE) (nT 21 (.getfield 21, 3) nE nE)) (nT 27 (.invokevirtual 75, 3) (nT 26 (.iload_n 1, 1) (nT 25 (.aload_n 0, 1) nE nE) nE) (nT 30 (.lastore, 1) nE nE)))) (nT 47 (.laload, 1) (nT 38 (.lcmp, 1) (nT 36 (.laload, 1) (nT 35 (.iload_n 1, 1) (nT 32 (.getfield 21, 3) nE nE) nE) (nT 37 (.lconst 0, 1) nE nE)) (nT 43 (.getfield 21, 3) (nT 42 (.aload_n 0, 1) (nT 39 (.ifCond .eq 20, 3) nE nE) nE) (nT 46 (.iload_n 1, 1) nE nE))) (nT 52 (.ifCond .ne 7, 3) (nT 50 (.lconst 0, 1) (nT 49 (.land, 1) (nT 48 (.lconst 1, 1) nE nE) nE) (nT 51 (.lcmp, 1) nE nE)) (nT 59 (.iconst 0, 1) (nT 56 (.goto 4, 3) (nT 55 (.iconst 1, 1) nE nE) nE) (nT 60 (.istore_n 2, 1) nE nE))))) (nT 95 (.lconst 0, 1) (nT 79 (.goto 4, 3) (nT 70 (.aload_n 0, 1) (nT 66 (.iload_n 2, 1) (nT 65 (.iload_n 1, 1) (nT 62 (.getfield 25, 3) nE nE) nE) (nT 67 (.ifCond .eq 15, 3) nE nE)) (nT 75 (.invokevirtual 79, 3) (nT 74 (.iload_n 1, 1) (nT 71 (.getfield 49, 3) nE nE) nE) (nT 78 (.i2l, 1) nE nE))) (nT 86 (.getfield 72, 3) (nT 84 (.aload_n 0, 1) (nT 83 (.lastore, 1) (nT 82 (.lconst 0, 1) nE nE) nE) (nT 85 (.dup, 1) nE nE)) (nT 93 (.iload_n 1, 1) (nT 90 (.getfield 21, 3) (nT 89 (.aload_n 0, 1) nE nE) nE) (nT 94 (.laload, 1) nE nE)))) (nT 115 (.aload_n 0, 1) (nT 104 (.iconst 0, 1) (nT 100 (.iconst 1, 1) (nT 97 (.ifCond .eq 7, 3) (nT 96 (.lcmp, 1) nE nE) nE) (nT 101 (.goto 4, 3) nE nE)) (nT 109 (.iinc 1 1, 3) (nT 106 (.putfield 72, 3) (nT 105 (.iadd, 1) nE nE) nE) (nT 112 (.goto (-97), 3) nE nE))) (nT 122 (.iconst 0, 1) (nT 120 (.aload_n 0, 1) (nT 117 (.putfield 85, 3) (nT 116 (.iconst (-1), 1) nE nE) nE) (nT 121 (.iconst 0, 1) nE nE)) (nT 127 (.getfield 85, 3) (nT 126 (.aload_n 0, 1) (nT 123 (.invokevirtual 88, 3) nE nE) nE) (nT 130 (.ireturn, 1) nE nE))))))
def i_X3_extendPlan : Nat → Option (Instr × Nat) := (nT 72 (.lshr, 1) (nT 42 (.return_, 1) (nT 20 (.iload_n 1, 1) (nT 11 (.iload_n 2, 1) (nT 4 (.aload_n 0, 1) (nT 1 (.getfield 85, 3) (nT 0 (.aload_n 0, 1) nE nE) nE) (nT 8 (.if_icmp .ne 12, 3) (nT 5 (.getfield 72, 3) nE nE) nE)) (nT 16 (.if_icmp .lt 4, 3) (nT 13 (.getfield 105, 3) (nT 12 (.aload_n 0, 1) nE nE) nE) (nT 19 (.return_, 1) nE nE))) (nT 32 (.bipush 6, 2) (nT 25 (.getfield 108, 3) (nT 22 (.getfield 37, 3) (nT 21 (.aload_n 0, 1) nE nE) nE) (nT 31 (.iload_n 1, 1) (nT 28 (.if_icmp .ge 9, 3) nE nE) nE)) (nT 38 (.iload_n 2, 1) (nT 37 (.aload_n 0, 1) (nT 34 (.if_icmp .lt 9, 3) nE nE) nE) (nT 39 (.invokevirtual 111, 3) nE nE)))) (nT 55 (.invokevirtual 88, 3) (nT 50 (.aload_n 0, 1) (nT 47 (.iload_n 1, 1) (nT 44 (.getfield 15, 3) (nT 43 (.aload_n 0, 1) nE nE) nE) (nT 49 (.iastore, 1) (nT 48 (.iconst (-1), 1) nE nE) nE)) (nT 53 (.iadd, 1) (nT 52 (.iconst 1, 1) (nT 51 (.iload_n 1, 1) nE nE) nE) (nT 54 (.iload_n 2, 1) nE nE))) (nT 65 (.aload_n 0, 1) (nT 60 (.iload_n 3, 1) (nT 59 (.istore_n 3, 1) (nT 58 (.iconst 0, 1) nE nE) nE) (nT 62 (.if_icmp .ge 67, 3) (nT 61 (.iconst 5, 1) nE nE) nE)) (nT 70 (.laload, 1) (nT 69 (.iload_n 3, 1) (nT 66 (.getfield 25, 3) nE nE) nE) (nT 71 (.iload_n 1, 1) nE nE))))) (nT 100 (.iload_n 1, 1) (nT 87 (.aload_n 0, 1) (nT 80 (.aload_n 0, 1) (nT 75 (.lconst 0, 1) (nT 74 (.land, 1) (nT 73 (.lconst 1, 1) nE nE) nE) (nT 77 (.ifCond .eq 46, 3) (nT 76 (.lcmp, 1) nE nE) nE)) (nT 85 (.iload_n 3, 1) (nT 84 (.iload_n 1, 1) (nT 81 (.getfield 15, 3) nE nE) nE) (nT 86 (.iastore, 1) nE nE))) (nT 95 (.iload_n 1, 1) (nT 92 (.dup2, 1) (nT 91 (.iload_n 3, 1) (nT 88 (.getfield 18, 3) nE nE) nE) (nT 94 (.iconst 1, 1) (nT 93 (.iaload, 1) nE nE) nE)) (nT 98 (.iastore, 1) (nT 97 (.ior, 1) (nT 96 (.ishl, 1) nE nE) nE) (nT 99 (.aload_n 0, 1) nE nE)))) (nT 115 (.iaload, 1) (nT 106 (.invokevirtual 88, 3) (nT 103 (.iload_n 2, 1) (nT 102 (.iadd, 1) (nT 101 (.iconst 1, 1) nE nE) nE) (nT 105 (.iadd, 1) (nT 104 (.iconst 1, 1) nE nE) nE)) (nT 113 (.iload_n 3, 1) (nT 110 (.getfield 18, 3) (nT 109 (.aload_n 0, 1) nE nE) nE) (nT 114 (.dup2, 1) nE nE))) (nT 121 (.iand, 1) (nT 118 (.ishl, 1) (nT 117 (.iload_n 1, 1) (nT 116 (.iconst 1, 1) nE nE) nE) (nT 120 (.ixor, 1) (nT 119 (.iconst (-1), 1) nE nE) nE)) (nT 126 (.goto (-66), 3) (nT 123 (.iinc 3 1, 3) (nT 122 (.iastore, 1) nE nE) nE) (nT 129 (.return_, 1) nE nE))))))
def i_X3_weighPlan : Nat → Option (Instr × Nat) := (nT 23 (.getfield 105, 3) (nT 10 (.if_icmp .gt 19, 3) (nT 5 (.iload_n 2, 1) (nT 1 (.invokevirtual 115, 3) (nT 0 (.aload_n 0, 1) nE nE) (nT 4 (.istore_n 2, 1) nE nE)) (nT 7 (.getfield 85, 3) (nT 6 (.aload_n 0, 1) nE nE) nE)) (nT 18 (.if_icmp .ne 32, 3) (nT 14 (.aload_n 0, 1) (nT 13 (.iload_n 2, 1) nE nE) (nT 15 (.getfield 85, 3) nE nE)) (nT 22 (.aload_n 0, 1) (nT 21 (.iload_n 1, 1) nE nE) nE))) (nT 36 (.putfield 105, 3) (nT 31 (.putfield 85, 3) (nT 29 (.aload_n 0, 1) (nT 26 (.if_icmp .ge 24, 3) nE nE) (nT 30 (.iload_n 2, 1) nE nE)) (nT 35 (.iload_n 1, 1) (nT 34 (.aload_n 0, 1) nE nE) nE)) (nT 44 (.getfield 108, 3) (nT 40 (.aload_n 0, 1) (nT 39 (.aload_n 0, 1) nE nE) (nT 41 (.getfield 37, 3) nE nE)) (nT 50 (.return_, 1) (nT 47 (.invokevirtual 119, 3) nE nE) nE))))
def i_X3_forcingSets : Nat → Option (Instr × Nat) := (nT 40 (.ifCond .ne 32, 3) (nT 19 (.if_icmp .ge 59, 3) (nT 7 (.invokevirtual 79, 3) (nT 2 (.aload_n 0, 1) (nT 1 (.lstore_n 2, 1) (nT 0 (.lconst 0, 1) nE nE) nE) (nT 6 (.iload_n 1, 1) (nT 3 (.getfield 49, 3) nE nE) nE)) (nT 13 (.istore 5, 2) (nT 12 (.iconst 0, 1) (nT 10 (.istore 4, 2) nE nE) nE) (nT 17 (.bipush 64, 2) (nT 15 (.iload 5, 2) nE nE) nE))) (nT 33 (.iload 5, 2) (nT 26 (.iload_n 1, 1) (nT 23 (.getfield 49, 3) (nT 22 (.aload_n 0, 1) nE nE) nE) (nT 30 (.ifCond .eq 48, 3) (nT 27 (.invokevirtual 92, 3) nE nE) nE)) (nT 38 (.ixor, 1) (nT 37 (.iconst (-1), 1) (nT 35 (.iload 4, 2) nE nE) nE) (nT 39 (.iand, 1) nE nE)))) (nT 62 (.if_icmp .lt 10, 3) (nT 51 (.invokevirtual 96, 3) (nT 47 (.iload_n 1, 1) (nT 44 (.getfield 49, 3) (nT 43 (.aload_n 0, 1) nE nE) nE) (nT 50 (.iconst 0, 1) (nT 48 (.iload 5, 2) nE nE) nE)) (nT 58 (.iload_n 1, 1) (nT 55 (.getfield 37, 3) (nT 54 (.aload_n 0, 1) nE nE) nE) (nT 59 (.invokevirtual 100, 3) nE nE))) (nT 71 (.lstore_n 2, 1) (nT 67 (.iload 5, 2) (nT 66 (.lconst 1, 1) (nT 65 (.lload_n 2, 1) nE nE) nE) (nT 70 (.lor, 1) (nT 69 (.lshl, 1) nE nE) nE)) (nT 78 (.lload_n 2, 1) (nT 75 (.goto (-60), 3) (nT 72 (.iinc 5 1, 3) nE nE) nE) (nT 79 (.lreturn, 1) nE nE)))))
def i_X12_latest : Nat → Option (Instr × Nat) := (nT 53 (.aload_n 0, 1) (nT 25 (.invokestatic 357, 3) (nT 13 (.ifCond .eq 18, 3) (nT 5 (.ifCond .eq 26, 3) (nT 1 (.iload_n 1, 1) (nT 0 (.aload_n 0, 1) nE nE) (nT 2 (.invokevirtual 410, 3) nE nE)) (nT 9 (.iload_n 2, 1) (nT 8 (.aload_n 0, 1) nE nE) (nT 10 (.invokevirtual 398, 3) nE nE))) (nT 21 (.iload_n 2, 1) (nT 17 (.getfield 89, 3) (nT 16 (.aload_n 0, 1) nE nE) (nT 20 (.iconst 5, 1) nE nE)) (nT 23 (.iaload, 1) (nT 22 (.iadd, 1) nE nE) (nT 24 (.iload_n 1, 1) nE nE)))) (nT 40 (.iload_n 1, 1) (nT 33 (.aload_n 0, 1) (nT 31 (.iconst (-1), 1) (nT 28 (.ifCond .eq 5, 3) nE nE) (nT 32 (.ireturn, 1) nE nE)) (nT 37 (.bipush 30, 2) (nT 34 (.getfield 89, 3) nE nE) (nT 39 (.iaload, 1) nE nE))) (nT 48 (.goto 4, 3) (nT 44 (.ifCond .eq 7, 3) (nT 41 (.invokestatic 357, 3) nE nE) (nT 47 (.iconst 1, 1) nE nE)) (nT 52 (.istore_n 3, 1) (nT 51 (.iconst 0, 1) nE nE) nE)))) (nT 78 (.iconst 1, 1) (nT 66 (.iconst 1, 1) (nT 59 (.getfield 89, 3) (nT 55 (.invokevirtual 386, 3) (nT 54 (.iload_n 2, 1) nE nE) (nT 58 (.aload_n 0, 1) nE nE)) (nT 64 (.iaload, 1) (nT 62 (.bipush 31, 2) nE nE) (nT 65 (.isub, 1) nE nE))) (nT 72 (.iload_n 3, 1) (nT 68 (.istore 4, 2) (nT 67 (.isub, 1) nE nE) (nT 70 (.iload 4, 2) nE nE)) (nT 76 (.aload_n 0, 1) (nT 73 (.if_icmp .lt 30, 3) nE nE) (nT 77 (.iload_n 2, 1) nE nE)))) (nT 91 (.if_icmp .lt 6, 3) (nT 83 (.invokevirtual 455, 3) (nT 80 (.ishl, 1) (nT 79 (.iload_n 1, 1) nE nE) (nT 81 (.iload 4, 2) nE nE)) (nT 87 (.iload_n 2, 1) (nT 86 (.aload_n 0, 1) nE nE) (nT 88 (.invokevirtual 404, 3) nE nE))) (nT 100 (.goto (-30), 3) (nT 96 (.ireturn, 1) (nT 94 (.iload 4, 2) nE nE) (nT 97 (.iinc 4 (-1), 3) nE nE)) (nT 104 (.ireturn, 1) (nT 103 (.iconst (-1), 1) nE nE) nE)))))
def i_X11_latest : Nat → Option (Instr × Nat) := (nT 5 (.iload_n 2, 1) (nT 1 (.getfield 71, 3) (nT 0 (.aload_n 0, 1) nE nE) (nT 4 (.iload_n 1, 1) nE nE)) (nT 9 (.ireturn, 1) (nT 6 (.invokevirtual 258, 3) nE nE) nE))
def i_X1_latestVote : Nat → Option (Instr × Nat) := (nT 55 (.ishr, 1) (nT 23 (.getfield 9, 3) (nT 11 (.iconst 1, 1) (nT 5 (.iconst 1, 1) (nT 1 (.getfield 15, 3) (nT 0 (.aload_n 0, 1) nE nE) (nT 4 (.iload_n 2, 1) nE nE)) (nT 9 (.iload_n 1, 1) (nT 6 (.invokevirtual 31, 3) nE nE) (nT 10 (.ishr, 1) nE nE))) (nT 17 (.goto 4, 3) (nT 13 (.ifCond .eq 7, 3) (nT 12 (.iand, 1) nE nE) (nT 16 (.iconst 1, 1) nE nE)) (nT 21 (.istore_n 3, 1) (nT 20 (.iconst 0, 1) nE nE) (nT 22 (.aload_n 0, 1) nE nE)))) (nT 41 (.iload_n 3, 1) (nT 33 (.aload_n 0, 1) (nT 27 (.invokevirtual 35, 3) (nT 26 (.iload_n 1, 1) nE nE) (nT 30 (.ifCond .eq 15, 3) nE nE)) (nT 35 (.invokevirtual 46, 3) (nT 34 (.iload_n 2, 1) nE nE) (nT 38 (.ifCond .eq 7, 3) nE nE))) (nT 47 (.aload_n 0, 1) (nT 45 (.iconst (-1), 1) (nT 42 (.ifCond .eq 5, 3) nE nE) (nT 46 (.ireturn, 1) nE nE)) (nT 51 (.getfield 49, 3) (nT 48 (.getfield 15, 3) nE nE) (nT 54 (.iload_n 1, 1) nE nE))))) (nT 79 (.iload_n 1, 1) (nT 66 (.isub, 1) (nT 60 (.aload_n 0, 1) (nT 57 (.iand, 1) (nT 56 (.iconst 1, 1) nE nE) (nT 58 (.istore 4, 2) nE nE)) (nT 62 (.invokevirtual 85, 3) (nT 61 (.iload_n 2, 1) nE nE) (nT 65 (.iconst 1, 1) nE nE))) (nT 73 (.if_icmp .lt 33, 3) (nT 69 (.iload 5, 2) (nT 67 (.istore 5, 2) nE nE) (nT 71 (.iload 4, 2) nE nE)) (nT 77 (.iload_n 2, 1) (nT 76 (.aload_n 0, 1) nE nE) (nT 78 (.iconst 1, 1) nE nE)))) (nT 94 (.if_icmp .lt 6, 3) (nT 86 (.aload_n 0, 1) (nT 81 (.iload 5, 2) (nT 80 (.ishl, 1) nE nE) (nT 83 (.invokevirtual 97, 3) nE nE)) (nT 90 (.iload_n 2, 1) (nT 87 (.getfield 9, 3) nE nE) (nT 91 (.invokevirtual 101, 3) nE nE))) (nT 103 (.goto (-34), 3) (nT 99 (.ireturn, 1) (nT 97 (.iload 5, 2) nE nE) (nT 100 (.iinc 5 (-1), 3) nE nE)) (nT 107 (.ireturn, 1) (nT 106 (.iconst (-1), 1) nE nE) nE)))))
def i_X12_muster : Nat → Option (Instr × Nat) := (nT 68 (.if_icmp .gt 56, 3) (nT 30 (.invokevirtual 347, 3) (nT 17 (.iconst (-1), 1) (nT 8 (.iload_n 2, 1) (nT 2 (.invokevirtual 398, 3) (nT 1 (.iload_n 1, 1) (nT 0 (.aload_n 0, 1) nE nE) nE) (nT 5 (.ifCond .eq 12, 3) nE nE)) (nT 11 (.invokestatic 350, 3) (nT 10 (.iconst 1, 1) (nT 9 (.iconst 0, 1) nE nE) nE) (nT 14 (.ifCond .ne 5, 3) nE nE))) (nT 22 (.istore 4, 2) (nT 20 (.istore_n 3, 1) (nT 19 (.iconst (-1), 1) (nT 18 (.ireturn, 1) nE nE) nE) (nT 21 (.iconst 0, 1) nE nE)) (nT 27 (.iload 5, 2) (nT 25 (.istore 5, 2) (nT 24 (.iconst 0, 1) nE nE) nE) (nT 29 (.aload_n 0, 1) nE nE)))) (nT 51 (.ishl, 1) (nT 40 (.invokevirtual 413, 3) (nT 37 (.iload 5, 2) (nT 36 (.aload_n 0, 1) (nT 33 (.if_icmp .ge 28, 3) nE nE) nE) (nT 39 (.iload_n 1, 1) nE nE)) (nT 48 (.iconst 1, 1) (nT 46 (.iload 4, 2) (nT 43 (.ifCond .eq 12, 3) nE nE) nE) (nT 49 (.iload 5, 2) nE nE))) (nT 61 (.iconst 0, 1) (nT 55 (.iinc 5 1, 3) (nT 53 (.istore 4, 2) (nT 52 (.ior, 1) nE nE) nE) (nT 58 (.goto (-31), 3) nE nE)) (nT 64 (.iload 5, 2) (nT 62 (.istore 5, 2) nE nE) (nT 66 (.iload 4, 2) nE nE))))) (nT 107 (.aload_n 0, 1) (nT 87 (.invokestatic 449, 3) (nT 77 (.iand, 1) (nT 75 (.iconst (-1), 1) (nT 73 (.iload 4, 2) (nT 71 (.iload 5, 2) nE nE) nE) (nT 76 (.ixor, 1) nE nE)) (nT 82 (.ifCond .lt 18, 3) (nT 81 (.iload_n 3, 1) (nT 78 (.ifCond .ne 40, 3) nE nE) nE) (nT 85 (.iload 5, 2) nE nE))) (nT 100 (.aload_n 0, 1) (nT 94 (.if_icmp .lt 6, 3) (nT 91 (.invokestatic 449, 3) (nT 90 (.iload_n 3, 1) nE nE) nE) (nT 97 (.goto 21, 3) nE nE)) (nT 102 (.iload 5, 2) (nT 101 (.iload_n 1, 1) nE nE) (nT 104 (.invokevirtual 452, 3) nE nE)))) (nT 128 (.iconst (-1), 1) (nT 117 (.istore_n 3, 1) (nT 112 (.if_icmp .lt 6, 3) (nT 109 (.invokevirtual 404, 3) (nT 108 (.iload_n 1, 1) nE nE) nE) (nT 115 (.iload 5, 2) nE nE)) (nT 124 (.iload_n 3, 1) (nT 121 (.goto (-57), 3) (nT 118 (.iinc 5 1, 3) nE nE) nE) (nT 125 (.ifCond .ge 7, 3) nE nE))) (nT 137 (.invokestatic 449, 3) (nT 133 (.ifCond .ne 10, 3) (nT 132 (.iload_n 2, 1) (nT 129 (.goto 15, 3) nE nE) nE) (nT 136 (.iload_n 3, 1) nE nE)) (nT 143 (.iload_n 3, 1) (nT 140 (.goto 4, 3) nE nE) (nT 144 (.ireturn, 1) nE nE))))))
def i_X11_muster : Nat → Option (Instr × Nat) := (nT 21 (.istore_n 3, 1) (nT 9 (.aload_n 0, 1) (nT 4 (.iload_n 2, 1) (nT 1 (.ifCond .eq 8, 3) (nT 0 (.iload_n 2, 1) nE nE) nE) (nT 6 (.if_icmp .ne 14, 3) (nT 5 (.iconst 1, 1) nE nE) nE)) (nT 14 (.invokevirtual 250, 3) (nT 13 (.iload_n 1, 1) (nT 10 (.getfield 71, 3) nE nE) nE) (nT 20 (.iconst (-1), 1) (nT 17 (.goto 4, 3) nE nE) nE))) (nT 29 (.if_icmp .ne 7, 3) (nT 24 (.if_icmp .eq 8, 3) (nT 23 (.iconst (-1), 1) (nT 22 (.iload_n 3, 1) nE nE) nE) (nT 28 (.iconst 1, 1) (nT 27 (.iload_n 2, 1) nE nE) nE)) (nT 36 (.iload_n 3, 1) (nT 33 (.goto 7, 3) (nT 32 (.iload_n 3, 1) nE nE) nE) (nT 40 (.ireturn, 1) (nT 37 (.invokestatic 253, 3) nE nE) nE))))
def i_X1_fewestSaviours : Nat → Option (Instr × Nat) := (nT 50 (.iconst 1, 1) (nT 21 (.ishl, 1) (nT 8 (.iconst 0, 1) (nT 3 (.iload_n 1, 1) (nT 1 (.istore_n 2, 1) (nT 0 (.iconst (-1), 1) nE nE) (nT 2 (.aload_n 0, 1) nE nE)) (nT 7 (.istore_n 3, 1) (nT 4 (.invokevirtual 38, 3) nE nE) nE)) (nT 14 (.aload_n 0, 1) (nT 11 (.iload 4, 2) (nT 9 (.istore 4, 2) nE nE) (nT 13 (.iconst 1, 1) nE nE)) (nT 18 (.getfield 42, 3) (nT 15 (.getfield 9, 3) nE nE) nE))) (nT 34 (.iconst (-1), 1) (nT 27 (.invokevirtual 46, 3) (nT 25 (.aload_n 0, 1) (nT 22 (.if_icmp .ge 77, 3) nE nE) (nT 26 (.iload_n 1, 1) nE nE)) (nT 33 (.iload_n 2, 1) (nT 30 (.ifCond .eq 69, 3) nE nE) nE)) (nT 43 (.iload_n 2, 1) (nT 38 (.iload 4, 2) (nT 35 (.if_icmp .eq 15, 3) nE nE) (nT 40 (.invokestatic 107, 3) nE nE)) (nT 47 (.if_icmp .ge 7, 3) (nT 44 (.invokestatic 107, 3) nE nE) nE)))) (nT 73 (.iload 4, 2) (nT 64 (.iload_n 3, 1) (nT 57 (.iload 5, 2) (nT 54 (.iconst 0, 1) (nT 51 (.goto 4, 3) nE nE) (nT 55 (.istore 5, 2) nE nE)) (nT 62 (.iload 4, 2) (nT 59 (.ifCond .eq 34, 3) nE nE) nE)) (nT 68 (.ifCond .ne 25, 3) (nT 66 (.ixor, 1) (nT 65 (.iconst (-1), 1) nE nE) (nT 67 (.iand, 1) nE nE)) (nT 72 (.iload_n 1, 1) (nT 71 (.aload_n 0, 1) nE nE) nE))) (nT 87 (.if_icmp .lt 6, 3) (nT 80 (.getfield 9, 3) (nT 76 (.invokevirtual 97, 3) (nT 75 (.iconst 0, 1) nE nE) (nT 79 (.aload_n 0, 1) nE nE)) (nT 84 (.invokevirtual 101, 3) (nT 83 (.iload_n 1, 1) nE nE) nE)) (nT 96 (.goto (-85), 3) (nT 92 (.istore_n 2, 1) (nT 90 (.iload 4, 2) nE nE) (nT 93 (.iinc 4 1, 3) nE nE)) (nT 100 (.ireturn, 1) (nT 99 (.iload_n 2, 1) nE nE) nE)))))
def i_X12_pass : Nat → Option (Instr × Nat) := (nT 18 (.iload_n 2, 1) (nT 6 (.getfield 24, 3) (nT 3 (.istore_n 2, 1) (nT 1 (.istore_n 1, 1) (nT 0 (.iconst 0, 1) nE nE) (nT 2 (.iconst 0, 1) nE nE)) (nT 5 (.aload_n 0, 1) (nT 4 (.iload_n 2, 1) nE nE) nE)) (nT 13 (.iaload, 1) (nT 10 (.getfield 251, 3) (nT 9 (.aload_n 0, 1) nE nE) nE) (nT 17 (.aload_n 0, 1) (nT 14 (.if_icmp .ge 23, 3) nE nE) nE))) (nT 29 (.ior, 1) (nT 26 (.iconst 1, 1) (nT 22 (.ifCond .eq 9, 3) (nT 19 (.invokevirtual 425, 3) nE nE) (nT 25 (.iload_n 1, 1) nE nE)) (nT 28 (.ishl, 1) (nT 27 (.iload_n 2, 1) nE nE) nE)) (nT 34 (.goto (-30), 3) (nT 31 (.iinc 2 1, 3) (nT 30 (.istore_n 1, 1) nE nE) nE) (nT 38 (.ireturn, 1) (nT 37 (.iload_n 1, 1) nE nE) nE))))
def i_X11_pass : Nat → Option (Instr × Nat) := (nT 4 (.invokevirtual 246, 3) (nT 1 (.getfield 71, 3) (nT 0 (.aload_n 0, 1) nE nE) nE) (nT 7 (.ireturn, 1) nE nE))
def i_X1_passing : Nat → Option (Instr × Nat) := (nT 18 (.invokevirtual 104, 3) (nT 6 (.getfield 9, 3) (nT 3 (.istore_n 2, 1) (nT 1 (.istore_n 1, 1) (nT 0 (.iconst 0, 1) nE nE) (nT 2 (.iconst 0, 1) nE nE)) (nT 5 (.aload_n 0, 1) (nT 4 (.iload_n 2, 1) nE nE) nE)) (nT 15 (.iload_n 1, 1) (nT 12 (.if_icmp .ge 27, 3) (nT 9 (.getfield 55, 3) nE nE) nE) (nT 17 (.iload_n 2, 1) (nT 16 (.aload_n 0, 1) nE nE) nE))) (nT 31 (.ior, 1) (nT 26 (.ishl, 1) (nT 24 (.iconst 1, 1) (nT 21 (.ifCond .eq 9, 3) nE nE) (nT 25 (.iload_n 2, 1) nE nE)) (nT 30 (.iconst 0, 1) (nT 27 (.goto 4, 3) nE nE) nE)) (nT 36 (.goto (-32), 3) (nT 33 (.iinc 2 1, 3) (nT 32 (.istore_n 1, 1) nE nE) nE) (nT 40 (.ireturn, 1) (nT 39 (.iload_n 1, 1) nE nE) nE))))
def i_X12_dull : Nat → Option (Instr × Nat) := (nT 23 (.aload_n 0, 1) (nT 11 (.iload_n 1, 1) (nT 5 (.ifCond .ne 5, 3) (nT 1 (.iload_n 1, 1) (nT 0 (.aload_n 0, 1) nE nE) (nT 2 (.invokevirtual 398, 3) nE nE)) (nT 9 (.ireturn, 1) (nT 8 (.iconst (-1), 1) nE nE) (nT 10 (.aload_n 0, 1) nE nE))) (nT 17 (.iload_n 2, 1) (nT 15 (.iconst 0, 1) (nT 12 (.invokevirtual 392, 3) nE nE) (nT 16 (.istore_n 2, 1) nE nE)) (nT 20 (.if_icmp .gt 28, 3) (nT 18 (.bipush 60, 2) nE nE) nE))) (nT 37 (.aload_n 0, 1) (nT 29 (.invokevirtual 404, 3) (nT 27 (.aload_n 0, 1) (nT 24 (.getfield 319, 3) nE nE) (nT 28 (.iload_n 1, 1) nE nE)) (nT 35 (.iload_n 2, 1) (nT 32 (.if_icmp .ge 5, 3) nE nE) (nT 36 (.ireturn, 1) nE nE))) (nT 45 (.goto (-28), 3) (nT 39 (.invokevirtual 389, 3) (nT 38 (.iconst 1, 1) nE nE) (nT 42 (.iinc 2 1, 3) nE nE)) (nT 49 (.ireturn, 1) (nT 48 (.iconst (-1), 1) nE nE) nE))))
def i_X11_dull : Nat → Option (Instr × Nat) := (nT 4 (.iload_n 1, 1) (nT 1 (.getfield 71, 3) (nT 0 (.aload_n 0, 1) nE nE) nE) (nT 8 (.ireturn, 1) (nT 5 (.invokevirtual 243, 3) nE nE) nE))
def i_X1_daysTillDull : Nat → Option (Instr × Nat) := (nT 30 (.aload_n 0, 1) (nT 14 (.aload_n 0, 1) (nT 8 (.iconst (-1), 1) (nT 2 (.invokevirtual 46, 3) (nT 1 (.iload_n 1, 1) (nT 0 (.aload_n 0, 1) nE nE) nE) (nT 5 (.ifCond .ne 5, 3) nE nE)) (nT 10 (.aload_n 0, 1) (nT 9 (.ireturn, 1) nE nE) (nT 11 (.getfield 19, 3) nE nE))) (nT 23 (.istore_n 2, 1) (nT 19 (.invokevirtual 68, 3) (nT 18 (.iload_n 1, 1) (nT 15 (.getfield 15, 3) nE nE) nE) (nT 22 (.iconst 0, 1) nE nE)) (nT 25 (.bipush 60, 2) (nT 24 (.iload_n 2, 1) nE nE) (nT 27 (.if_icmp .gt 37, 3) nE nE)))) (nT 49 (.ireturn, 1) (nT 41 (.iload_n 1, 1) (nT 37 (.aload_n 0, 1) (nT 34 (.getfield 88, 3) (nT 31 (.getfield 19, 3) nE nE) nE) (nT 38 (.getfield 9, 3) nE nE)) (nT 45 (.if_icmp .ge 5, 3) (nT 42 (.invokevirtual 101, 3) nE nE) (nT 48 (.iload_n 2, 1) nE nE))) (nT 58 (.iinc 2 1, 3) (nT 54 (.iconst 1, 1) (nT 51 (.getfield 19, 3) (nT 50 (.aload_n 0, 1) nE nE) nE) (nT 55 (.invokevirtual 78, 3) nE nE)) (nT 64 (.iconst (-1), 1) (nT 61 (.goto (-37), 3) nE nE) (nT 65 (.ireturn, 1) nE nE)))))
def i_X12_will : Nat → Option (Instr × Nat) := (nT 19 (.ireturn, 1) (nT 9 (.iconst 0, 1) (nT 2 (.invokevirtual 398, 3) (nT 1 (.iload_n 1, 1) (nT 0 (.aload_n 0, 1) nE nE) nE) (nT 8 (.iload_n 2, 1) (nT 5 (.ifCond .eq 13, 3) nE nE) nE)) (nT 15 (.ifCond .ne 5, 3) (nT 12 (.invokestatic 350, 3) (nT 10 (.bipush 60, 2) nE nE) nE) (nT 18 (.iconst (-1), 1) nE nE))) (nT 26 (.iload_n 2, 1) (nT 22 (.invokevirtual 392, 3) (nT 21 (.iload_n 1, 1) (nT 20 (.aload_n 0, 1) nE nE) nE) (nT 25 (.aload_n 0, 1) nE nE)) (nT 31 (.getfield 319, 3) (nT 30 (.aload_n 0, 1) (nT 27 (.invokevirtual 389, 3) nE nE) nE) (nT 34 (.ireturn, 1) nE nE))))
def i_X11_will : Nat → Option (Instr × Nat) := (nT 5 (.iload_n 2, 1) (nT 1 (.getfield 71, 3) (nT 0 (.aload_n 0, 1) nE nE) (nT 4 (.iload_n 1, 1) nE nE)) (nT 9 (.ireturn, 1) (nT 6 (.invokevirtual 240, 3) nE nE) nE))
def i_X1_volumeBehind : Nat → Option (Instr × Nat) := (nT 21 (.getfield 19, 3) (nT 12 (.iload_n 2, 1) (nT 5 (.ifCond .eq 13, 3) (nT 1 (.iload_n 1, 1) (nT 0 (.aload_n 0, 1) nE nE) (nT 2 (.invokevirtual 46, 3) nE nE)) (nT 9 (.ifCond .lt 9, 3) (nT 8 (.iload_n 2, 1) nE nE) nE)) (nT 18 (.iconst (-1), 1) (nT 15 (.if_icmp .le 5, 3) (nT 13 (.bipush 60, 2) nE nE) nE) (nT 20 (.aload_n 0, 1) (nT 19 (.ireturn, 1) nE nE) nE))) (nT 36 (.iload_n 2, 1) (nT 29 (.invokevirtual 68, 3) (nT 25 (.getfield 15, 3) (nT 24 (.aload_n 0, 1) nE nE) (nT 28 (.iload_n 1, 1) nE nE)) (nT 33 (.getfield 19, 3) (nT 32 (.aload_n 0, 1) nE nE) nE)) (nT 41 (.getfield 19, 3) (nT 40 (.aload_n 0, 1) (nT 37 (.invokevirtual 78, 3) nE nE) nE) (nT 47 (.ireturn, 1) (nT 44 (.getfield 88, 3) nE nE) nE))))
def i_X12_redo : Nat → Option (Instr × Nat) := (nT 18 (.iconst 1, 1) (nT 9 (.aload_n 0, 1) (nT 4 (.ifCond .ne 5, 3) (nT 1 (.getfield 368, 3) (nT 0 (.aload_n 0, 1) nE nE) nE) (nT 8 (.ireturn, 1) (nT 7 (.iconst 0, 1) nE nE) nE)) (nT 14 (.dup, 1) (nT 13 (.aload_n 0, 1) (nT 10 (.invokevirtual 446, 3) nE nE) nE) (nT 15 (.getfield 365, 3) nE nE))) (nT 28 (.iconst 1, 1) (nT 23 (.aload_n 0, 1) (nT 20 (.putfield 365, 3) (nT 19 (.iadd, 1) nE nE) nE) (nT 25 (.getfield 368, 3) (nT 24 (.dup, 1) nE nE) nE)) (nT 33 (.iconst 1, 1) (nT 30 (.putfield 368, 3) (nT 29 (.isub, 1) nE nE) nE) (nT 34 (.ireturn, 1) nE nE))))
def i_X12_exchange : Nat → Option (Instr × Nat) := (nT 29 (.aload_n 0, 1) (nT 15 (.getfield 365, 3) (nT 5 (.if_icmp .ge 51, 3) (nT 2 (.iload_n 1, 1) (nT 1 (.istore_n 1, 1) (nT 0 (.iconst 0, 1) nE nE) nE) (nT 3 (.bipush 33, 2) nE nE)) (nT 12 (.bipush 33, 2) (nT 9 (.getfield 92, 3) (nT 8 (.aload_n 0, 1) nE nE) nE) (nT 14 (.aload_n 0, 1) nE nE))) (nT 22 (.istore_n 2, 1) (nT 20 (.iadd, 1) (nT 19 (.iload_n 1, 1) (nT 18 (.imul, 1) nE nE) nE) (nT 21 (.iaload, 1) nE nE)) (nT 24 (.getfield 92, 3) (nT 23 (.aload_n 0, 1) nE nE) (nT 27 (.bipush 33, 2) nE nE)))) (nT 42 (.iastore, 1) (nT 36 (.aload_n 0, 1) (nT 34 (.iload_n 1, 1) (nT 33 (.imul, 1) (nT 30 (.getfield 365, 3) nE nE) nE) (nT 35 (.iadd, 1) nE nE)) (nT 40 (.iload_n 1, 1) (nT 37 (.getfield 89, 3) nE nE) (nT 41 (.iaload, 1) nE nE))) (nT 49 (.iastore, 1) (nT 47 (.iload_n 1, 1) (nT 44 (.getfield 89, 3) (nT 43 (.aload_n 0, 1) nE nE) nE) (nT 48 (.iload_n 2, 1) nE nE)) (nT 53 (.goto (-51), 3) (nT 50 (.iinc 1 1, 3) nE nE) (nT 56 (.return_, 1) nE nE)))))
def i_X11_redo : Nat → Option (Instr × Nat) := (nT 5 (.getfield 38, 3) (nT 1 (.getfield 53, 3) (nT 0 (.aload_n 0, 1) nE nE) (nT 4 (.aload_n 0, 1) nE nE)) (nT 11 (.ireturn, 1) (nT 8 (.invokevirtual 237, 3) nE nE) nE))
def i_X0_goOn : Nat → Option (Instr × Nat) := (nT 18 (.iconst 1, 1) (nT 11 (.iconst 0, 1) (nT 4 (.aload_n 0, 1) (nT 1 (.getfield 20, 3) (nT 0 (.aload_n 0, 1) nE nE) nE) (nT 8 (.if_icmp .lt 5, 3) (nT 5 (.getfield 23, 3) nE nE) nE)) (nT 14 (.dup, 1) (nT 13 (.aload_n 0, 1) (nT 12 (.ireturn, 1) nE nE) nE) (nT 15 (.getfield 20, 3) nE nE))) (nT 26 (.getfield 20, 3) (nT 23 (.aload_n 1, 1) (nT 20 (.putfield 20, 3) (nT 19 (.iadd, 1) nE nE) nE) (nT 25 (.aload_n 0, 1) (nT 24 (.aload_n 0, 1) nE nE) nE)) (nT 35 (.iconst 1, 1) (nT 32 (.invokevirtual 30, 3) (nT 29 (.invokevirtual 26, 3) nE nE) nE) (nT 36 (.ireturn, 1) nE nE))))
def i_X12_undo : Nat → Option (Instr × Nat) := (nT 16 (.putfield 365, 3) (nT 9 (.aload_n 0, 1) (nT 4 (.ifCond .ne 5, 3) (nT 1 (.getfield 365, 3) (nT 0 (.aload_n 0, 1) nE nE) nE) (nT 8 (.ireturn, 1) (nT 7 (.iconst 0, 1) nE nE) nE)) (nT 14 (.iconst 1, 1) (nT 11 (.getfield 365, 3) (nT 10 (.dup, 1) nE nE) nE) (nT 15 (.isub, 1) nE nE))) (nT 26 (.putfield 368, 3) (nT 21 (.getfield 368, 3) (nT 20 (.dup, 1) (nT 19 (.aload_n 0, 1) nE nE) nE) (nT 25 (.iadd, 1) (nT 24 (.iconst 1, 1) nE nE) nE)) (nT 33 (.iconst 1, 1) (nT 30 (.invokevirtual 446, 3) (nT 29 (.aload_n 0, 1) nE nE) nE) (nT 34 (.ireturn, 1) nE nE))))
def i_X11_undo : Nat → Option (Instr × Nat) := (nT 5 (.getfield 38, 3) (nT 1 (.getfield 53, 3) (nT 0 (.aload_n 0, 1) nE nE) (nT 4 (.aload_n 0, 1) nE nE)) (nT 11 (.ireturn, 1) (nT 8 (.invokevirtual 233, 3) nE nE) nE))
def i_X0_goBack : Nat → Option (Instr × Nat) := (nT 15 (.isub, 1) (nT 8 (.ireturn, 1) (nT 4 (.ifCond .gt 5, 3) (nT 1 (.getfield 20, 3) (nT 0 (.aload_n 0, 1) nE nE) nE) (nT 7 (.iconst 0, 1) nE nE)) (nT 11 (.getfield 20, 3) (nT 10 (.dup, 1) (nT 9 (.aload_n 0, 1) nE nE) nE) (nT 14 (.iconst 1, 1) nE nE))) (nT 22 (.getfield 20, 3) (nT 20 (.aload_n 0, 1) (nT 19 (.aload_n 1, 1) (nT 16 (.putfield 20, 3) nE nE) nE) (nT 21 (.aload_n 0, 1) nE nE)) (nT 31 (.iconst 1, 1) (nT 28 (.invokevirtual 30, 3) (nT 25 (.invokevirtual 26, 3) nE nE) nE) (nT 32 (.ireturn, 1) nE nE))))
def i_X12_day : Nat → Option (Instr × Nat) := (nT 13 (.iconst (-1), 1) (nT 6 (.iaload, 1) (nT 1 (.getfield 89, 3) (nT 0 (.aload_n 0, 1) nE nE) (nT 4 (.bipush 31, 2) nE nE)) (nT 10 (.if_icmp .ne 5, 3) (nT 7 (.sipush 999, 3) nE nE) nE)) (nT 19 (.aload_n 0, 1) (nT 15 (.aload_n 0, 1) (nT 14 (.ireturn, 1) nE nE) (nT 16 (.invokevirtual 428, 3) nE nE)) (nT 23 (.ireturn, 1) (nT 20 (.invokevirtual 443, 3) nE nE) nE)))
def i_X12_keepAct : Nat → Option (Instr × Nat) := (nT 50 (.istore_n 1, 1) (nT 27 (.iload_n 1, 1) (nT 12 (.sipush 1320, 3) (nT 6 (.if_icmp .ne 43, 3) (nT 1 (.getfield 365, 3) (nT 0 (.aload_n 0, 1) nE nE) (nT 4 (.bipush 40, 2) nE nE)) (nT 10 (.istore_n 1, 1) (nT 9 (.iconst 0, 1) nE nE) (nT 11 (.iload_n 1, 1) nE nE))) (nT 22 (.iload_n 1, 1) (nT 18 (.aload_n 0, 1) (nT 15 (.if_icmp .ge 24, 3) nE nE) (nT 19 (.getfield 92, 3) nE nE)) (nT 24 (.getfield 92, 3) (nT 23 (.aload_n 0, 1) nE nE) nE))) (nT 39 (.aload_n 0, 1) (nT 32 (.iastore, 1) (nT 30 (.iadd, 1) (nT 28 (.bipush 33, 2) nE nE) (nT 31 (.iaload, 1) nE nE)) (nT 36 (.goto (-25), 3) (nT 33 (.iinc 1 1, 3) nE nE) nE)) (nT 45 (.isub, 1) (nT 41 (.getfield 365, 3) (nT 40 (.dup, 1) nE nE) (nT 44 (.iconst 1, 1) nE nE)) (nT 49 (.iconst 0, 1) (nT 46 (.putfield 365, 3) nE nE) nE)))) (nT 75 (.iaload, 1) (nT 64 (.getfield 365, 3) (nT 57 (.aload_n 0, 1) (nT 52 (.bipush 33, 2) (nT 51 (.iload_n 1, 1) nE nE) (nT 54 (.if_icmp .ge 29, 3) nE nE)) (nT 61 (.bipush 33, 2) (nT 58 (.getfield 92, 3) nE nE) (nT 63 (.aload_n 0, 1) nE nE))) (nT 70 (.aload_n 0, 1) (nT 68 (.iload_n 1, 1) (nT 67 (.imul, 1) nE nE) (nT 69 (.iadd, 1) nE nE)) (nT 74 (.iload_n 1, 1) (nT 71 (.getfield 89, 3) nE nE) nE))) (nT 88 (.iconst 1, 1) (nT 83 (.aload_n 0, 1) (nT 77 (.iinc 1 1, 3) (nT 76 (.iastore, 1) nE nE) (nT 80 (.goto (-29), 3) nE nE)) (nT 85 (.getfield 365, 3) (nT 84 (.dup, 1) nE nE) nE)) (nT 94 (.iconst 0, 1) (nT 90 (.putfield 365, 3) (nT 89 (.iadd, 1) nE nE) (nT 93 (.aload_n 0, 1) nE nE)) (nT 98 (.return_, 1) (nT 95 (.putfield 368, 3) nE nE) nE)))))
def i_X11_day : Nat → Option (Instr × Nat) := (nT 95 (.if_icmp .ne 62, 3) (nT 44 (.iload_n 3, 1) (nT 24 (.istore_n 1, 1) (nT 14 (.ireturn, 1) (nT 7 (.sipush 999, 3) (nT 1 (.getfield 38, 3) (nT 0 (.aload_n 0, 1) nE nE) (nT 4 (.getfield 221, 3) nE nE)) (nT 13 (.iconst (-1), 1) (nT 10 (.if_icmp .lt 5, 3) nE nE) nE)) (nT 19 (.getfield 221, 3) (nT 16 (.getfield 38, 3) (nT 15 (.aload_n 0, 1) nE nE) nE) (nT 23 (.iadd, 1) (nT 22 (.iconst 1, 1) nE nE) nE))) (nT 30 (.aload_n 0, 1) (nT 27 (.iconst 0, 1) (nT 26 (.istore_n 2, 1) (nT 25 (.iconst 0, 1) nE nE) nE) (nT 29 (.iload_n 3, 1) (nT 28 (.istore_n 3, 1) nE nE) nE)) (nT 37 (.if_icmp .ge 126, 3) (nT 34 (.getfield 224, 3) (nT 31 (.getfield 19, 3) nE nE) nE) (nT 41 (.getfield 71, 3) (nT 40 (.aload_n 0, 1) nE nE) nE)))) (nT 71 (.invokevirtual 227, 3) (nT 59 (.getfield 38, 3) (nT 54 (.aload_n 0, 1) (nT 48 (.ifCond .ne 6, 3) (nT 45 (.invokevirtual 202, 3) nE nE) (nT 51 (.goto 106, 3) nE nE)) (nT 58 (.aload_n 0, 1) (nT 55 (.getfield 62, 3) nE nE) nE)) (nT 66 (.aload_n 0, 1) (nT 63 (.invokevirtual 189, 3) (nT 62 (.iload_n 3, 1) nE nE) nE) (nT 70 (.iconst 1, 1) (nT 67 (.getfield 62, 3) nE nE) nE))) (nT 83 (.invokevirtual 196, 3) (nT 78 (.aload_n 0, 1) (nT 75 (.getfield 62, 3) (nT 74 (.aload_n 0, 1) nE nE) nE) (nT 82 (.iload_n 3, 1) (nT 79 (.getfield 38, 3) nE nE) nE)) (nT 90 (.iload_n 3, 1) (nT 87 (.getfield 19, 3) (nT 86 (.aload_n 0, 1) nE nE) nE) (nT 94 (.iload_n 1, 1) (nT 91 (.invokevirtual 170, 3) nE nE) nE))))) (nT 145 (.ifCond .eq 9, 3) (nT 123 (.aload_n 0, 1) (nT 110 (.invokevirtual 167, 3) (nT 105 (.aload_n 0, 1) (nT 99 (.getfield 62, 3) (nT 98 (.aload_n 0, 1) nE nE) (nT 102 (.getfield 230, 3) nE nE)) (nT 109 (.iload_n 3, 1) (nT 106 (.getfield 19, 3) nE nE) nE)) (nT 117 (.goto 4, 3) (nT 116 (.iconst 1, 1) (nT 113 (.if_icmp .lt 7, 3) nE nE) nE) (nT 121 (.istore 4, 2) (nT 120 (.iconst 0, 1) nE nE) nE))) (nT 134 (.iconst 1, 1) (nT 128 (.iconst 5, 1) (nT 127 (.iload_n 3, 1) (nT 124 (.getfield 38, 3) nE nE) nE) (nT 131 (.ifCond .eq 7, 3) (nT 129 (.iload 4, 2) nE nE) nE)) (nT 139 (.invokevirtual 208, 3) (nT 138 (.iconst 2, 1) (nT 135 (.goto 4, 3) nE nE) nE) (nT 143 (.iload 4, 2) (nT 142 (.iload_n 2, 1) nE nE) nE)))) (nT 168 (.putfield 221, 3) (nT 156 (.istore_n 2, 1) (nT 151 (.goto 4, 3) (nT 149 (.iload_n 3, 1) (nT 148 (.iconst 1, 1) nE nE) (nT 150 (.ishl, 1) nE nE)) (nT 155 (.ior, 1) (nT 154 (.iconst 0, 1) nE nE) nE)) (nT 163 (.aload_n 0, 1) (nT 160 (.goto (-131), 3) (nT 157 (.iinc 3 1, 3) nE nE) nE) (nT 167 (.iload_n 1, 1) (nT 164 (.getfield 38, 3) nE nE) nE))) (nT 180 (.getfield 53, 3) (nT 175 (.iconst 0, 1) (nT 172 (.getfield 38, 3) (nT 171 (.aload_n 0, 1) nE nE) nE) (nT 179 (.aload_n 0, 1) (nT 176 (.putfield 151, 3) nE nE) nE)) (nT 187 (.invokevirtual 199, 3) (nT 184 (.getfield 38, 3) (nT 183 (.aload_n 0, 1) nE nE) nE) (nT 191 (.ireturn, 1) (nT 190 (.iload_n 2, 1) nE nE) nE))))))
def i_X0_keep : Nat → Option (Instr × Nat) := (nT 27 (.getfield 20, 3) (nT 14 (.iconst 1, 1) (nT 6 (.if_icmp .lt 19, 3) (nT 1 (.getfield 20, 3) (nT 0 (.aload_n 0, 1) nE nE) (nT 4 (.bipush 40, 2) nE nE)) (nT 10 (.aload_n 0, 1) (nT 9 (.aload_n 0, 1) nE nE) (nT 11 (.getfield 16, 3) nE nE))) (nT 19 (.putfield 16, 3) (nT 16 (.bipush 41, 2) (nT 15 (.iadd, 1) nE nE) (nT 18 (.irem, 1) nE nE)) (nT 25 (.aload_n 0, 1) (nT 22 (.goto 13, 3) nE nE) (nT 26 (.dup, 1) nE nE)))) (nT 43 (.aload_n 0, 1) (nT 35 (.aload_n 0, 1) (nT 31 (.iadd, 1) (nT 30 (.iconst 1, 1) nE nE) (nT 32 (.putfield 20, 3) nE nE)) (nT 37 (.getfield 20, 3) (nT 36 (.aload_n 0, 1) nE nE) (nT 40 (.putfield 23, 3) nE nE))) (nT 51 (.aload_n 1, 1) (nT 45 (.getfield 20, 3) (nT 44 (.aload_n 0, 1) nE nE) (nT 48 (.invokevirtual 26, 3) nE nE)) (nT 55 (.return_, 1) (nT 52 (.invokevirtual 30, 3) nE nE) nE))))
def i_X6_put : Nat → Option (Instr × Nat) := (nT 13 (.bipush 6, 2) (nT 5 (.ifCond .eq 15, 3) (nT 1 (.iload_n 2, 1) (nT 0 (.iload_n 1, 1) nE nE) (nT 2 (.invokestatic 15, 3) nE nE)) (nT 9 (.getfield 11, 3) (nT 8 (.aload_n 0, 1) nE nE) (nT 12 (.iload_n 1, 1) nE nE))) (nT 18 (.iload_n 3, 1) (nT 16 (.iload_n 2, 1) (nT 15 (.imul, 1) nE nE) (nT 17 (.iadd, 1) nE nE)) (nT 20 (.return_, 1) (nT 19 (.iastore, 1) nE nE) nE)))
def i_X10_putBack : Nat → Option (Instr × Nat) := (nT 23 (.aload_n 0, 1) (nT 11 (.iload_n 2, 1) (nT 3 (.aload_n 0, 1) (nT 1 (.iload_n 2, 1) (nT 0 (.aload_n 1, 1) nE nE) (nT 2 (.iconst 0, 1) nE nE)) (nT 7 (.invokevirtual 41, 3) (nT 4 (.getfield 21, 3) nE nE) (nT 10 (.aload_n 1, 1) nE nE))) (nT 17 (.invokevirtual 41, 3) (nT 13 (.aload_n 0, 1) (nT 12 (.iconst 1, 1) nE nE) (nT 14 (.getfield 25, 3) nE nE)) (nT 21 (.iload_n 2, 1) (nT 20 (.aload_n 1, 1) nE nE) (nT 22 (.iconst 2, 1) nE nE)))) (nT 37 (.invokevirtual 41, 3) (nT 31 (.iload_n 2, 1) (nT 27 (.invokevirtual 41, 3) (nT 24 (.getfield 28, 3) nE nE) (nT 30 (.aload_n 1, 1) nE nE)) (nT 33 (.aload_n 0, 1) (nT 32 (.iconst 3, 1) nE nE) (nT 34 (.getfield 31, 3) nE nE))) (nT 43 (.aload_n 0, 1) (nT 41 (.iload_n 2, 1) (nT 40 (.aload_n 1, 1) nE nE) (nT 42 (.iconst 4, 1) nE nE)) (nT 47 (.invokevirtual 41, 3) (nT 44 (.getfield 34, 3) nE nE) (nT 50 (.return_, 1) nE nE)))))
def i_X12_join : Nat → Option (Instr × Nat) := (nT 16 (.iload_n 1, 1) (nT 9 (.iconst (-1), 1) (nT 2 (.iload_n 2, 1) (nT 1 (.iload_n 1, 1) (nT 0 (.aload_n 0, 1) nE nE) nE) (nT 6 (.ifCond .ne 5, 3) (nT 3 (.invokevirtual 437, 3) nE nE) nE)) (nT 12 (.invokevirtual 428, 3) (nT 11 (.aload_n 0, 1) (nT 10 (.ireturn, 1) nE nE) nE) (nT 15 (.aload_n 0, 1) nE nE))) (nT 25 (.iconst 0, 1) (nT 21 (.aload_n 0, 1) (nT 18 (.invokevirtual 440, 3) (nT 17 (.iload_n 2, 1) nE nE) nE) (nT 22 (.getfield 89, 3) nE nE)) (nT 28 (.iaload, 1) (nT 27 (.iadd, 1) (nT 26 (.iload_n 1, 1) nE nE) nE) (nT 29 (.ireturn, 1) nE nE))))
def i_X11_join : Nat → Option (Instr × Nat) := (nT 38 (.aload_n 0, 1) (nT 18 (.aload_n 0, 1) (nT 9 (.ifCond .ne 5, 3) (nT 4 (.iload_n 1, 1) (nT 1 (.getfield 71, 3) (nT 0 (.aload_n 0, 1) nE nE) nE) (nT 6 (.invokevirtual 212, 3) (nT 5 (.iload_n 2, 1) nE nE) nE)) (nT 14 (.aload_n 0, 1) (nT 13 (.ireturn, 1) (nT 12 (.iconst (-1), 1) nE nE) nE) (nT 15 (.getfield 62, 3) nE nE))) (nT 27 (.getfield 62, 3) (nT 23 (.invokevirtual 189, 3) (nT 22 (.iload_n 1, 1) (nT 19 (.getfield 38, 3) nE nE) nE) (nT 26 (.aload_n 0, 1) nE nE)) (nT 34 (.iload_n 2, 1) (nT 31 (.getfield 38, 3) (nT 30 (.aload_n 0, 1) nE nE) nE) (nT 35 (.invokevirtual 215, 3) nE nE)))) (nT 59 (.getfield 53, 3) (nT 50 (.aload_n 0, 1) (nT 43 (.getfield 38, 3) (nT 42 (.aload_n 0, 1) (nT 39 (.getfield 62, 3) nE nE) nE) (nT 47 (.invokevirtual 196, 3) (nT 46 (.iload_n 1, 1) nE nE) nE)) (nT 55 (.invokevirtual 218, 3) (nT 54 (.iload_n 2, 1) (nT 51 (.getfield 38, 3) nE nE) nE) (nT 58 (.aload_n 0, 1) nE nE))) (nT 70 (.getfield 38, 3) (nT 66 (.invokevirtual 199, 3) (nT 63 (.getfield 38, 3) (nT 62 (.aload_n 0, 1) nE nE) nE) (nT 69 (.aload_n 0, 1) nE nE)) (nT 75 (.invokevirtual 163, 3) (nT 74 (.iconst 0, 1) (nT 73 (.iload_n 1, 1) nE nE) nE) (nT 78 (.ireturn, 1) nE nE)))))
def i_X6_empty : Nat → Option (Instr × Nat) := (nT 14 (.aload_n 0, 1) (nT 7 (.aload_n 0, 1) (nT 2 (.iconst 0, 1) (nT 1 (.iload_n 1, 1) (nT 0 (.aload_n 0, 1) nE nE) nE) (nT 4 (.invokevirtual 23, 3) (nT 3 (.iconst 0, 1) nE nE) nE)) (nT 10 (.iconst 0, 1) (nT 9 (.iconst 1, 1) (nT 8 (.iload_n 1, 1) nE nE) nE) (nT 11 (.invokevirtual 23, 3) nE nE))) (nT 22 (.iload_n 1, 1) (nT 17 (.iconst 0, 1) (nT 16 (.iconst 2, 1) (nT 15 (.iload_n 1, 1) nE nE) nE) (nT 21 (.aload_n 0, 1) (nT 18 (.invokevirtual 23, 3) nE nE) nE)) (nT 25 (.invokevirtual 23, 3) (nT 24 (.iconst 0, 1) (nT 23 (.iconst 4, 1) nE nE) nE) (nT 28 (.return_, 1) nE nE))))
def i_X12_shelve : Nat → Option (Instr × Nat) := (nT 32 (.ireturn, 1) (nT 18 (.aload_n 0, 1) (nT 8 (.iload_n 2, 1) (nT 2 (.invokevirtual 398, 3) (nT 1 (.iload_n 1, 1) (nT 0 (.aload_n 0, 1) nE nE) nE) (nT 5 (.ifCond .eq 26, 3) nE nE)) (nT 12 (.invokestatic 350, 3) (nT 10 (.bipush 9, 2) (nT 9 (.iconst 0, 1) nE nE) nE) (nT 15 (.ifCond .eq 16, 3) nE nE))) (nT 26 (.iaload, 1) (nT 24 (.iload_n 1, 1) (nT 22 (.bipush 15, 2) (nT 19 (.getfield 89, 3) nE nE) nE) (nT 25 (.iadd, 1) nE nE)) (nT 28 (.if_icmp .ne 5, 3) (nT 27 (.iload_n 2, 1) nE nE) (nT 31 (.iconst (-1), 1) nE nE)))) (nT 47 (.aload_n 0, 1) (nT 41 (.bipush 15, 2) (nT 37 (.aload_n 0, 1) (nT 34 (.invokevirtual 428, 3) (nT 33 (.aload_n 0, 1) nE nE) nE) (nT 38 (.getfield 89, 3) nE nE)) (nT 45 (.iaload, 1) (nT 44 (.iadd, 1) (nT 43 (.iload_n 1, 1) nE nE) nE) (nT 46 (.istore_n 3, 1) nE nE))) (nT 55 (.iload_n 2, 1) (nT 53 (.iload_n 1, 1) (nT 51 (.bipush 15, 2) (nT 48 (.getfield 89, 3) nE nE) nE) (nT 54 (.iadd, 1) nE nE)) (nT 57 (.iload_n 3, 1) (nT 56 (.iastore, 1) nE nE) (nT 58 (.ireturn, 1) nE nE)))))
def i_X11_shelve : Nat → Option (Instr × Nat) := (nT 32 (.iload_n 3, 1) (nT 14 (.iload_n 1, 1) (nT 6 (.invokevirtual 163, 3) (nT 4 (.iload_n 1, 1) (nT 1 (.getfield 38, 3) (nT 0 (.aload_n 0, 1) nE nE) nE) (nT 5 (.iconst 3, 1) nE nE)) (nT 10 (.aload_n 0, 1) (nT 9 (.istore_n 3, 1) nE nE) (nT 11 (.getfield 71, 3) nE nE))) (nT 25 (.iload_n 2, 1) (nT 21 (.iload_n 2, 1) (nT 18 (.ifCond .eq 18, 3) (nT 15 (.invokevirtual 202, 3) nE nE) nE) (nT 22 (.ifCond .lt 14, 3) nE nE)) (nT 28 (.if_icmp .gt 8, 3) (nT 26 (.bipush 9, 2) nE nE) (nT 31 (.iload_n 2, 1) nE nE)))) (nT 45 (.invokevirtual 208, 3) (nT 39 (.getfield 38, 3) (nT 37 (.ireturn, 1) (nT 36 (.iconst (-1), 1) (nT 33 (.if_icmp .ne 5, 3) nE nE) nE) (nT 38 (.aload_n 0, 1) nE nE)) (nT 43 (.iconst 3, 1) (nT 42 (.iload_n 1, 1) nE nE) (nT 44 (.iload_n 2, 1) nE nE))) (nT 53 (.getfield 38, 3) (nT 49 (.getfield 53, 3) (nT 48 (.aload_n 0, 1) nE nE) (nT 52 (.aload_n 0, 1) nE nE)) (nT 59 (.iload_n 3, 1) (nT 56 (.invokevirtual 199, 3) nE nE) (nT 60 (.ireturn, 1) nE nE)))))
def i_X12_shake : Nat → Option (Instr × Nat) := (nT 22 (.dup2, 1) (nT 10 (.aload_n 0, 1) (nT 5 (.ifCond .ne 5, 3) (nT 1 (.iload_n 1, 1) (nT 0 (.aload_n 0, 1) nE nE) (nT 2 (.invokevirtual 434, 3) nE nE)) (nT 9 (.ireturn, 1) (nT 8 (.iconst (-1), 1) nE nE) nE)) (nT 18 (.bipush 20, 2) (nT 14 (.aload_n 0, 1) (nT 11 (.invokevirtual 428, 3) nE nE) (nT 15 (.getfield 89, 3) nE nE)) (nT 21 (.iadd, 1) (nT 20 (.iload_n 1, 1) nE nE) nE))) (nT 31 (.bipush 20, 2) (nT 26 (.iastore, 1) (nT 24 (.iconst 1, 1) (nT 23 (.iaload, 1) nE nE) (nT 25 (.iadd, 1) nE nE)) (nT 28 (.getfield 89, 3) (nT 27 (.aload_n 0, 1) nE nE) nE)) (nT 36 (.iconst 1, 1) (nT 34 (.iadd, 1) (nT 33 (.iload_n 1, 1) nE nE) (nT 35 (.iaload, 1) nE nE)) (nT 38 (.ireturn, 1) (nT 37 (.isub, 1) nE nE) nE))))
def i_X11_shake : Nat → Option (Instr × Nat) := (nT 35 (.if_icmp .lt 5, 3) (nT 15 (.invokevirtual 202, 3) (nT 6 (.invokevirtual 163, 3) (nT 4 (.iload_n 1, 1) (nT 1 (.getfield 38, 3) (nT 0 (.aload_n 0, 1) nE nE) nE) (nT 5 (.iconst 4, 1) nE nE)) (nT 11 (.getfield 71, 3) (nT 10 (.aload_n 0, 1) (nT 9 (.istore_n 2, 1) nE nE) nE) (nT 14 (.iload_n 1, 1) nE nE))) (nT 26 (.invokevirtual 205, 3) (nT 22 (.getfield 38, 3) (nT 21 (.aload_n 0, 1) (nT 18 (.ifCond .eq 20, 3) nE nE) nE) (nT 25 (.iload_n 1, 1) nE nE)) (nT 32 (.iload_n 2, 1) (nT 29 (.ifCond .ne 9, 3) nE nE) (nT 33 (.bipush 99, 2) nE nE)))) (nT 48 (.iadd, 1) (nT 44 (.iload_n 1, 1) (nT 40 (.aload_n 0, 1) (nT 39 (.ireturn, 1) (nT 38 (.iconst (-1), 1) nE nE) nE) (nT 41 (.getfield 38, 3) nE nE)) (nT 46 (.iload_n 2, 1) (nT 45 (.iconst 4, 1) nE nE) (nT 47 (.iconst 1, 1) nE nE))) (nT 57 (.getfield 38, 3) (nT 53 (.getfield 53, 3) (nT 52 (.aload_n 0, 1) (nT 49 (.invokevirtual 208, 3) nE nE) nE) (nT 56 (.aload_n 0, 1) nE nE)) (nT 63 (.iload_n 2, 1) (nT 60 (.invokevirtual 199, 3) nE nE) (nT 64 (.ireturn, 1) nE nE)))))
def i_X12_vote : Nat → Option (Instr × Nat) := (nT 72 (.if_icmp .lt 54, 3) (nT 34 (.sipush 137, 3) (nT 19 (.bipush 30, 2) (nT 9 (.iconst (-1), 1) (nT 2 (.iload_n 2, 1) (nT 1 (.iload_n 1, 1) (nT 0 (.aload_n 0, 1) nE nE) nE) (nT 6 (.ifCond .ne 5, 3) (nT 3 (.invokevirtual 413, 3) nE nE) nE)) (nT 12 (.invokevirtual 428, 3) (nT 11 (.aload_n 0, 1) (nT 10 (.ireturn, 1) nE nE) nE) (nT 16 (.getfield 89, 3) (nT 15 (.aload_n 0, 1) nE nE) nE))) (nT 26 (.ior, 1) (nT 23 (.iconst 1, 1) (nT 22 (.iaload, 1) (nT 21 (.dup2, 1) nE nE) nE) (nT 25 (.ishl, 1) (nT 24 (.iload_n 1, 1) nE nE) nE)) (nT 29 (.getfield 89, 3) (nT 28 (.aload_n 0, 1) (nT 27 (.iastore, 1) nE nE) nE) (nT 32 (.bipush 32, 2) nE nE)))) (nT 53 (.aload_n 0, 1) (nT 45 (.bipush 71, 2) (nT 41 (.bipush 32, 2) (nT 38 (.getfield 89, 3) (nT 37 (.aload_n 0, 1) nE nE) nE) (nT 44 (.imul, 1) (nT 43 (.iaload, 1) nE nE) nE)) (nT 51 (.irem, 1) (nT 48 (.sipush 1000, 3) (nT 47 (.iadd, 1) nE nE) nE) (nT 52 (.iastore, 1) nE nE))) (nT 63 (.aload_n 0, 1) (nT 59 (.iaload, 1) (nT 57 (.bipush 32, 2) (nT 54 (.getfield 89, 3) nE nE) nE) (nT 62 (.irem, 1) (nT 60 (.bipush 100, 2) nE nE) nE)) (nT 68 (.getfield 251, 3) (nT 67 (.aload_n 0, 1) (nT 64 (.getfield 30, 3) nE nE) nE) (nT 71 (.iaload, 1) nE nE))))) (nT 104 (.iload_n 2, 1) (nT 87 (.ior, 1) (nT 82 (.dup2, 1) (nT 79 (.iconst 5, 1) (nT 76 (.getfield 89, 3) (nT 75 (.aload_n 0, 1) nE nE) nE) (nT 81 (.iadd, 1) (nT 80 (.iload_n 2, 1) nE nE) nE)) (nT 85 (.iload_n 1, 1) (nT 84 (.iconst 1, 1) (nT 83 (.iaload, 1) nE nE) nE) (nT 86 (.ishl, 1) nE nE))) (nT 95 (.iadd, 1) (nT 90 (.getfield 89, 3) (nT 89 (.aload_n 0, 1) (nT 88 (.iastore, 1) nE nE) nE) (nT 94 (.iload_n 2, 1) (nT 93 (.iconst 0, 1) nE nE) nE)) (nT 100 (.getfield 89, 3) (nT 99 (.aload_n 0, 1) (nT 96 (.sipush 999, 3) nE nE) nE) (nT 103 (.iconst 0, 1) nE nE)))) (nT 120 (.iaload, 1) (nT 113 (.aload_n 0, 1) (nT 107 (.aload_n 0, 1) (nT 106 (.iaload, 1) (nT 105 (.iadd, 1) nE nE) nE) (nT 111 (.bipush 6, 2) (nT 108 (.getfield 36, 3) nE nE) nE)) (nT 118 (.iload_n 1, 1) (nT 117 (.imul, 1) (nT 114 (.getfield 251, 3) nE nE) nE) (nT 119 (.iadd, 1) nE nE))) (nT 130 (.iconst 0, 1) (nT 125 (.iastore, 1) (nT 122 (.invokestatic 377, 3) (nT 121 (.iadd, 1) nE nE) nE) (nT 127 (.getfield 89, 3) (nT 126 (.aload_n 0, 1) nE nE) nE)) (nT 133 (.iaload, 1) (nT 132 (.iadd, 1) (nT 131 (.iload_n 2, 1) nE nE) nE) (nT 134 (.ireturn, 1) nE nE))))))
def i_X11_vote : Nat → Option (Instr × Nat) := (nT 63 (.irem, 1) (nT 31 (.iadd, 1) (nT 14 (.aload_n 0, 1) (nT 6 (.invokevirtual 179, 3) (nT 4 (.iload_n 1, 1) (nT 1 (.getfield 71, 3) (nT 0 (.aload_n 0, 1) nE nE) nE) (nT 5 (.iload_n 2, 1) nE nE)) (nT 12 (.iconst (-1), 1) (nT 9 (.ifCond .ne 5, 3) nE nE) (nT 13 (.ireturn, 1) nE nE))) (nT 22 (.getfield 183, 3) (nT 18 (.aload_n 0, 1) (nT 15 (.getfield 38, 3) nE nE) (nT 19 (.getfield 38, 3) nE nE)) (nT 28 (.imul, 1) (nT 25 (.sipush 137, 3) nE nE) (nT 29 (.bipush 71, 2) nE nE)))) (nT 48 (.iload_n 1, 1) (nT 40 (.getfield 38, 3) (nT 36 (.putfield 183, 3) (nT 35 (.irem, 1) (nT 32 (.sipush 1000, 3) nE nE) nE) (nT 39 (.aload_n 0, 1) nE nE)) (nT 44 (.getfield 151, 3) (nT 43 (.dup, 1) nE nE) (nT 47 (.iconst 1, 1) nE nE))) (nT 54 (.aload_n 0, 1) (nT 50 (.ior, 1) (nT 49 (.ishl, 1) nE nE) (nT 51 (.putfield 151, 3) nE nE)) (nT 58 (.getfield 183, 3) (nT 55 (.getfield 38, 3) nE nE) (nT 61 (.bipush 100, 2) nE nE))))) (nT 96 (.aload_n 0, 1) (nT 82 (.iload_n 2, 1) (nT 74 (.aload_n 0, 1) (nT 68 (.getfield 186, 3) (nT 65 (.getfield 19, 3) (nT 64 (.aload_n 0, 1) nE nE) nE) (nT 71 (.if_icmp .lt 37, 3) nE nE)) (nT 78 (.aload_n 0, 1) (nT 75 (.getfield 62, 3) nE nE) (nT 79 (.getfield 38, 3) nE nE))) (nT 90 (.iconst 1, 1) (nT 86 (.aload_n 0, 1) (nT 83 (.invokevirtual 189, 3) nE nE) (nT 87 (.getfield 62, 3) nE nE)) (nT 92 (.ishl, 1) (nT 91 (.iload_n 1, 1) nE nE) (nT 93 (.invokevirtual 193, 3) nE nE)))) (nT 113 (.getfield 38, 3) (nT 105 (.invokevirtual 196, 3) (nT 101 (.getfield 38, 3) (nT 100 (.aload_n 0, 1) (nT 97 (.getfield 62, 3) nE nE) nE) (nT 104 (.iload_n 2, 1) nE nE)) (nT 109 (.getfield 53, 3) (nT 108 (.aload_n 0, 1) nE nE) (nT 112 (.aload_n 0, 1) nE nE))) (nT 123 (.iload_n 2, 1) (nT 119 (.aload_n 0, 1) (nT 116 (.invokevirtual 199, 3) nE nE) (nT 120 (.getfield 38, 3) nE nE)) (nT 125 (.invokevirtual 163, 3) (nT 124 (.iconst 0, 1) nE nE) (nT 128 (.ireturn, 1) nE nE))))))
def i_X1_mayVote : Nat → Option (Instr × Nat) := (nT 16 (.iload_n 1, 1) (nT 8 (.ifCond .eq 19, 3) (nT 4 (.iload_n 1, 1) (nT 1 (.getfield 9, 3) (nT 0 (.aload_n 0, 1) nE nE) nE) (nT 5 (.invokevirtual 35, 3) nE nE)) (nT 12 (.iload_n 2, 1) (nT 11 (.aload_n 0, 1) nE nE) (nT 13 (.invokevirtual 38, 3) nE nE))) (nT 23 (.iconst 1, 1) (nT 19 (.iand, 1) (nT 18 (.iconst 1, 1) (nT 17 (.ishr, 1) nE nE) nE) (nT 20 (.ifCond .eq 7, 3) nE nE)) (nT 27 (.iconst 0, 1) (nT 24 (.goto 4, 3) nE nE) (nT 28 (.ireturn, 1) nE nE))))
def i_X12_bill : Nat → Option (Instr × Nat) := (nT 113 (.iadd, 1) (nT 84 (.iaload, 1) (nT 72 (.iconst 0, 1) (nT 9 (.ireturn, 1) (nT 2 (.invokevirtual 354, 3) (nT 1 (.iload_n 1, 1) (nT 0 (.aload_n 0, 1) nE nE) nE) (nT 8 (.iconst (-1), 1) (nT 5 (.ifCond .ne 5, 3) nE nE) nE)) (nT 68 (.aload_n 0, 1) (nT 11 (.tableswitch 160 0 10 #[57, 66, 75, 85, 95, 105, 115, 121, 127, 140, 146], 57) (nT 10 (.iload_n 2, 1) nE nE) nE) (nT 69 (.getfield 89, 3) nE nE))) (nT 77 (.aload_n 0, 1) (nT 75 (.iaload, 1) (nT 74 (.iadd, 1) (nT 73 (.iload_n 1, 1) nE nE) nE) (nT 76 (.ireturn, 1) nE nE)) (nT 82 (.iload_n 1, 1) (nT 81 (.iconst 5, 1) (nT 78 (.getfield 89, 3) nE nE) nE) (nT 83 (.iadd, 1) nE nE)))) (nT 97 (.getfield 89, 3) (nT 92 (.iload_n 1, 1) (nT 87 (.getfield 89, 3) (nT 86 (.aload_n 0, 1) (nT 85 (.ireturn, 1) nE nE) nE) (nT 90 (.bipush 10, 2) nE nE)) (nT 95 (.ireturn, 1) (nT 94 (.iaload, 1) (nT 93 (.iadd, 1) nE nE) nE) (nT 96 (.aload_n 0, 1) nE nE))) (nT 105 (.ireturn, 1) (nT 103 (.iadd, 1) (nT 102 (.iload_n 1, 1) (nT 100 (.bipush 15, 2) nE nE) nE) (nT 104 (.iaload, 1) nE nE)) (nT 110 (.bipush 20, 2) (nT 107 (.getfield 89, 3) (nT 106 (.aload_n 0, 1) nE nE) nE) (nT 112 (.iload_n 1, 1) nE nE))))) (nT 143 (.iconst 5, 1) (nT 127 (.iload_n 1, 1) (nT 122 (.iload_n 1, 1) (nT 116 (.aload_n 0, 1) (nT 115 (.ireturn, 1) (nT 114 (.iaload, 1) nE nE) nE) (nT 120 (.bipush 25, 2) (nT 117 (.getfield 89, 3) nE nE) nE)) (nT 125 (.ireturn, 1) (nT 124 (.iaload, 1) (nT 123 (.iadd, 1) nE nE) nE) (nT 126 (.aload_n 0, 1) nE nE))) (nT 134 (.invokevirtual 386, 3) (nT 132 (.aload_n 0, 1) (nT 131 (.ireturn, 1) (nT 128 (.invokevirtual 404, 3) nE nE) nE) (nT 133 (.iload_n 1, 1) nE nE)) (nT 139 (.aload_n 0, 1) (nT 138 (.aload_n 0, 1) (nT 137 (.ireturn, 1) nE nE) nE) (nT 140 (.getfield 89, 3) nE nE)))) (nT 157 (.aload_n 0, 1) (nT 150 (.ireturn, 1) (nT 146 (.iaload, 1) (nT 145 (.iadd, 1) (nT 144 (.iload_n 1, 1) nE nE) nE) (nT 147 (.invokevirtual 328, 3) nE nE)) (nT 153 (.invokevirtual 422, 3) (nT 152 (.iload_n 1, 1) (nT 151 (.aload_n 0, 1) nE nE) nE) (nT 156 (.ireturn, 1) nE nE))) (nT 166 (.goto 4, 3) (nT 162 (.ifCond .eq 7, 3) (nT 159 (.invokevirtual 425, 3) (nT 158 (.iload_n 1, 1) nE nE) nE) (nT 165 (.iconst 1, 1) nE nE)) (nT 171 (.iconst (-1), 1) (nT 170 (.ireturn, 1) (nT 169 (.iconst 0, 1) nE nE) nE) (nT 172 (.ireturn, 1) nE nE))))))
def i_X12_fadesNow : Nat → Option (Instr × Nat) := (nT 10 (.aload_n 0, 1) (nT 5 (.ifCond .ne 5, 3) (nT 1 (.iload_n 1, 1) (nT 0 (.aload_n 0, 1) nE nE) (nT 2 (.invokevirtual 398, 3) nE nE)) (nT 9 (.ireturn, 1) (nT 8 (.iconst 0, 1) nE nE) nE)) (nT 15 (.aload_n 0, 1) (nT 12 (.invokevirtual 392, 3) (nT 11 (.iload_n 1, 1) nE nE) nE) (nT 19 (.ireturn, 1) (nT 16 (.invokevirtual 383, 3) nE nE) nE)))
def i_X11_bill : Nat → Option (Instr × Nat) := (nT 81 (.iload_n 1, 1) (nT 24 (.getfield 38, 3) (nT 12 (.ireturn, 1) (nT 5 (.invokevirtual 160, 3) (nT 1 (.getfield 19, 3) (nT 0 (.aload_n 0, 1) nE nE) (nT 4 (.iload_n 1, 1) nE nE)) (nT 11 (.iconst (-1), 1) (nT 8 (.ifCond .ne 5, 3) nE nE) nE)) (nT 18 (.bipush 6, 2) (nT 14 (.ifCond .lt 19, 3) (nT 13 (.iload_n 2, 1) nE nE) (nT 17 (.iload_n 2, 1) nE nE)) (nT 23 (.aload_n 0, 1) (nT 20 (.if_icmp .ge 13, 3) nE nE) nE))) (nT 68 (.aload_n 0, 1) (nT 32 (.ireturn, 1) (nT 28 (.iload_n 2, 1) (nT 27 (.iload_n 1, 1) nE nE) (nT 29 (.invokevirtual 163, 3) nE nE)) (nT 34 (.tableswitch 95 6 10 #[34, 43, 52, 69, 78], 34) (nT 33 (.iload_n 2, 1) nE nE) nE)) (nT 76 (.ireturn, 1) (nT 72 (.iload_n 1, 1) (nT 69 (.getfield 19, 3) nE nE) (nT 73 (.invokevirtual 167, 3) nE nE)) (nT 78 (.getfield 19, 3) (nT 77 (.aload_n 0, 1) nE nE) nE)))) (nT 107 (.iload_n 1, 1) (nT 94 (.iload_n 1, 1) (nT 87 (.getfield 19, 3) (nT 85 (.ireturn, 1) (nT 82 (.invokevirtual 170, 3) nE nE) (nT 86 (.aload_n 0, 1) nE nE)) (nT 91 (.getfield 38, 3) (nT 90 (.aload_n 0, 1) nE nE) nE)) (nT 102 (.ireturn, 1) (nT 96 (.invokevirtual 163, 3) (nT 95 (.iconst 1, 1) nE nE) (nT 99 (.invokevirtual 148, 3) nE nE)) (nT 104 (.getfield 71, 3) (nT 103 (.aload_n 0, 1) nE nE) nE))) (nT 120 (.ifCond .eq 7, 3) (nT 113 (.getfield 71, 3) (nT 111 (.ireturn, 1) (nT 108 (.invokevirtual 173, 3) nE nE) (nT 112 (.aload_n 0, 1) nE nE)) (nT 117 (.invokevirtual 176, 3) (nT 116 (.iload_n 1, 1) nE nE) nE)) (nT 128 (.ireturn, 1) (nT 124 (.goto 4, 3) (nT 123 (.iconst 1, 1) nE nE) (nT 127 (.iconst 0, 1) nE nE)) (nT 130 (.ireturn, 1) (nT 129 (.iconst (-1), 1) nE nE) nE)))))
def i_X1_fadingNow : Nat → Option (Instr × Nat) := (nT 14 (.invokevirtual 46, 3) (nT 8 (.iload_n 1, 1) (nT 4 (.aload_n 0, 1) (nT 1 (.getfield 19, 3) (nT 0 (.aload_n 0, 1) nE nE) nE) (nT 5 (.getfield 15, 3) nE nE)) (nT 12 (.aload_n 0, 1) (nT 9 (.invokevirtual 68, 3) nE nE) (nT 13 (.iload_n 1, 1) nE nE))) (nT 24 (.invokevirtual 74, 3) (nT 20 (.aload_n 0, 1) (nT 17 (.ifCond .eq 13, 3) nE nE) (nT 21 (.getfield 19, 3) nE nE)) (nT 30 (.iconst 0, 1) (nT 27 (.goto 4, 3) nE nE) (nT 31 (.ireturn, 1) nE nE))))
def i_X12_member : Nat → Option (Instr × Nat) := (nT 70 (.iload_n 1, 1) (nT 51 (.getfield 251, 3) (nT 10 (.iload_n 2, 1) (nT 5 (.ifCond .ne 5, 3) (nT 1 (.iload_n 1, 1) (nT 0 (.aload_n 0, 1) nE nE) (nT 2 (.invokevirtual 410, 3) nE nE)) (nT 9 (.ireturn, 1) (nT 8 (.iconst (-1), 1) nE nE) nE)) (nT 45 (.getfield 36, 3) (nT 44 (.aload_n 0, 1) (nT 11 (.tableswitch 95 0 4 #[33, 48, 63, 83, 89], 33) nE nE) nE) (nT 50 (.aload_n 0, 1) (nT 48 (.bipush 6, 2) nE nE) nE))) (nT 59 (.aload_n 0, 1) (nT 56 (.iadd, 1) (nT 55 (.iload_n 1, 1) (nT 54 (.imul, 1) nE nE) nE) (nT 58 (.ireturn, 1) (nT 57 (.iaload, 1) nE nE) nE)) (nT 65 (.aload_n 0, 1) (nT 63 (.bipush 6, 2) (nT 60 (.getfield 39, 3) nE nE) nE) (nT 69 (.imul, 1) (nT 66 (.getfield 251, 3) nE nE) nE)))) (nT 92 (.iconst 1, 1) (nT 80 (.iaload, 1) (nT 74 (.aload_n 0, 1) (nT 72 (.iaload, 1) (nT 71 (.iadd, 1) nE nE) (nT 73 (.ireturn, 1) nE nE)) (nT 78 (.bipush 30, 2) (nT 75 (.getfield 89, 3) nE nE) nE)) (nT 85 (.ifCond .eq 7, 3) (nT 82 (.invokestatic 357, 3) (nT 81 (.iload_n 1, 1) nE nE) nE) (nT 89 (.goto 4, 3) (nT 88 (.iconst 0, 1) nE nE) nE))) (nT 100 (.aload_n 0, 1) (nT 95 (.iload_n 1, 1) (nT 94 (.aload_n 0, 1) (nT 93 (.ireturn, 1) nE nE) nE) (nT 99 (.ireturn, 1) (nT 96 (.invokevirtual 416, 3) nE nE) nE)) (nT 105 (.ireturn, 1) (nT 102 (.invokevirtual 419, 3) (nT 101 (.iload_n 1, 1) nE nE) nE) (nT 107 (.ireturn, 1) (nT 106 (.iconst (-1), 1) nE nE) nE)))))
def i_X12_breathedInto : Nat → Option (Instr × Nat) := (nT 23 (.iadd, 1) (nT 9 (.aload_n 0, 1) (nT 3 (.istore_n 3, 1) (nT 1 (.istore_n 2, 1) (nT 0 (.iconst 0, 1) nE nE) (nT 2 (.iconst 0, 1) nE nE)) (nT 5 (.aload_n 0, 1) (nT 4 (.iload_n 3, 1) nE nE) (nT 6 (.getfield 24, 3) nE nE))) (nT 17 (.aload_n 0, 1) (nT 13 (.iaload, 1) (nT 10 (.getfield 251, 3) nE nE) (nT 14 (.if_icmp .ge 30, 3) nE nE)) (nT 21 (.iconst 5, 1) (nT 18 (.getfield 89, 3) nE nE) (nT 22 (.iload_n 3, 1) nE nE)))) (nT 35 (.ishl, 1) (nT 29 (.ifCond .eq 9, 3) (nT 25 (.iload_n 1, 1) (nT 24 (.iaload, 1) nE nE) (nT 26 (.invokestatic 357, 3) nE nE)) (nT 33 (.iconst 1, 1) (nT 32 (.iload_n 2, 1) nE nE) (nT 34 (.iload_n 3, 1) nE nE))) (nT 41 (.goto (-37), 3) (nT 37 (.istore_n 2, 1) (nT 36 (.ior, 1) nE nE) (nT 38 (.iinc 3 1, 3) nE nE)) (nT 45 (.ireturn, 1) (nT 44 (.iload_n 2, 1) nE nE) nE))))
def i_X12_mayVoteFor : Nat → Option (Instr × Nat) := (nT 19 (.iload_n 3, 1) (nT 6 (.getfield 24, 3) (nT 3 (.istore_n 3, 1) (nT 1 (.istore_n 2, 1) (nT 0 (.iconst 0, 1) nE nE) (nT 2 (.iconst 0, 1) nE nE)) (nT 5 (.aload_n 0, 1) (nT 4 (.iload_n 3, 1) nE nE) nE)) (nT 14 (.if_icmp .ge 24, 3) (nT 10 (.getfield 251, 3) (nT 9 (.aload_n 0, 1) nE nE) (nT 13 (.iaload, 1) nE nE)) (nT 18 (.iload_n 1, 1) (nT 17 (.aload_n 0, 1) nE nE) nE))) (nT 30 (.ior, 1) (nT 27 (.iconst 1, 1) (nT 23 (.ifCond .eq 9, 3) (nT 20 (.invokevirtual 413, 3) nE nE) (nT 26 (.iload_n 2, 1) nE nE)) (nT 29 (.ishl, 1) (nT 28 (.iload_n 3, 1) nE nE) nE)) (nT 35 (.goto (-31), 3) (nT 32 (.iinc 3 1, 3) (nT 31 (.istore_n 2, 1) nE nE) nE) (nT 39 (.ireturn, 1) (nT 38 (.iload_n 2, 1) nE nE) nE))))
def i_X11_member : Nat → Option (Instr × Nat) := (nT 69 (.ireturn, 1) (nT 52 (.iconst 1, 1) (nT 11 (.iconst (-1), 1) (nT 4 (.iload_n 1, 1) (nT 1 (.getfield 19, 3) (nT 0 (.aload_n 0, 1) nE nE) nE) (nT 8 (.ifCond .ne 5, 3) (nT 5 (.invokevirtual 141, 3) nE nE) nE)) (nT 14 (.tableswitch 88 0 4 #[34, 45, 56, 70, 79], 34) (nT 13 (.iload_n 2, 1) (nT 12 (.ireturn, 1) nE nE) nE) (nT 49 (.getfield 19, 3) (nT 48 (.aload_n 0, 1) nE nE) nE))) (nT 60 (.getfield 19, 3) (nT 55 (.invokevirtual 144, 3) (nT 54 (.ishl, 1) (nT 53 (.iload_n 1, 1) nE nE) nE) (nT 59 (.aload_n 0, 1) (nT 58 (.ireturn, 1) nE nE) nE)) (nT 65 (.ishl, 1) (nT 64 (.iload_n 1, 1) (nT 63 (.iconst 1, 1) nE nE) nE) (nT 66 (.invokevirtual 148, 3) nE nE)))) (nT 85 (.getfield 71, 3) (nT 79 (.ishr, 1) (nT 72 (.getfield 38, 3) (nT 71 (.aload_n 0, 1) (nT 70 (.iconst 1, 1) nE nE) nE) (nT 78 (.iload_n 1, 1) (nT 75 (.getfield 151, 3) nE nE) nE)) (nT 82 (.isub, 1) (nT 81 (.iand, 1) (nT 80 (.iconst 1, 1) nE nE) nE) (nT 84 (.aload_n 0, 1) (nT 83 (.ireturn, 1) nE nE) nE))) (nT 97 (.iload_n 1, 1) (nT 92 (.ireturn, 1) (nT 89 (.invokevirtual 154, 3) (nT 88 (.iload_n 1, 1) nE nE) nE) (nT 94 (.getfield 71, 3) (nT 93 (.aload_n 0, 1) nE nE) nE)) (nT 102 (.iconst (-1), 1) (nT 101 (.ireturn, 1) (nT 98 (.invokevirtual 157, 3) nE nE) nE) (nT 103 (.ireturn, 1) nE nE)))))
def i_X1_billsHolding : Nat → Option (Instr × Nat) := (nT 21 (.iconst 1, 1) (nT 6 (.getfield 9, 3) (nT 3 (.istore_n 3, 1) (nT 1 (.istore_n 2, 1) (nT 0 (.iconst 0, 1) nE nE) (nT 2 (.iconst 0, 1) nE nE)) (nT 5 (.aload_n 0, 1) (nT 4 (.iload_n 3, 1) nE nE) nE)) (nT 16 (.aload_n 0, 1) (nT 12 (.if_icmp .ge 27, 3) (nT 9 (.getfield 55, 3) nE nE) (nT 15 (.iload_n 2, 1) nE nE)) (nT 20 (.iload_n 3, 1) (nT 17 (.getfield 15, 3) nE nE) nE))) (nT 30 (.ishl, 1) (nT 27 (.iconst 1, 1) (nT 25 (.iload_n 1, 1) (nT 22 (.invokevirtual 31, 3) nE nE) (nT 26 (.ishr, 1) nE nE)) (nT 29 (.iload_n 3, 1) (nT 28 (.iand, 1) nE nE) nE)) (nT 36 (.goto (-32), 3) (nT 32 (.istore_n 2, 1) (nT 31 (.ior, 1) nE nE) (nT 33 (.iinc 3 1, 3) nE nE)) (nT 40 (.ireturn, 1) (nT 39 (.iload_n 2, 1) nE nE) nE))))
def i_X1_billsOpenTo : Nat → Option (Instr × Nat) := (nT 19 (.invokevirtual 58, 3) (nT 6 (.getfield 9, 3) (nT 3 (.istore_n 3, 1) (nT 1 (.istore_n 2, 1) (nT 0 (.iconst 0, 1) nE nE) (nT 2 (.iconst 0, 1) nE nE)) (nT 5 (.aload_n 0, 1) (nT 4 (.iload_n 3, 1) nE nE) nE)) (nT 16 (.aload_n 0, 1) (nT 12 (.if_icmp .ge 28, 3) (nT 9 (.getfield 55, 3) nE nE) (nT 15 (.iload_n 2, 1) nE nE)) (nT 18 (.iload_n 3, 1) (nT 17 (.iload_n 1, 1) nE nE) nE))) (nT 32 (.ior, 1) (nT 27 (.ishl, 1) (nT 25 (.iconst 1, 1) (nT 22 (.ifCond .eq 9, 3) nE nE) (nT 26 (.iload_n 3, 1) nE nE)) (nT 31 (.iconst 0, 1) (nT 28 (.goto 4, 3) nE nE) nE)) (nT 37 (.goto (-33), 3) (nT 34 (.iinc 3 1, 3) (nT 33 (.istore_n 2, 1) nE nE) nE) (nT 41 (.ireturn, 1) (nT 40 (.iload_n 2, 1) nE nE) nE))))
def i_X12_fault : Nat → Option (Instr × Nat) := (nT 12 (.iconst 1, 1) (nT 5 (.getfield 140, 3) (nT 1 (.ifCond .ne 10, 3) (nT 0 (.iload_n 1, 1) nE nE) (nT 4 (.aload_n 0, 1) nE nE)) (nT 11 (.iload_n 1, 1) (nT 8 (.goto 16, 3) nE nE) nE)) (nT 20 (.goto 4, 3) (nT 16 (.aload_n 0, 1) (nT 13 (.if_icmp .ne 10, 3) nE nE) (nT 17 (.getfield 16, 3) nE nE)) (nT 24 (.ireturn, 1) (nT 23 (.iconst (-1), 1) nE nE) nE)))
def i_X11_fault : Nat → Option (Instr × Nat) := (nT 36 (.aload_n 0, 1) (nT 29 (.getfield 31, 3) (nT 1 (.lookupswitch 43 #[(0, 27), (1, 35)], 27) (nT 0 (.iload_n 1, 1) nE nE) (nT 28 (.aload_n 0, 1) nE nE)) (nT 35 (.ireturn, 1) (nT 32 (.getfield 135, 3) nE nE) nE)) (nT 43 (.ireturn, 1) (nT 40 (.getfield 138, 3) (nT 37 (.getfield 31, 3) nE nE) nE) (nT 45 (.ireturn, 1) (nT 44 (.iconst (-1), 1) nE nE) nE)))
def i_X12_house : Nat → Option (Instr × Nat) := (nT 58 (.aload_n 0, 1) (nT 29 (.getfield 13, 3) (nT 12 (.getfield 248, 3) (nT 6 (.iconst (-1), 1) (nT 2 (.putfield 140, 3) (nT 1 (.iconst 0, 1) (nT 0 (.aload_n 0, 1) nE nE) nE) (nT 5 (.aload_n 0, 1) nE nE)) (nT 10 (.aload_n 0, 1) (nT 7 (.putfield 16, 3) nE nE) (nT 11 (.aload_n 0, 1) nE nE))) (nT 21 (.aload_n 0, 1) (nT 19 (.istore_n 1, 1) (nT 18 (.iconst 0, 1) (nT 15 (.putfield 137, 3) nE nE) nE) (nT 20 (.iload_n 1, 1) nE nE)) (nT 25 (.if_icmp .ge 21, 3) (nT 22 (.getfield 137, 3) nE nE) (nT 28 (.aload_n 0, 1) nE nE)))) (nT 46 (.aload_n 0, 1) (nT 38 (.baload, 1) (nT 34 (.getfield 7, 3) (nT 33 (.aload_n 0, 1) (nT 32 (.iload_n 1, 1) nE nE) nE) (nT 37 (.iload_n 1, 1) nE nE)) (nT 40 (.iinc 1 1, 3) (nT 39 (.bastore, 1) nE nE) (nT 43 (.goto (-23), 3) nE nE))) (nT 52 (.iconst 0, 1) (nT 48 (.putfield 248, 3) (nT 47 (.iconst 0, 1) nE nE) (nT 51 (.aload_n 0, 1) nE nE)) (nT 56 (.aload_n 0, 1) (nT 53 (.putfield 179, 3) nE nE) (nT 57 (.iconst 1, 1) nE nE))))) (nT 95 (.aload_n 0, 1) (nT 75 (.invokevirtual 217, 3) (nT 67 (.invokevirtual 131, 3) (nT 63 (.putfield 242, 3) (nT 62 (.isub, 1) (nT 59 (.getfield 251, 3) nE nE) nE) (nT 66 (.aload_n 0, 1) nE nE)) (nT 71 (.invokevirtual 221, 3) (nT 70 (.aload_n 0, 1) nE nE) (nT 74 (.aload_n 0, 1) nE nE))) (nT 85 (.ifCond .eq 10, 3) (nT 81 (.aload_n 0, 1) (nT 78 (.ifCond .eq 17, 3) nE nE) (nT 82 (.getfield 189, 3) nE nE)) (nT 89 (.invokevirtual 254, 3) (nT 88 (.aload_n 0, 1) nE nE) (nT 92 (.goto (-18), 3) nE nE)))) (nT 112 (.aload_n 0, 1) (nT 104 (.aload_n 0, 1) (nT 102 (.iconst (-1), 1) (nT 99 (.ifCond .ne 5, 3) (nT 96 (.invokevirtual 217, 3) nE nE) nE) (nT 103 (.ireturn, 1) nE nE)) (nT 106 (.getfield 242, 3) (nT 105 (.aload_n 0, 1) nE nE) (nT 109 (.putfield 251, 3) nE nE))) (nT 120 (.aload_n 0, 1) (nT 116 (.aload_n 0, 1) (nT 113 (.invokevirtual 134, 3) nE nE) (nT 117 (.getfield 20, 3) nE nE)) (nT 124 (.iaload, 1) (nT 121 (.getfield 251, 3) nE nE) (nT 125 (.ireturn, 1) nE nE))))))
def i_X12_startAnew : Nat → Option (Instr × Nat) := (nT 58 (.iinc 1 1, 3) (nT 29 (.getfield 251, 3) (nT 14 (.iastore, 1) (nT 5 (.if_icmp .ge 16, 3) (nT 2 (.iload_n 1, 1) (nT 1 (.istore_n 1, 1) (nT 0 (.iconst 0, 1) nE nE) nE) (nT 3 (.bipush 33, 2) nE nE)) (nT 12 (.iload_n 1, 1) (nT 9 (.getfield 89, 3) (nT 8 (.aload_n 0, 1) nE nE) nE) (nT 13 (.iconst 0, 1) nE nE))) (nT 23 (.iload_n 1, 1) (nT 21 (.iconst 0, 1) (nT 18 (.goto (-16), 3) (nT 15 (.iinc 1 1, 3) nE nE) nE) (nT 22 (.istore_n 1, 1) nE nE)) (nT 25 (.getfield 24, 3) (nT 24 (.aload_n 0, 1) nE nE) (nT 28 (.aload_n 0, 1) nE nE)))) (nT 45 (.getfield 48, 3) (nT 40 (.bipush 15, 2) (nT 36 (.aload_n 0, 1) (nT 33 (.if_icmp .ge 31, 3) (nT 32 (.iaload, 1) nE nE) nE) (nT 37 (.getfield 89, 3) nE nE)) (nT 43 (.iadd, 1) (nT 42 (.iload_n 1, 1) nE nE) (nT 44 (.aload_n 0, 1) nE nE))) (nT 54 (.iload_n 1, 1) (nT 50 (.getfield 251, 3) (nT 49 (.aload_n 0, 1) (nT 48 (.iconst 5, 1) nE nE) nE) (nT 53 (.imul, 1) nE nE)) (nT 56 (.iaload, 1) (nT 55 (.iadd, 1) nE nE) (nT 57 (.iastore, 1) nE nE))))) (nT 91 (.iconst 0, 1) (nT 78 (.iaload, 1) (nT 70 (.aload_n 0, 1) (nT 65 (.getfield 89, 3) (nT 64 (.aload_n 0, 1) (nT 61 (.goto (-38), 3) nE nE) nE) (nT 68 (.bipush 32, 2) nE nE)) (nT 74 (.aload_n 0, 1) (nT 71 (.getfield 33, 3) nE nE) (nT 75 (.getfield 251, 3) nE nE))) (nT 85 (.aload_n 0, 1) (nT 81 (.iconst 0, 1) (nT 80 (.aload_n 0, 1) (nT 79 (.iastore, 1) nE nE) nE) (nT 82 (.putfield 365, 3) nE nE)) (nT 87 (.putfield 368, 3) (nT 86 (.iconst 0, 1) nE nE) (nT 90 (.aload_n 0, 1) nE nE)))) (nT 104 (.if_icmp .ge 16, 3) (nT 100 (.iconst 0, 1) (nT 96 (.iconst 0, 1) (nT 95 (.aload_n 0, 1) (nT 92 (.putfield 371, 3) nE nE) nE) (nT 97 (.putfield 374, 3) nE nE)) (nT 102 (.iload_n 1, 1) (nT 101 (.istore_n 1, 1) nE nE) (nT 103 (.iconst 3, 1) nE nE))) (nT 113 (.bastore, 1) (nT 111 (.iload_n 1, 1) (nT 108 (.getfield 128, 3) (nT 107 (.aload_n 0, 1) nE nE) nE) (nT 112 (.iconst 0, 1) nE nE)) (nT 117 (.goto (-15), 3) (nT 114 (.iinc 1 1, 3) nE nE) (nT 120 (.return_, 1) nE nE))))))
end
section
def i_X12_isGood : Nat → Option (Instr × Nat) := (nT 7 (.iconst 1, 1) (nT 1 (.getfield 140, 3) (nT 0 (.aload_n 0, 1) nE nE) (nT 4 (.ifCond .ne 7, 3) nE nE)) (nT 11 (.iconst 0, 1) (nT 8 (.goto 4, 3) nE nE) (nT 12 (.ireturn, 1) nE nE)))
def i_X12_readLine : Nat → Option (Instr × Nat) := (nT 83 (.lload_n 1, 1) (nT 41 (.ifCond .ne 7, 3) (nT 20 (.aload_n 0, 1) (nT 9 (.iconst 3, 1) (nT 4 (.lstore_n 1, 1) (nT 1 (.getfield 196, 3) (nT 0 (.aload_n 0, 1) nE nE) nE) (nT 6 (.getfield 189, 3) (nT 5 (.aload_n 0, 1) nE nE) nE)) (nT 14 (.invokevirtual 257, 3) (nT 13 (.aload_n 0, 1) (nT 10 (.if_icmp .ne 10, 3) nE nE) nE) (nT 17 (.ifCond .eq 7, 3) nE nE))) (nT 32 (.aload_n 0, 1) (nT 25 (.invokevirtual 217, 3) (nT 24 (.aload_n 0, 1) (nT 21 (.invokevirtual 224, 3) nE nE) nE) (nT 31 (.return_, 1) (nT 28 (.ifCond .ne 4, 3) nE nE) nE)) (nT 37 (.ldc2_w 143, 3) (nT 36 (.lload_n 1, 1) (nT 33 (.invokevirtual 221, 3) nE nE) nE) (nT 40 (.lcmp, 1) nE nE)))) (nT 64 (.lcmp, 1) (nT 53 (.ifCond .ne 7, 3) (nT 48 (.lload_n 1, 1) (nT 45 (.invokevirtual 260, 3) (nT 44 (.aload_n 0, 1) nE nE) nE) (nT 52 (.lcmp, 1) (nT 49 (.ldc2_w 149, 3) nE nE) nE)) (nT 60 (.lload_n 1, 1) (nT 57 (.invokevirtual 263, 3) (nT 56 (.aload_n 0, 1) nE nE) nE) (nT 61 (.ldc2_w 157, 3) nE nE))) (nT 76 (.iconst 1, 1) (nT 69 (.getfield 57, 3) (nT 68 (.aload_n 0, 1) (nT 65 (.ifCond .ne 18, 3) nE nE) nE) (nT 73 (.getfield 242, 3) (nT 72 (.aload_n 0, 1) nE nE) nE)) (nT 79 (.iconst 0, 1) (nT 78 (.aload_n 0, 1) (nT 77 (.bastore, 1) nE nE) nE) (nT 80 (.invokevirtual 266, 3) nE nE))))) (nT 122 (.ifCond .ne 30, 3) (nT 102 (.getfield 30, 3) (nT 95 (.aload_n 0, 1) (nT 88 (.ifCond .ne 29, 3) (nT 87 (.lcmp, 1) (nT 84 (.ldc2_w 159, 3) nE nE) nE) (nT 92 (.getfield 61, 3) (nT 91 (.aload_n 0, 1) nE nE) nE)) (nT 100 (.bastore, 1) (nT 99 (.iconst 1, 1) (nT 96 (.getfield 242, 3) nE nE) nE) (nT 101 (.aload_n 0, 1) nE nE))) (nT 113 (.invokevirtual 234, 3) (nT 109 (.aload_n 0, 1) (nT 106 (.getfield 242, 3) (nT 105 (.aload_n 0, 1) nE nE) nE) (nT 111 (.bipush 100, 2) (nT 110 (.iconst 0, 1) nE nE) nE)) (nT 118 (.ldc2_w 161, 3) (nT 117 (.lload_n 1, 1) (nT 116 (.iastore, 1) nE nE) nE) (nT 121 (.lcmp, 1) nE nE)))) (nT 143 (.aload_n 0, 1) (nT 134 (.bastore, 1) (nT 129 (.aload_n 0, 1) (nT 126 (.getfield 64, 3) (nT 125 (.aload_n 0, 1) nE nE) nE) (nT 133 (.iconst 1, 1) (nT 130 (.getfield 242, 3) nE nE) nE)) (nT 139 (.aload_n 0, 1) (nT 136 (.getfield 33, 3) (nT 135 (.aload_n 0, 1) nE nE) nE) (nT 140 (.getfield 242, 3) nE nE))) (nT 153 (.aload_n 0, 1) (nT 148 (.invokevirtual 234, 3) (nT 145 (.sipush 999, 3) (nT 144 (.iconst 0, 1) nE nE) nE) (nT 152 (.aload_n 0, 1) (nT 151 (.iastore, 1) nE nE) nE)) (nT 159 (.invokevirtual 230, 3) (nT 156 (.invokevirtual 270, 3) (nT 154 (.bipush 59, 2) nE nE) nE) (nT 162 (.return_, 1) nE nE))))))
def i_X12_must : Nat → Option (Instr × Nat) := (nT 12 (.aload_n 0, 1) (nT 7 (.return_, 1) (nT 1 (.invokevirtual 217, 3) (nT 0 (.aload_n 0, 1) nE nE) (nT 4 (.ifCond .ne 4, 3) nE nE)) (nT 9 (.ifCond .eq 10, 3) (nT 8 (.iload_n 1, 1) nE nE) nE)) (nT 19 (.aload_n 0, 1) (nT 16 (.goto 7, 3) (nT 13 (.invokevirtual 221, 3) nE nE) nE) (nT 23 (.return_, 1) (nT 20 (.invokevirtual 224, 3) nE nE) nE)))
def i_X12_misplaced : Nat → Option (Instr × Nat) := (nT 10 (.goto 4, 3) (nT 5 (.iconst 1, 1) (nT 1 (.aload_n 0, 1) (nT 0 (.aload_n 0, 1) nE nE) (nT 2 (.getfield 189, 3) nE nE)) (nT 9 (.iconst 1, 1) (nT 6 (.if_icmp .ne 7, 3) nE nE) nE)) (nT 15 (.getfield 182, 3) (nT 14 (.aload_n 0, 1) (nT 13 (.iconst 2, 1) nE nE) nE) (nT 21 (.return_, 1) (nT 18 (.invokevirtual 213, 3) nE nE) nE)))
def i_X12_fails : Nat → Option (Instr × Nat) := (nT 9 (.iload_n 1, 1) (nT 4 (.ifCond .le 4, 3) (nT 1 (.getfield 140, 3) (nT 0 (.aload_n 0, 1) nE nE) nE) (nT 8 (.aload_n 0, 1) (nT 7 (.return_, 1) nE nE) nE)) (nT 14 (.iload_n 2, 1) (nT 13 (.aload_n 0, 1) (nT 10 (.putfield 140, 3) nE nE) nE) (nT 18 (.return_, 1) (nT 15 (.putfield 16, 3) nE nE) nE)))
def i_X12_goOn : Nat → Option (Instr × Nat) := (nT 185 (.invokevirtual 185, 3) (nT 93 (.aload_n 0, 1) (nT 47 (.getfield 182, 3) (nT 21 (.getfield 182, 3) (nT 9 (.getfield 182, 3) (nT 2 (.getfield 179, 3) (nT 1 (.aload_n 0, 1) (nT 0 (.aload_n 0, 1) nE nE) nE) (nT 8 (.aload_n 0, 1) (nT 5 (.putfield 182, 3) nE nE) nE)) (nT 16 (.if_icmp .ge 42, 3) (nT 13 (.getfield 137, 3) (nT 12 (.aload_n 0, 1) nE nE) nE) (nT 20 (.aload_n 0, 1) (nT 19 (.aload_n 0, 1) nE nE) nE))) (nT 34 (.getfield 182, 3) (nT 29 (.if_icmp .eq 16, 3) (nT 27 (.bipush 32, 2) (nT 24 (.invokevirtual 185, 3) nE nE) nE) (nT 33 (.aload_n 0, 1) (nT 32 (.aload_n 0, 1) nE nE) nE)) (nT 42 (.if_icmp .ne 16, 3) (nT 40 (.bipush 10, 2) (nT 37 (.invokevirtual 185, 3) nE nE) nE) (nT 46 (.dup, 1) (nT 45 (.aload_n 0, 1) nE nE) nE)))) (nT 69 (.getfield 182, 3) (nT 59 (.aload_n 0, 1) (nT 52 (.putfield 182, 3) (nT 51 (.iadd, 1) (nT 50 (.iconst 1, 1) nE nE) nE) (nT 58 (.aload_n 0, 1) (nT 55 (.goto (-47), 3) nE nE) nE)) (nT 66 (.istore_n 1, 1) (nT 63 (.invokevirtual 185, 3) (nT 60 (.getfield 182, 3) nE nE) nE) (nT 68 (.aload_n 0, 1) (nT 67 (.aload_n 0, 1) nE nE) nE))) (nT 81 (.aload_n 0, 1) (nT 74 (.putfield 179, 3) (nT 73 (.iadd, 1) (nT 72 (.iconst 1, 1) nE nE) nE) (nT 78 (.getfield 182, 3) (nT 77 (.aload_n 0, 1) nE nE) nE)) (nT 88 (.aload_n 0, 1) (nT 85 (.if_icmp .lt 27, 3) (nT 82 (.getfield 137, 3) nE nE) nE) (nT 90 (.putfield 189, 3) (nT 89 (.iconst 0, 1) nE nE) nE))))) (nT 143 (.goto (-24), 3) (nT 119 (.aload_n 0, 1) (nT 103 (.getfield 137, 3) (nT 98 (.putfield 182, 3) (nT 95 (.getfield 137, 3) (nT 94 (.aload_n 0, 1) nE nE) nE) (nT 102 (.aload_n 0, 1) (nT 101 (.aload_n 0, 1) nE nE) nE)) (nT 112 (.iload_n 1, 1) (nT 109 (.goto 268, 3) (nT 106 (.putfield 179, 3) nE nE) nE) (nT 116 (.ifCond .eq 123, 3) (nT 113 (.invokestatic 192, 3) nE nE) nE))) (nT 133 (.aload_n 0, 1) (nT 124 (.invokevirtual 185, 3) (nT 121 (.getfield 179, 3) (nT 120 (.aload_n 0, 1) nE nE) nE) (nT 130 (.ifCond .eq 16, 3) (nT 127 (.invokestatic 192, 3) nE nE) nE)) (nT 138 (.iconst 1, 1) (nT 135 (.getfield 179, 3) (nT 134 (.dup, 1) nE nE) nE) (nT 140 (.putfield 179, 3) (nT 139 (.iadd, 1) nE nE) nE)))) (nT 165 (.aload_n 0, 1) (nT 155 (.istore_n 2, 1) (nT 148 (.putfield 196, 3) (nT 147 (.lconst 0, 1) (nT 146 (.aload_n 0, 1) nE nE) nE) (nT 152 (.getfield 182, 3) (nT 151 (.aload_n 0, 1) nE nE) nE)) (nT 158 (.getfield 179, 3) (nT 157 (.aload_n 0, 1) (nT 156 (.iload_n 2, 1) nE nE) nE) (nT 164 (.iload_n 2, 1) (nT 161 (.if_icmp .ge 38, 3) nE nE) nE))) (nT 176 (.aload_n 0, 1) (nT 171 (.iadd, 1) (nT 169 (.bipush 8, 2) (nT 166 (.getfield 182, 3) nE nE) nE) (nT 175 (.aload_n 0, 1) (nT 172 (.if_icmp .ge 27, 3) nE nE) nE)) (nT 182 (.lshl, 1) (nT 180 (.bipush 8, 2) (nT 177 (.getfield 196, 3) nE nE) nE) (nT 184 (.iload_n 2, 1) (nT 183 (.aload_n 0, 1) nE nE) nE)))))) (nT 286 (.aload_n 0, 1) (nT 236 (.goto 141, 3) (nT 209 (.bipush 8, 2) (nT 199 (.aload_n 0, 1) (nT 190 (.putfield 196, 3) (nT 189 (.lor, 1) (nT 188 (.i2l, 1) nE nE) nE) (nT 196 (.goto (-40), 3) (nT 193 (.iinc 2 1, 3) nE nE) nE)) (nT 204 (.aload_n 0, 1) (nT 201 (.getfield 179, 3) (nT 200 (.aload_n 0, 1) nE nE) nE) (nT 208 (.isub, 1) (nT 205 (.getfield 182, 3) nE nE) nE))) (nT 222 (.invokestatic 200, 3) (nT 215 (.goto 18, 3) (nT 214 (.iconst 1, 1) (nT 211 (.if_icmp .le 7, 3) nE nE) nE) (nT 219 (.getfield 196, 3) (nT 218 (.aload_n 0, 1) nE nE) nE)) (nT 229 (.goto 4, 3) (nT 228 (.iconst 3, 1) (nT 225 (.ifCond .eq 7, 3) nE nE) nE) (nT 233 (.putfield 189, 3) (nT 232 (.iconst 2, 1) nE nE) nE)))) (nT 260 (.aload_n 0, 1) (nT 248 (.putfield 207, 3) (nT 243 (.ifCond .eq 118, 3) (nT 240 (.invokestatic 204, 3) (nT 239 (.iload_n 1, 1) nE nE) nE) (nT 247 (.iconst 0, 1) (nT 246 (.aload_n 0, 1) nE nE) nE)) (nT 253 (.getfield 182, 3) (nT 252 (.aload_n 0, 1) (nT 251 (.aload_n 0, 1) nE nE) nE) (nT 259 (.aload_n 0, 1) (nT 256 (.putfield 179, 3) nE nE) nE))) (nT 274 (.getfield 179, 3) (nT 267 (.invokestatic 204, 3) (nT 264 (.invokevirtual 185, 3) (nT 261 (.getfield 179, 3) nE nE) nE) (nT 273 (.aload_n 0, 1) (nT 270 (.ifCond .eq 52, 3) nE nE) nE)) (nT 281 (.isub, 1) (nT 278 (.getfield 182, 3) (nT 277 (.aload_n 0, 1) nE nE) nE) (nT 283 (.if_icmp .ge 26, 3) (nT 282 (.iconst 4, 1) nE nE) nE))))) (nT 328 (.getfield 182, 3) (nT 306 (.putfield 207, 3) (nT 295 (.aload_n 0, 1) (nT 290 (.getfield 207, 3) (nT 289 (.aload_n 0, 1) (nT 287 (.bipush 10, 2) nE nE) nE) (nT 294 (.aload_n 0, 1) (nT 293 (.imul, 1) nE nE) nE)) (nT 302 (.iadd, 1) (nT 299 (.invokevirtual 185, 3) (nT 296 (.getfield 179, 3) nE nE) nE) (nT 305 (.isub, 1) (nT 303 (.bipush 48, 2) nE nE) nE))) (nT 316 (.putfield 179, 3) (nT 311 (.getfield 179, 3) (nT 310 (.dup, 1) (nT 309 (.aload_n 0, 1) nE nE) nE) (nT 315 (.iadd, 1) (nT 314 (.iconst 1, 1) nE nE) nE)) (nT 323 (.aload_n 0, 1) (nT 322 (.aload_n 0, 1) (nT 319 (.goto (-60), 3) nE nE) nE) (nT 327 (.aload_n 0, 1) (nT 324 (.getfield 179, 3) nE nE) nE)))) (nT 354 (.iconst 4, 1) (nT 338 (.getfield 179, 3) (nT 333 (.if_icmp .gt 17, 3) (nT 332 (.iconst 4, 1) (nT 331 (.isub, 1) nE nE) nE) (nT 337 (.aload_n 0, 1) (nT 336 (.aload_n 0, 1) nE nE) nE)) (nT 347 (.ifCond .eq 7, 3) (nT 344 (.invokestatic 192, 3) (nT 341 (.invokevirtual 185, 3) nE nE) nE) (nT 351 (.goto 4, 3) (nT 350 (.iconst 1, 1) nE nE) nE))) (nT 366 (.ifCond .eq 7, 3) (nT 361 (.aload_n 0, 1) (nT 358 (.goto 19, 3) (nT 355 (.putfield 189, 3) nE nE) nE) (nT 363 (.invokestatic 210, 3) (nT 362 (.iload_n 1, 1) nE nE) nE)) (nT 373 (.iconst 1, 1) (nT 370 (.goto 4, 3) (nT 369 (.iconst 5, 1) nE nE) nE) (nT 377 (.return_, 1) (nT 374 (.putfield 189, 3) nE nE) nE)))))))
def i_X12_isSign : Nat → Option (Instr × Nat) := (nT 36 (.iload_n 0, 1) (nT 18 (.iload_n 0, 1) (nT 7 (.bipush 40, 2) (nT 3 (.if_icmp .eq 63, 3) (nT 1 (.bipush 59, 2) (nT 0 (.iload_n 0, 1) nE nE) nE) (nT 6 (.iload_n 0, 1) nE nE)) (nT 13 (.bipush 41, 2) (nT 12 (.iload_n 0, 1) (nT 9 (.if_icmp .eq 57, 3) nE nE) nE) (nT 15 (.if_icmp .eq 51, 3) nE nE))) (nT 27 (.if_icmp .eq 39, 3) (nT 24 (.iload_n 0, 1) (nT 21 (.if_icmp .eq 45, 3) (nT 19 (.bipush 60, 2) nE nE) nE) (nT 25 (.bipush 62, 2) nE nE)) (nT 31 (.bipush 61, 2) (nT 30 (.iload_n 0, 1) nE nE) (nT 33 (.if_icmp .eq 33, 3) nE nE)))) (nT 55 (.bipush 47, 2) (nT 45 (.if_icmp .eq 21, 3) (nT 42 (.iload_n 0, 1) (nT 39 (.if_icmp .eq 27, 3) (nT 37 (.bipush 43, 2) nE nE) nE) (nT 43 (.bipush 45, 2) nE nE)) (nT 51 (.if_icmp .eq 15, 3) (nT 49 (.bipush 42, 2) (nT 48 (.iload_n 0, 1) nE nE) nE) (nT 54 (.iload_n 0, 1) nE nE))) (nT 66 (.iconst 1, 1) (nT 61 (.bipush 37, 2) (nT 60 (.iload_n 0, 1) (nT 57 (.if_icmp .eq 9, 3) nE nE) nE) (nT 63 (.if_icmp .ne 7, 3) nE nE)) (nT 70 (.iconst 0, 1) (nT 67 (.goto 4, 3) nE nE) (nT 71 (.ireturn, 1) nE nE)))))
def i_X12_sign : Nat → Option (Instr × Nat) := (nT 12 (.iload_n 1, 1) (nT 5 (.if_icmp .ge 16, 3) (nT 1 (.aload_n 0, 1) (nT 0 (.iload_n 1, 1) nE nE) (nT 2 (.getfield 137, 3) nE nE)) (nT 9 (.getfield 13, 3) (nT 8 (.aload_n 0, 1) nE nE) nE)) (nT 18 (.goto 4, 3) (nT 14 (.sipush 255, 3) (nT 13 (.baload, 1) nE nE) (nT 17 (.iand, 1) nE nE)) (nT 22 (.ireturn, 1) (nT 21 (.iconst 0, 1) nE nE) nE)))
def i_X12_isDigit : Nat → Option (Instr × Nat) := (nT 9 (.if_icmp .gt 7, 3) (nT 3 (.if_icmp .lt 13, 3) (nT 1 (.bipush 48, 2) (nT 0 (.iload_n 0, 1) nE nE) nE) (nT 7 (.bipush 57, 2) (nT 6 (.iload_n 0, 1) nE nE) nE)) (nT 16 (.iconst 0, 1) (nT 13 (.goto 4, 3) (nT 12 (.iconst 1, 1) nE nE) nE) (nT 17 (.ireturn, 1) nE nE)))
def i_X12_isKept : Nat → Option (Instr × Nat) := (nT 79 (.ifCond .ne 75, 3) (nT 40 (.lload_n 0, 1) (nT 20 (.lcmp, 1) (nT 9 (.ldc2_w 145, 3) (nT 4 (.lcmp, 1) (nT 1 (.ldc2_w 143, 3) (nT 0 (.lload_n 0, 1) nE nE) nE) (nT 8 (.lload_n 0, 1) (nT 5 (.ifCond .eq 67, 3) nE nE) nE)) (nT 16 (.lload_n 0, 1) (nT 13 (.ifCond .eq 59, 3) (nT 12 (.lcmp, 1) nE nE) nE) (nT 17 (.ldc2_w 147, 3) nE nE))) (nT 29 (.ifCond .eq 43, 3) (nT 25 (.ldc2_w 149, 3) (nT 24 (.lload_n 0, 1) (nT 21 (.ifCond .eq 51, 3) nE nE) nE) (nT 28 (.lcmp, 1) nE nE)) (nT 36 (.lcmp, 1) (nT 33 (.ldc2_w 151, 3) (nT 32 (.lload_n 0, 1) nE nE) nE) (nT 37 (.ifCond .eq 35, 3) nE nE)))) (nT 61 (.ifCond .eq 11, 3) (nT 52 (.lcmp, 1) (nT 45 (.ifCond .eq 27, 3) (nT 44 (.lcmp, 1) (nT 41 (.ldc2_w 153, 3) nE nE) nE) (nT 49 (.ldc2_w 155, 3) (nT 48 (.lload_n 0, 1) nE nE) nE)) (nT 57 (.ldc2_w 157, 3) (nT 56 (.lload_n 0, 1) (nT 53 (.ifCond .eq 19, 3) nE nE) nE) (nT 60 (.lcmp, 1) nE nE))) (nT 72 (.iconst 1, 1) (nT 68 (.lcmp, 1) (nT 65 (.ldc2_w 159, 3) (nT 64 (.lload_n 0, 1) nE nE) nE) (nT 69 (.ifCond .ne 7, 3) nE nE)) (nT 77 (.istore_n 2, 1) (nT 76 (.iconst 0, 1) (nT 73 (.goto 4, 3) nE nE) nE) (nT 78 (.iload_n 2, 1) nE nE))))) (nT 122 (.lload_n 0, 1) (nT 102 (.lcmp, 1) (nT 91 (.ldc2_w 163, 3) (nT 86 (.lcmp, 1) (nT 83 (.ldc2_w 161, 3) (nT 82 (.lload_n 0, 1) nE nE) nE) (nT 90 (.lload_n 0, 1) (nT 87 (.ifCond .eq 67, 3) nE nE) nE)) (nT 98 (.lload_n 0, 1) (nT 95 (.ifCond .eq 59, 3) (nT 94 (.lcmp, 1) nE nE) nE) (nT 99 (.ldc2_w 165, 3) nE nE))) (nT 111 (.ifCond .eq 43, 3) (nT 107 (.ldc2_w 167, 3) (nT 106 (.lload_n 0, 1) (nT 103 (.ifCond .eq 51, 3) nE nE) nE) (nT 110 (.lcmp, 1) nE nE)) (nT 118 (.lcmp, 1) (nT 115 (.ldc2_w 169, 3) (nT 114 (.lload_n 0, 1) nE nE) nE) (nT 119 (.ifCond .eq 35, 3) nE nE)))) (nT 142 (.lcmp, 1) (nT 131 (.ldc2_w 173, 3) (nT 127 (.ifCond .eq 27, 3) (nT 126 (.lcmp, 1) (nT 123 (.ldc2_w 171, 3) nE nE) nE) (nT 130 (.lload_n 0, 1) nE nE)) (nT 138 (.lload_n 0, 1) (nT 135 (.ifCond .eq 19, 3) (nT 134 (.lcmp, 1) nE nE) nE) (nT 139 (.ldc2_w 175, 3) nE nE))) (nT 151 (.ifCond .ne 7, 3) (nT 147 (.ldc2_w 177, 3) (nT 146 (.lload_n 0, 1) (nT 143 (.ifCond .eq 11, 3) nE nE) nE) (nT 150 (.lcmp, 1) nE nE)) (nT 158 (.iconst 0, 1) (nT 155 (.goto 4, 3) (nT 154 (.iconst 1, 1) nE nE) nE) (nT 159 (.ireturn, 1) nE nE))))))
def i_X12_isSignHere : Nat → Option (Instr × Nat) := (nT 13 (.invokevirtual 185, 3) (nT 5 (.if_icmp .ne 19, 3) (nT 1 (.getfield 189, 3) (nT 0 (.aload_n 0, 1) nE nE) (nT 4 (.iconst 5, 1) nE nE)) (nT 9 (.aload_n 0, 1) (nT 8 (.aload_n 0, 1) nE nE) (nT 10 (.getfield 182, 3) nE nE))) (nT 21 (.goto 4, 3) (nT 17 (.if_icmp .ne 7, 3) (nT 16 (.iload_n 1, 1) nE nE) (nT 20 (.iconst 1, 1) nE nE)) (nT 25 (.ireturn, 1) (nT 24 (.iconst 0, 1) nE nE) nE)))
def i_X12_numeral : Nat → Option (Instr × Nat) := (nT 41 (.if_icmp .le 12, 3) (nT 18 (.invokevirtual 224, 3) (nT 9 (.aload_n 0, 1) (nT 4 (.ifCond .ne 5, 3) (nT 1 (.invokevirtual 217, 3) (nT 0 (.aload_n 0, 1) nE nE) nE) (nT 8 (.ireturn, 1) (nT 7 (.iload_n 1, 1) nE nE) nE)) (nT 14 (.if_icmp .eq 7, 3) (nT 13 (.iconst 4, 1) (nT 10 (.getfield 189, 3) nE nE) nE) (nT 17 (.aload_n 0, 1) nE nE))) (nT 32 (.iload_n 1, 1) (nT 25 (.ifCond .eq 28, 3) (nT 22 (.invokevirtual 217, 3) (nT 21 (.aload_n 0, 1) nE nE) nE) (nT 29 (.getfield 207, 3) (nT 28 (.aload_n 0, 1) nE nE) nE)) (nT 37 (.getfield 207, 3) (nT 36 (.aload_n 0, 1) (nT 33 (.if_icmp .lt 11, 3) nE nE) nE) (nT 40 (.iload_n 2, 1) nE nE)))) (nT 62 (.ifCond .eq 7, 3) (nT 53 (.aload_n 0, 1) (nT 46 (.aload_n 0, 1) (nT 45 (.iconst 4, 1) (nT 44 (.aload_n 0, 1) nE nE) nE) (nT 50 (.invokevirtual 213, 3) (nT 47 (.getfield 182, 3) nE nE) nE)) (nT 58 (.aload_n 0, 1) (nT 57 (.istore_n 3, 1) (nT 54 (.getfield 207, 3) nE nE) nE) (nT 59 (.invokevirtual 217, 3) nE nE))) (nT 73 (.ifCond .eq 7, 3) (nT 69 (.aload_n 0, 1) (nT 66 (.invokevirtual 221, 3) (nT 65 (.aload_n 0, 1) nE nE) nE) (nT 70 (.invokevirtual 217, 3) nE nE)) (nT 80 (.iload_n 1, 1) (nT 77 (.goto 4, 3) (nT 76 (.iload_n 3, 1) nE nE) nE) (nT 81 (.ireturn, 1) nE nE)))))
def i_X12_readRule : Nat → Option (Instr × Nat) := (nT 20 (.aload_n 0, 1) (nT 10 (.getfield 242, 3) (nT 5 (.aload_n 0, 1) (nT 1 (.iconst 0, 1) (nT 0 (.aload_n 0, 1) nE nE) (nT 2 (.putfield 285, 3) nE nE)) (nT 9 (.aload_n 0, 1) (nT 6 (.getfield 51, 3) nE nE) nE)) (nT 15 (.aload_n 0, 1) (nT 14 (.iadd, 1) (nT 13 (.iload_n 1, 1) nE nE) nE) (nT 19 (.iastore, 1) (nT 16 (.getfield 245, 3) nE nE) nE))) (nT 32 (.iload_n 1, 1) (nT 25 (.getfield 54, 3) (nT 24 (.aload_n 0, 1) (nT 21 (.invokevirtual 288, 3) nE nE) nE) (nT 29 (.getfield 242, 3) (nT 28 (.aload_n 0, 1) nE nE) nE)) (nT 35 (.getfield 245, 3) (nT 34 (.aload_n 0, 1) (nT 33 (.iadd, 1) nE nE) nE) (nT 39 (.return_, 1) (nT 38 (.iastore, 1) nE nE) nE))))
def i_X12_e : Nat → Option (Instr × Nat) := (nT 23 (.ifCond .eq 29, 3) (nT 11 (.bipush 8, 2) (nT 5 (.aload_n 0, 1) (nT 1 (.iconst 0, 1) (nT 0 (.aload_n 0, 1) nE nE) (nT 2 (.putfield 291, 3) nE nE)) (nT 7 (.putfield 294, 3) (nT 6 (.iconst 0, 1) nE nE) (nT 10 (.aload_n 0, 1) nE nE))) (nT 18 (.istore_n 1, 1) (nT 14 (.invokevirtual 297, 3) (nT 13 (.iconst 0, 1) nE nE) (nT 17 (.iconst 1, 1) nE nE)) (nT 20 (.invokevirtual 217, 3) (nT 19 (.aload_n 0, 1) nE nE) nE))) (nT 38 (.invokevirtual 300, 3) (nT 33 (.iload_n 1, 1) (nT 27 (.getfield 291, 3) (nT 26 (.aload_n 0, 1) nE nE) (nT 30 (.ifCond .le 22, 3) nE nE)) (nT 37 (.aload_n 0, 1) (nT 34 (.ifCond .eq 10, 3) nE nE) nE)) (nT 48 (.istore_n 1, 1) (nT 44 (.aload_n 0, 1) (nT 41 (.goto 7, 3) nE nE) (nT 45 (.invokevirtual 303, 3) nE nE)) (nT 52 (.return_, 1) (nT 49 (.goto (-30), 3) nE nE) nE))))
def i_X12_behindUnit : Nat → Option (Instr × Nat) := (nT 93 (.getfield 291, 3) (nT 48 (.isub, 1) (nT 23 (.aload_n 0, 1) (nT 10 (.aload_n 0, 1) (nT 5 (.iload_n 1, 1) (nT 1 (.invokevirtual 313, 3) (nT 0 (.aload_n 0, 1) nE nE) (nT 4 (.istore_n 1, 1) nE nE)) (nT 7 (.if_icmp .ne 16, 3) (nT 6 (.iconst 4, 1) nE nE) nE)) (nT 18 (.invokevirtual 224, 3) (nT 14 (.ifCond .eq 9, 3) (nT 11 (.invokevirtual 316, 3) nE nE) (nT 17 (.aload_n 0, 1) nE nE)) (nT 22 (.ireturn, 1) (nT 21 (.iconst 1, 1) nE nE) nE))) (nT 34 (.bipush 6, 2) (nT 31 (.iconst 1, 1) (nT 27 (.aload_n 0, 1) (nT 24 (.getfield 80, 3) nE nE) (nT 28 (.getfield 291, 3) nE nE)) (nT 33 (.iaload, 1) (nT 32 (.isub, 1) nE nE) nE)) (nT 43 (.aload_n 0, 1) (nT 39 (.aload_n 0, 1) (nT 36 (.if_icmp .gt 68, 3) nE nE) (nT 40 (.getfield 80, 3) nE nE)) (nT 47 (.iconst 1, 1) (nT 44 (.getfield 291, 3) nE nE) nE)))) (nT 72 (.iaload, 1) (nT 59 (.iconst 1, 1) (nT 54 (.aload_n 0, 1) (nT 50 (.iload_n 1, 1) (nT 49 (.iaload, 1) nE nE) (nT 51 (.if_icmp .lt 53, 3) nE nE)) (nT 56 (.getfield 291, 3) (nT 55 (.dup, 1) nE nE) nE)) (nT 65 (.getfield 80, 3) (nT 61 (.putfield 291, 3) (nT 60 (.isub, 1) nE nE) (nT 64 (.aload_n 0, 1) nE nE)) (nT 69 (.getfield 291, 3) (nT 68 (.aload_n 0, 1) nE nE) nE))) (nT 83 (.isub, 1) (nT 78 (.dup, 1) (nT 74 (.if_icmp .ne 13, 3) (nT 73 (.iconst 3, 1) nE nE) (nT 77 (.aload_n 0, 1) nE nE)) (nT 82 (.iconst 1, 1) (nT 79 (.getfield 294, 3) nE nE) nE)) (nT 88 (.aload_n 0, 1) (nT 87 (.aload_n 0, 1) (nT 84 (.putfield 294, 3) nE nE) nE) (nT 92 (.aload_n 0, 1) (nT 89 (.getfield 83, 3) nE nE) nE))))) (nT 146 (.ireturn, 1) (nT 120 (.iload_n 1, 1) (nT 108 (.aload_n 0, 1) (nT 101 (.goto (-78), 3) (nT 97 (.iconst 0, 1) (nT 96 (.iaload, 1) nE nE) (nT 98 (.invokevirtual 310, 3) nE nE)) (nT 105 (.ifCond .le 42, 3) (nT 104 (.iload_n 1, 1) nE nE) nE)) (nT 112 (.if_icmp .ne 8, 3) (nT 110 (.iload_n 1, 1) (nT 109 (.iload_n 1, 1) nE nE) (nT 111 (.iconst 2, 1) nE nE)) (nT 117 (.goto 21, 3) (nT 115 (.bipush 38, 2) nE nE) nE))) (nT 132 (.getfield 182, 3) (nT 127 (.goto 11, 3) (nT 122 (.if_icmp .ne 8, 3) (nT 121 (.iconst 1, 1) nE nE) (nT 125 (.bipush 124, 2) nE nE)) (nT 131 (.aload_n 0, 1) (nT 130 (.aload_n 0, 1) nE nE) nE)) (nT 141 (.aload_n 0, 1) (nT 138 (.invokevirtual 297, 3) (nT 135 (.invokevirtual 185, 3) nE nE) nE) (nT 145 (.iconst 1, 1) (nT 142 (.invokevirtual 221, 3) nE nE) nE)))) (nT 171 (.aload_n 0, 1) (nT 157 (.aload_n 0, 1) (nT 152 (.iconst 1, 1) (nT 148 (.dup, 1) (nT 147 (.aload_n 0, 1) nE nE) (nT 149 (.getfield 291, 3) nE nE)) (nT 154 (.putfield 291, 3) (nT 153 (.isub, 1) nE nE) nE)) (nT 165 (.iaload, 1) (nT 161 (.aload_n 0, 1) (nT 158 (.getfield 80, 3) nE nE) (nT 162 (.getfield 291, 3) nE nE)) (nT 168 (.if_icmp .ne 23, 3) (nT 166 (.bipush 7, 2) nE nE) nE))) (nT 182 (.aload_n 0, 1) (nT 177 (.isub, 1) (nT 173 (.getfield 294, 3) (nT 172 (.dup, 1) nE nE) (nT 176 (.iconst 1, 1) nE nE)) (nT 181 (.aload_n 0, 1) (nT 178 (.putfield 294, 3) nE nE) nE)) (nT 188 (.invokevirtual 230, 3) (nT 185 (.invokevirtual 270, 3) (nT 183 (.bipush 41, 2) nE nE) nE) (nT 192 (.ireturn, 1) (nT 191 (.iconst 0, 1) nE nE) nE))))))
def i_X12_pushE : Nat → Option (Instr × Nat) := (nT 15 (.getfield 291, 3) (nT 8 (.iload_n 1, 1) (nT 4 (.aload_n 0, 1) (nT 1 (.getfield 80, 3) (nT 0 (.aload_n 0, 1) nE nE) nE) (nT 5 (.getfield 291, 3) nE nE)) (nT 11 (.getfield 83, 3) (nT 10 (.aload_n 0, 1) (nT 9 (.iastore, 1) nE nE) nE) (nT 14 (.aload_n 0, 1) nE nE))) (nT 22 (.getfield 291, 3) (nT 20 (.aload_n 0, 1) (nT 19 (.iastore, 1) (nT 18 (.iload_n 2, 1) nE nE) nE) (nT 21 (.dup, 1) nE nE)) (nT 27 (.putfield 291, 3) (nT 26 (.iadd, 1) (nT 25 (.iconst 1, 1) nE nE) nE) (nT 30 (.return_, 1) nE nE))))
def i_X12_emit : Nat → Option (Instr × Nat) := (nT 15 (.getfield 245, 3) (nT 8 (.iload_n 1, 1) (nT 4 (.aload_n 0, 1) (nT 1 (.getfield 74, 3) (nT 0 (.aload_n 0, 1) nE nE) nE) (nT 5 (.getfield 245, 3) nE nE)) (nT 11 (.getfield 77, 3) (nT 10 (.aload_n 0, 1) (nT 9 (.iastore, 1) nE nE) nE) (nT 14 (.aload_n 0, 1) nE nE))) (nT 22 (.getfield 245, 3) (nT 20 (.aload_n 0, 1) (nT 19 (.iastore, 1) (nT 18 (.iload_n 2, 1) nE nE) nE) (nT 21 (.dup, 1) nE nE)) (nT 27 (.putfield 245, 3) (nT 26 (.iadd, 1) (nT 25 (.iconst 1, 1) nE nE) nE) (nT 30 (.return_, 1) nE nE))))
def i_X12_isCompared : Nat → Option (Instr × Nat) := (nT 22 (.iaload, 1) (nT 11 (.iload_n 1, 1) (nT 5 (.isub, 1) (nT 1 (.getfield 291, 3) (nT 0 (.aload_n 0, 1) nE nE) (nT 4 (.iconst 1, 1) nE nE)) (nT 7 (.aload_n 0, 1) (nT 6 (.istore_n 1, 1) nE nE) (nT 8 (.getfield 80, 3) nE nE))) (nT 17 (.aload_n 0, 1) (nT 13 (.iconst 5, 1) (nT 12 (.iaload, 1) nE nE) (nT 14 (.if_icmp .eq 14, 3) nE nE)) (nT 21 (.iload_n 1, 1) (nT 18 (.getfield 80, 3) nE nE) nE))) (nT 39 (.iaload, 1) (nT 31 (.goto (-24), 3) (nT 25 (.if_icmp .ne 9, 3) (nT 23 (.bipush 6, 2) nE nE) (nT 28 (.iinc 1 (-1), 3) nE nE)) (nT 35 (.getfield 80, 3) (nT 34 (.aload_n 0, 1) nE nE) (nT 38 (.iload_n 1, 1) nE nE))) (nT 45 (.goto 4, 3) (nT 41 (.if_icmp .ne 7, 3) (nT 40 (.iconst 4, 1) nE nE) (nT 44 (.iconst 1, 1) nE nE)) (nT 49 (.ireturn, 1) (nT 48 (.iconst 0, 1) nE nE) nE))))
def i_X12_rankHere : Nat → Option (Instr × Nat) := (nT 53 (.aload_n 0, 1) (nT 25 (.bipush 60, 2) (nT 12 (.aload_n 0, 1) (nT 7 (.ifCond .eq 5, 3) (nT 1 (.ldc2_w 175, 3) (nT 0 (.aload_n 0, 1) nE nE) (nT 4 (.invokevirtual 227, 3) nE nE)) (nT 11 (.ireturn, 1) (nT 10 (.iconst 2, 1) nE nE) nE)) (nT 22 (.iconst 1, 1) (nT 16 (.invokevirtual 227, 3) (nT 13 (.ldc2_w 173, 3) nE nE) (nT 19 (.ifCond .eq 5, 3) nE nE)) (nT 24 (.aload_n 0, 1) (nT 23 (.ireturn, 1) nE nE) nE))) (nT 42 (.aload_n 0, 1) (nT 34 (.bipush 62, 2) (nT 30 (.ifCond .ne 21, 3) (nT 27 (.invokevirtual 270, 3) nE nE) (nT 33 (.aload_n 0, 1) nE nE)) (nT 39 (.ifCond .ne 12, 3) (nT 36 (.invokevirtual 270, 3) nE nE) nE)) (nT 48 (.ifCond .eq 5, 3) (nT 45 (.invokevirtual 270, 3) (nT 43 (.bipush 61, 2) nE nE) nE) (nT 52 (.ireturn, 1) (nT 51 (.iconst 4, 1) nE nE) nE)))) (nT 79 (.ifCond .ne 21, 3) (nT 68 (.ifCond .eq 5, 3) (nT 62 (.aload_n 0, 1) (nT 56 (.invokevirtual 270, 3) (nT 54 (.bipush 43, 2) nE nE) (nT 59 (.ifCond .ne 12, 3) nE nE)) (nT 65 (.invokevirtual 270, 3) (nT 63 (.bipush 45, 2) nE nE) nE)) (nT 73 (.aload_n 0, 1) (nT 72 (.ireturn, 1) (nT 71 (.iconst 5, 1) nE nE) nE) (nT 76 (.invokevirtual 270, 3) (nT 74 (.bipush 42, 2) nE nE) nE))) (nT 94 (.invokevirtual 270, 3) (nT 88 (.ifCond .ne 12, 3) (nT 83 (.bipush 47, 2) (nT 82 (.aload_n 0, 1) nE nE) (nT 85 (.invokevirtual 270, 3) nE nE)) (nT 92 (.bipush 37, 2) (nT 91 (.aload_n 0, 1) nE nE) nE)) (nT 102 (.goto 4, 3) (nT 100 (.bipush 6, 2) (nT 97 (.ifCond .eq 8, 3) nE nE) nE) (nT 106 (.ireturn, 1) (nT 105 (.iconst 0, 1) nE nE) nE)))))
def i_X12_isWord : Nat → Option (Instr × Nat) := (nT 12 (.lload_n 1, 1) (nT 5 (.if_icmp .ne 16, 3) (nT 1 (.getfield 189, 3) (nT 0 (.aload_n 0, 1) nE nE) (nT 4 (.iconst 3, 1) nE nE)) (nT 9 (.getfield 196, 3) (nT 8 (.aload_n 0, 1) nE nE) nE)) (nT 18 (.goto 4, 3) (nT 14 (.ifCond .ne 7, 3) (nT 13 (.lcmp, 1) nE nE) (nT 17 (.iconst 1, 1) nE nE)) (nT 22 (.ireturn, 1) (nT 21 (.iconst 0, 1) nE nE) nE)))
def i_X12_unit : Nat → Option (Instr × Nat) := (nT 135 (.getfield 294, 3) (nT 63 (.istore_n 3, 1) (nT 28 (.if_icmp .lt 7, 3) (nT 12 (.if_icmp .le 19, 3) (nT 8 (.iconst 1, 1) (nT 4 (.aload_n 0, 1) (nT 1 (.getfield 80, 3) (nT 0 (.aload_n 0, 1) nE nE) nE) (nT 5 (.getfield 291, 3) nE nE)) (nT 10 (.iaload, 1) (nT 9 (.isub, 1) nE nE) (nT 11 (.iconst 3, 1) nE nE))) (nT 23 (.iconst 1, 1) (nT 19 (.aload_n 0, 1) (nT 16 (.getfield 80, 3) (nT 15 (.aload_n 0, 1) nE nE) nE) (nT 20 (.getfield 291, 3) nE nE)) (nT 25 (.iaload, 1) (nT 24 (.isub, 1) nE nE) (nT 26 (.bipush 7, 2) nE nE)))) (nT 45 (.invokevirtual 227, 3) (nT 37 (.iload_n 1, 1) (nT 35 (.iconst 0, 1) (nT 32 (.goto 4, 3) (nT 31 (.iconst 1, 1) nE nE) nE) (nT 36 (.istore_n 1, 1) nE nE)) (nT 41 (.aload_n 0, 1) (nT 38 (.ifCond .eq 17, 3) nE nE) (nT 42 (.ldc2_w 177, 3) nE nE))) (nT 56 (.istore_n 2, 1) (nT 52 (.goto 4, 3) (nT 51 (.iconst 1, 1) (nT 48 (.ifCond .eq 7, 3) nE nE) nE) (nT 55 (.iconst 0, 1) nE nE)) (nT 58 (.bipush 40, 2) (nT 57 (.aload_n 0, 1) nE nE) (nT 60 (.invokevirtual 270, 3) nE nE))))) (nT 98 (.istore 5, 2) (nT 79 (.bipush 60, 2) (nT 71 (.getfield 27, 3) (nT 68 (.istore 4, 2) (nT 65 (.invokevirtual 306, 3) (nT 64 (.aload_n 0, 1) nE nE) nE) (nT 70 (.aload_n 0, 1) nE nE)) (nT 75 (.getfield 242, 3) (nT 74 (.aload_n 0, 1) nE nE) (nT 78 (.iaload, 1) nE nE))) (nT 90 (.if_icmp .ne 7, 3) (nT 85 (.getfield 285, 3) (nT 84 (.aload_n 0, 1) (nT 81 (.if_icmp .eq 12, 3) nE nE) nE) (nT 88 (.bipush 30, 2) nE nE)) (nT 94 (.goto 4, 3) (nT 93 (.iconst 1, 1) nE nE) (nT 97 (.iconst 0, 1) nE nE)))) (nT 117 (.iload_n 3, 1) (nT 109 (.aload_n 0, 1) (nT 104 (.iload 4, 2) (nT 101 (.ifCond .ne 25, 3) (nT 100 (.iload_n 2, 1) nE nE) nE) (nT 106 (.ifCond .ne 15, 3) nE nE)) (nT 113 (.iconst 4, 1) (nT 110 (.getfield 189, 3) nE nE) (nT 114 (.if_icmp .eq 7, 3) nE nE))) (nT 127 (.ifCond .ne 7, 3) (nT 123 (.ifCond .ne 20, 3) (nT 121 (.iload 5, 2) (nT 118 (.ifCond .eq 25, 3) nE nE) nE) (nT 126 (.iload_n 2, 1) nE nE)) (nT 131 (.ifCond .eq 16, 3) (nT 130 (.iload_n 3, 1) nE nE) (nT 134 (.aload_n 0, 1) nE nE)))))) (nT 201 (.getfield 207, 3) (nT 170 (.iconst 0, 1) (nT 155 (.ireturn, 1) (nT 147 (.aload_n 0, 1) (nT 143 (.aload_n 0, 1) (nT 140 (.if_icmp .ne 7, 3) (nT 138 (.bipush 7, 2) nE nE) nE) (nT 144 (.invokevirtual 224, 3) nE nE)) (nT 151 (.ifCond .ne 5, 3) (nT 148 (.invokevirtual 217, 3) nE nE) (nT 154 (.iconst 1, 1) nE nE))) (nT 164 (.dup2, 1) (nT 160 (.aload_n 0, 1) (nT 157 (.getfield 27, 3) (nT 156 (.aload_n 0, 1) nE nE) nE) (nT 161 (.getfield 242, 3) nE nE)) (nT 166 (.iload_n 2, 1) (nT 165 (.iaload, 1) nE nE) (nT 167 (.ifCond .eq 7, 3) nE nE)))) (nT 183 (.ifCond .eq 7, 3) (nT 177 (.aload_n 0, 1) (nT 175 (.iadd, 1) (nT 174 (.iconst 1, 1) (nT 171 (.goto 4, 3) nE nE) nE) (nT 176 (.iastore, 1) nE nE)) (nT 179 (.getfield 285, 3) (nT 178 (.dup, 1) nE nE) (nT 182 (.iload_n 2, 1) nE nE))) (nT 192 (.putfield 285, 3) (nT 190 (.iconst 1, 1) (nT 187 (.goto 4, 3) (nT 186 (.iconst 0, 1) nE nE) nE) (nT 191 (.iadd, 1) nE nE)) (nT 197 (.ifCond .ne 10, 3) (nT 195 (.iload 4, 2) nE nE) (nT 200 (.aload_n 0, 1) nE nE))))) (nT 238 (.aload_n 0, 1) (nT 219 (.ifCond .eq 31, 3) (nT 211 (.invokevirtual 221, 3) (nT 208 (.istore 6, 2) (nT 207 (.iconst 0, 1) (nT 204 (.goto 4, 3) nE nE) nE) (nT 210 (.aload_n 0, 1) nE nE)) (nT 215 (.ifCond .ne 7, 3) (nT 214 (.iload_n 2, 1) nE nE) (nT 218 (.iload_n 3, 1) nE nE))) (nT 228 (.goto 5, 3) (nT 224 (.ifCond .eq 7, 3) (nT 223 (.iload_n 2, 1) (nT 222 (.aload_n 0, 1) nE nE) nE) (nT 227 (.iconst 3, 1) nE nE)) (nT 233 (.bipush 126, 2) (nT 231 (.bipush 7, 2) nE nE) (nT 235 (.invokevirtual 297, 3) nE nE)))) (nT 251 (.iload 4, 2) (nT 245 (.putfield 294, 3) (nT 243 (.iconst 1, 1) (nT 240 (.getfield 294, 3) (nT 239 (.dup, 1) nE nE) nE) (nT 244 (.iadd, 1) nE nE)) (nT 249 (.ireturn, 1) (nT 248 (.iconst 1, 1) nE nE) (nT 250 (.aload_n 0, 1) nE nE))) (nT 263 (.iload 6, 2) (nT 258 (.goto 5, 3) (nT 256 (.bipush 110, 2) (nT 253 (.ifCond .ne 8, 3) nE nE) nE) (nT 261 (.iload 4, 2) nE nE)) (nT 268 (.iconst 0, 1) (nT 265 (.invokevirtual 310, 3) nE nE) (nT 269 (.ireturn, 1) nE nE)))))))
def i_X12_wordHere : Nat → Option (Instr × Nat) := (nT 40 (.ldc2_w 155, 3) (nT 20 (.ifCond .eq 6, 3) (nT 10 (.bipush 118, 2) (nT 4 (.invokevirtual 227, 3) (nT 1 (.ldc2_w 163, 3) (nT 0 (.aload_n 0, 1) nE nE) nE) (nT 7 (.ifCond .eq 6, 3) nE nE)) (nT 14 (.ldc2_w 165, 3) (nT 13 (.aload_n 0, 1) (nT 12 (.ireturn, 1) nE nE) nE) (nT 17 (.invokevirtual 227, 3) nE nE))) (nT 30 (.invokevirtual 227, 3) (nT 26 (.aload_n 0, 1) (nT 25 (.ireturn, 1) (nT 23 (.bipush 97, 2) nE nE) nE) (nT 27 (.ldc2_w 167, 3) nE nE)) (nT 38 (.ireturn, 1) (nT 36 (.bipush 108, 2) (nT 33 (.ifCond .eq 6, 3) nE nE) nE) (nT 39 (.aload_n 0, 1) nE nE)))) (nT 64 (.ireturn, 1) (nT 52 (.aload_n 0, 1) (nT 49 (.bipush 115, 2) (nT 46 (.ifCond .eq 6, 3) (nT 43 (.invokevirtual 227, 3) nE nE) nE) (nT 51 (.ireturn, 1) nE nE)) (nT 59 (.ifCond .eq 6, 3) (nT 56 (.invokevirtual 227, 3) (nT 53 (.ldc2_w 169, 3) nE nE) nE) (nT 62 (.bipush 107, 2) nE nE))) (nT 75 (.bipush 100, 2) (nT 69 (.invokevirtual 227, 3) (nT 66 (.ldc2_w 171, 3) (nT 65 (.aload_n 0, 1) nE nE) nE) (nT 72 (.ifCond .eq 8, 3) nE nE)) (nT 80 (.iconst 0, 1) (nT 77 (.goto 4, 3) nE nE) (nT 81 (.ireturn, 1) nE nE)))))
def i_X12_readBill : Nat → Option (Instr × Nat) := (nT 55 (.aload_n 0, 1) (nT 24 (.aload_n 0, 1) (nT 14 (.iaload, 1) (nT 6 (.aload_n 0, 1) (nT 2 (.getfield 242, 3) (nT 1 (.aload_n 0, 1) (nT 0 (.iconst 5, 1) nE nE) nE) (nT 5 (.imul, 1) nE nE)) (nT 10 (.aload_n 0, 1) (nT 7 (.getfield 24, 3) nE nE) (nT 11 (.getfield 242, 3) nE nE))) (nT 18 (.getfield 71, 3) (nT 16 (.istore_n 1, 1) (nT 15 (.iadd, 1) nE nE) (nT 17 (.aload_n 0, 1) nE nE)) (nT 22 (.aload_n 0, 1) (nT 21 (.iload_n 1, 1) nE nE) (nT 23 (.aload_n 0, 1) nE nE)))) (nT 39 (.getfield 242, 3) (nT 33 (.imul, 1) (nT 29 (.aload_n 0, 1) (nT 28 (.iconst 5, 1) (nT 25 (.getfield 71, 3) nE nE) nE) (nT 30 (.getfield 242, 3) nE nE)) (nT 35 (.getfield 24, 3) (nT 34 (.aload_n 0, 1) nE nE) (nT 38 (.aload_n 0, 1) nE nE))) (nT 49 (.lastore, 1) (nT 43 (.invokevirtual 273, 3) (nT 42 (.iaload, 1) nE nE) (nT 46 (.invokevirtual 277, 3) nE nE)) (nT 51 (.getfield 42, 3) (nT 50 (.aload_n 0, 1) nE nE) (nT 54 (.iload_n 1, 1) nE nE))))) (nT 86 (.iload_n 1, 1) (nT 71 (.aload_n 0, 1) (nT 65 (.iastore, 1) (nT 60 (.bipush 99, 2) (nT 59 (.iconst 1, 1) (nT 56 (.ldc2_w 151, 3) nE nE) nE) (nT 62 (.invokevirtual 238, 3) nE nE)) (nT 67 (.getfield 45, 3) (nT 66 (.aload_n 0, 1) nE nE) (nT 70 (.iload_n 1, 1) nE nE))) (nT 78 (.invokevirtual 238, 3) (nT 75 (.iconst 1, 1) (nT 72 (.ldc2_w 153, 3) nE nE) (nT 76 (.bipush 60, 2) nE nE)) (nT 82 (.aload_n 0, 1) (nT 81 (.iastore, 1) nE nE) (nT 83 (.getfield 48, 3) nE nE)))) (nT 101 (.aload_n 0, 1) (nT 93 (.invokevirtual 281, 3) (nT 88 (.ldc2_w 155, 3) (nT 87 (.aload_n 0, 1) nE nE) (nT 91 (.bipush 9, 2) nE nE)) (nT 97 (.aload_n 0, 1) (nT 96 (.iastore, 1) nE nE) (nT 98 (.getfield 24, 3) nE nE))) (nT 107 (.iconst 1, 1) (nT 105 (.dup2, 1) (nT 102 (.getfield 242, 3) nE nE) (nT 106 (.iaload, 1) nE nE)) (nT 109 (.iastore, 1) (nT 108 (.iadd, 1) nE nE) (nT 110 (.return_, 1) nE nE))))))
def i_X12_perhaps : Nat → Option (Instr × Nat) := (nT 15 (.aload_n 0, 1) (nT 7 (.aload_n 0, 1) (nT 1 (.invokevirtual 217, 3) (nT 0 (.aload_n 0, 1) nE nE) (nT 4 (.ifCond .eq 21, 3) nE nE)) (nT 9 (.invokevirtual 227, 3) (nT 8 (.lload_n 1, 1) nE nE) (nT 12 (.ifCond .eq 13, 3) nE nE))) (nT 19 (.invokevirtual 238, 3) (nT 17 (.iconst 0, 1) (nT 16 (.lload_n 1, 1) nE nE) (nT 18 (.iload_n 3, 1) nE nE)) (nT 25 (.iconst 0, 1) (nT 22 (.goto 4, 3) nE nE) (nT 26 (.ireturn, 1) nE nE))))
def i_X12_after : Nat → Option (Instr × Nat) := (nT 9 (.aload_n 0, 1) (nT 2 (.lload_n 1, 1) (nT 1 (.aload_n 0, 1) (nT 0 (.aload_n 0, 1) nE nE) nE) (nT 6 (.invokevirtual 230, 3) (nT 3 (.invokevirtual 227, 3) nE nE) nE)) (nT 13 (.invokevirtual 234, 3) (nT 11 (.iload 4, 2) (nT 10 (.iload_n 3, 1) nE nE) nE) (nT 16 (.ireturn, 1) nE nE)))
def i_X12_fresh : Nat → Option (Instr × Nat) := (nT 28 (.aload_n 0, 1) (nT 13 (.iconst 2, 1) (nT 7 (.lconst 0, 1) (nT 1 (.invokevirtual 217, 3) (nT 0 (.aload_n 0, 1) nE nE) (nT 4 (.ifCond .ne 5, 3) nE nE)) (nT 9 (.aload_n 0, 1) (nT 8 (.lreturn, 1) nE nE) (nT 10 (.getfield 189, 3) nE nE))) (nT 21 (.goto 16, 3) (nT 17 (.aload_n 0, 1) (nT 14 (.if_icmp .eq 10, 3) nE nE) (nT 18 (.invokevirtual 224, 3) nE nE)) (nT 25 (.ifCond .lt 12, 3) (nT 24 (.iload_n 1, 1) nE nE) nE))) (nT 42 (.aload_n 0, 1) (nT 34 (.invokevirtual 213, 3) (nT 30 (.aload_n 0, 1) (nT 29 (.iconst 3, 1) nE nE) (nT 31 (.getfield 182, 3) nE nE)) (nT 38 (.getfield 196, 3) (nT 37 (.aload_n 0, 1) nE nE) (nT 41 (.lstore_n 2, 1) nE nE))) (nT 50 (.invokevirtual 221, 3) (nT 46 (.ifCond .eq 7, 3) (nT 43 (.invokevirtual 217, 3) nE nE) (nT 49 (.aload_n 0, 1) nE nE)) (nT 54 (.lreturn, 1) (nT 53 (.lload_n 2, 1) nE nE) nE))))
def i_X12_here : Nat → Option (Instr × Nat) := (nT 21 (.iadd, 1) (nT 10 (.getfield 189, 3) (nT 5 (.iload_n 3, 1) (nT 1 (.istore 4, 2) (nT 0 (.iconst 0, 1) nE nE) (nT 3 (.iload 4, 2) nE nE)) (nT 9 (.aload_n 0, 1) (nT 6 (.if_icmp .ge 34, 3) nE nE) nE)) (nT 17 (.aload_n 1, 1) (nT 14 (.if_icmp .ne 20, 3) (nT 13 (.iconst 2, 1) nE nE) nE) (nT 19 (.iload 4, 2) (nT 18 (.iload_n 2, 1) nE nE) nE))) (nT 31 (.iload 4, 2) (nT 24 (.getfield 196, 3) (nT 23 (.aload_n 0, 1) (nT 22 (.laload, 1) nE nE) nE) (nT 28 (.ifCond .ne 6, 3) (nT 27 (.lcmp, 1) nE nE) nE)) (nT 37 (.goto (-34), 3) (nT 34 (.iinc 4 1, 3) (nT 33 (.ireturn, 1) nE nE) nE) (nT 41 (.ireturn, 1) (nT 40 (.iconst (-1), 1) nE nE) nE))))
def i_X12_readMember : Nat → Option (Instr × Nat) := (nT 48 (.invokevirtual 277, 3) (nT 23 (.aload_n 0, 1) (nT 12 (.getfield 242, 3) (nT 6 (.imul, 1) (nT 2 (.aload_n 0, 1) (nT 0 (.bipush 6, 2) nE nE) (nT 3 (.getfield 242, 3) nE nE)) (nT 8 (.getfield 20, 3) (nT 7 (.aload_n 0, 1) nE nE) (nT 11 (.aload_n 0, 1) nE nE))) (nT 18 (.aload_n 0, 1) (nT 16 (.iadd, 1) (nT 15 (.iaload, 1) nE nE) (nT 17 (.istore_n 1, 1) nE nE)) (nT 22 (.iload_n 1, 1) (nT 19 (.getfield 67, 3) nE nE) nE))) (nT 35 (.imul, 1) (nT 29 (.bipush 6, 2) (nT 25 (.aload_n 0, 1) (nT 24 (.aload_n 0, 1) nE nE) (nT 26 (.getfield 67, 3) nE nE)) (nT 32 (.getfield 242, 3) (nT 31 (.aload_n 0, 1) nE nE) nE)) (nT 41 (.getfield 242, 3) (nT 37 (.getfield 20, 3) (nT 36 (.aload_n 0, 1) nE nE) (nT 40 (.aload_n 0, 1) nE nE)) (nT 45 (.invokevirtual 273, 3) (nT 44 (.iaload, 1) nE nE) nE)))) (nT 74 (.ldc2_w 147, 3) (nT 62 (.bipush 20, 2) (nT 56 (.iload_n 1, 1) (nT 52 (.aload_n 0, 1) (nT 51 (.lastore, 1) nE nE) (nT 53 (.getfield 36, 3) nE nE)) (nT 58 (.ldc2_w 145, 3) (nT 57 (.aload_n 0, 1) nE nE) (nT 61 (.iconst 1, 1) nE nE))) (nT 69 (.getfield 39, 3) (nT 67 (.iastore, 1) (nT 64 (.invokevirtual 238, 3) nE nE) (nT 68 (.aload_n 0, 1) nE nE)) (nT 73 (.aload_n 0, 1) (nT 72 (.iload_n 1, 1) nE nE) nE))) (nT 88 (.getfield 242, 3) (nT 83 (.aload_n 0, 1) (nT 79 (.invokevirtual 281, 3) (nT 77 (.bipush 9, 2) nE nE) (nT 82 (.iastore, 1) nE nE)) (nT 87 (.aload_n 0, 1) (nT 84 (.getfield 20, 3) nE nE) nE)) (nT 94 (.iadd, 1) (nT 92 (.iaload, 1) (nT 91 (.dup2, 1) nE nE) (nT 93 (.iconst 1, 1) nE nE)) (nT 96 (.return_, 1) (nT 95 (.iastore, 1) nE nE) nE)))))
def i_X12_isFull : Nat → Option (Instr × Nat) := (nT 63 (.invokevirtual 227, 3) (nT 31 (.ldc2_w 149, 3) (nT 18 (.iaload, 1) (nT 10 (.aload_n 0, 1) (nT 4 (.invokevirtual 227, 3) (nT 1 (.ldc2_w 143, 3) (nT 0 (.aload_n 0, 1) nE nE) nE) (nT 7 (.ifCond .eq 23, 3) nE nE)) (nT 14 (.aload_n 0, 1) (nT 11 (.getfield 20, 3) nE nE) (nT 15 (.getfield 242, 3) nE nE))) (nT 25 (.goto 4, 3) (nT 21 (.if_icmp .ne 7, 3) (nT 19 (.bipush 6, 2) nE nE) (nT 24 (.iconst 1, 1) nE nE)) (nT 29 (.ireturn, 1) (nT 28 (.iconst 0, 1) nE nE) (nT 30 (.aload_n 0, 1) nE nE)))) (nT 49 (.iconst 5, 1) (nT 41 (.getfield 24, 3) (nT 37 (.ifCond .eq 22, 3) (nT 34 (.invokevirtual 227, 3) nE nE) (nT 40 (.aload_n 0, 1) nE nE)) (nT 45 (.getfield 242, 3) (nT 44 (.aload_n 0, 1) nE nE) (nT 48 (.iaload, 1) nE nE))) (nT 57 (.iconst 0, 1) (nT 53 (.iconst 1, 1) (nT 50 (.if_icmp .ne 7, 3) nE nE) (nT 54 (.goto 4, 3) nE nE)) (nT 59 (.aload_n 0, 1) (nT 58 (.ireturn, 1) nE nE) (nT 60 (.ldc2_w 157, 3) nE nE))))) (nT 97 (.baload, 1) (nT 79 (.aload_n 0, 1) (nT 73 (.aload_n 0, 1) (nT 69 (.aload_n 0, 1) (nT 66 (.ifCond .eq 13, 3) nE nE) (nT 70 (.getfield 57, 3) nE nE)) (nT 77 (.baload, 1) (nT 74 (.getfield 242, 3) nE nE) (nT 78 (.ireturn, 1) nE nE))) (nT 89 (.aload_n 0, 1) (nT 83 (.invokevirtual 227, 3) (nT 80 (.ldc2_w 159, 3) nE nE) (nT 86 (.ifCond .eq 13, 3) nE nE)) (nT 93 (.aload_n 0, 1) (nT 90 (.getfield 61, 3) nE nE) (nT 94 (.getfield 242, 3) nE nE)))) (nT 113 (.aload_n 0, 1) (nT 103 (.invokevirtual 227, 3) (nT 99 (.aload_n 0, 1) (nT 98 (.ireturn, 1) nE nE) (nT 100 (.ldc2_w 161, 3) nE nE)) (nT 109 (.aload_n 0, 1) (nT 106 (.ifCond .eq 15, 3) nE nE) (nT 110 (.getfield 64, 3) nE nE))) (nT 121 (.iconst 1, 1) (nT 117 (.baload, 1) (nT 114 (.getfield 242, 3) nE nE) (nT 118 (.ifCond .eq 7, 3) nE nE)) (nT 125 (.iconst 0, 1) (nT 122 (.goto 4, 3) nE nE) (nT 126 (.ireturn, 1) nE nE))))))
def i_X12_clearBank : Nat → Option (Instr × Nat) := (nT 45 (.getfield 242, 3) (nT 21 (.getfield 27, 3) (nT 10 (.aload_n 0, 1) (nT 5 (.getfield 242, 3) (nT 1 (.getfield 20, 3) (nT 0 (.aload_n 0, 1) nE nE) (nT 4 (.aload_n 0, 1) nE nE)) (nT 9 (.iastore, 1) (nT 8 (.iconst 0, 1) nE nE) nE)) (nT 18 (.iconst 0, 1) (nT 14 (.aload_n 0, 1) (nT 11 (.getfield 24, 3) nE nE) (nT 15 (.getfield 242, 3) nE nE)) (nT 20 (.aload_n 0, 1) (nT 19 (.iastore, 1) nE nE) nE))) (nT 34 (.aload_n 0, 1) (nT 29 (.iastore, 1) (nT 25 (.getfield 242, 3) (nT 24 (.aload_n 0, 1) nE nE) (nT 28 (.iconst 0, 1) nE nE)) (nT 31 (.getfield 30, 3) (nT 30 (.aload_n 0, 1) nE nE) nE)) (nT 40 (.aload_n 0, 1) (nT 38 (.iconst 0, 1) (nT 35 (.getfield 242, 3) nE nE) (nT 39 (.iastore, 1) nE nE)) (nT 44 (.aload_n 0, 1) (nT 41 (.getfield 33, 3) nE nE) nE)))) (nT 69 (.bastore, 1) (nT 58 (.iconst 0, 1) (nT 51 (.getfield 57, 3) (nT 49 (.iastore, 1) (nT 48 (.iconst 0, 1) nE nE) (nT 50 (.aload_n 0, 1) nE nE)) (nT 55 (.getfield 242, 3) (nT 54 (.aload_n 0, 1) nE nE) nE)) (nT 64 (.aload_n 0, 1) (nT 60 (.aload_n 0, 1) (nT 59 (.bastore, 1) nE nE) (nT 61 (.getfield 61, 3) nE nE)) (nT 68 (.iconst 0, 1) (nT 65 (.getfield 242, 3) nE nE) nE))) (nT 80 (.aload_n 0, 1) (nT 75 (.getfield 242, 3) (nT 71 (.getfield 64, 3) (nT 70 (.aload_n 0, 1) nE nE) (nT 74 (.aload_n 0, 1) nE nE)) (nT 79 (.bastore, 1) (nT 78 (.iconst 0, 1) nE nE) nE)) (nT 88 (.imul, 1) (nT 84 (.aload_n 0, 1) (nT 81 (.sipush 560, 3) nE nE) (nT 85 (.getfield 242, 3) nE nE)) (nT 92 (.return_, 1) (nT 89 (.putfield 245, 3) nE nE) nE)))))
def i_X11_house : Nat → Option (Instr × Nat) := (nT 47 (.getfield 38, 3) (nT 23 (.aload_n 0, 1) (nT 11 (.ireturn, 1) (nT 4 (.invokevirtual 112, 3) (nT 1 (.getfield 31, 3) (nT 0 (.aload_n 0, 1) nE nE) nE) (nT 10 (.iconst (-1), 1) (nT 7 (.ifCond .ne 5, 3) nE nE) nE)) (nT 16 (.aload_n 0, 1) (nT 13 (.getfield 19, 3) (nT 12 (.aload_n 0, 1) nE nE) nE) (nT 20 (.invokevirtual 116, 3) (nT 17 (.getfield 23, 3) nE nE) nE))) (nT 35 (.aload_n 0, 1) (nT 28 (.putfield 108, 3) (nT 27 (.iconst 0, 1) (nT 24 (.getfield 10, 3) nE nE) nE) (nT 32 (.getfield 38, 3) (nT 31 (.aload_n 0, 1) nE nE) nE)) (nT 42 (.aload_n 0, 1) (nT 39 (.invokevirtual 119, 3) (nT 36 (.getfield 19, 3) nE nE) nE) (nT 46 (.aload_n 0, 1) (nT 43 (.getfield 53, 3) nE nE) nE)))) (nT 71 (.if_icmp .ge 16, 3) (nT 61 (.getfield 87, 3) (nT 54 (.getfield 96, 3) (nT 53 (.aload_n 0, 1) (nT 50 (.invokevirtual 122, 3) nE nE) nE) (nT 60 (.aload_n 0, 1) (nT 57 (.invokevirtual 126, 3) nE nE) nE)) (nT 68 (.istore_n 1, 1) (nT 67 (.iconst 0, 1) (nT 64 (.invokevirtual 129, 3) nE nE) nE) (nT 70 (.iconst 3, 1) (nT 69 (.iload_n 1, 1) nE nE) nE))) (nT 81 (.iinc 1 1, 3) (nT 78 (.iload_n 1, 1) (nT 75 (.getfield 46, 3) (nT 74 (.aload_n 0, 1) nE nE) nE) (nT 80 (.bastore, 1) (nT 79 (.iconst 0, 1) nE nE) nE)) (nT 88 (.getfield 19, 3) (nT 87 (.aload_n 0, 1) (nT 84 (.goto (-15), 3) nE nE) nE) (nT 94 (.ireturn, 1) (nT 91 (.getfield 132, 3) nE nE) nE)))))
def i_X7_forget : Nat → Option (Instr × Nat) := (nT 5 (.aload_n 0, 1) (nT 1 (.iconst 0, 1) (nT 0 (.aload_n 0, 1) nE nE) (nT 2 (.putfield 41, 3) nE nE)) (nT 7 (.putfield 45, 3) (nT 6 (.iconst 0, 1) nE nE) (nT 10 (.return_, 1) nE nE)))
def i_X6_layOut : Nat → Option (Instr × Nat) := (nT 20 (.invokevirtual 33, 3) (nT 11 (.iconst 5, 1) (nT 5 (.invokestatic 27, 3) (nT 1 (.getfield 11, 3) (nT 0 (.aload_n 0, 1) nE nE) (nT 4 (.iconst 0, 1) nE nE)) (nT 9 (.istore_n 2, 1) (nT 8 (.iconst 0, 1) nE nE) (nT 10 (.iload_n 2, 1) nE nE))) (nT 17 (.iconst 3, 1) (nT 15 (.aload_n 0, 1) (nT 12 (.if_icmp .ge 20, 3) nE nE) (nT 16 (.iload_n 2, 1) nE nE)) (nT 19 (.iload_n 2, 1) (nT 18 (.aload_n 1, 1) nE nE) nE))) (nT 38 (.iconst 0, 1) (nT 32 (.aload_n 0, 1) (nT 26 (.iinc 2 1, 3) (nT 23 (.invokevirtual 23, 3) nE nE) (nT 29 (.goto (-19), 3) nE nE)) (nT 34 (.putfield 39, 3) (nT 33 (.iconst 0, 1) nE nE) (nT 37 (.aload_n 0, 1) nE nE))) (nT 44 (.getfield 46, 3) (nT 42 (.aload_n 0, 1) (nT 39 (.putfield 43, 3) nE nE) (nT 43 (.aload_n 1, 1) nE nE)) (nT 50 (.return_, 1) (nT 47 (.putfield 49, 3) nE nE) nE))))
def i_X5_shelfOf : Nat → Option (Instr × Nat) := (nT 9 (.getfield 24, 3) (nT 2 (.invokevirtual 64, 3) (nT 1 (.iload_n 1, 1) (nT 0 (.aload_n 0, 1) nE nE) nE) (nT 8 (.aload_n 0, 1) (nT 5 (.ifCond .eq 12, 3) nE nE) nE)) (nT 14 (.goto 4, 3) (nT 13 (.iaload, 1) (nT 12 (.iload_n 1, 1) nE nE) nE) (nT 18 (.ireturn, 1) (nT 17 (.iconst 0, 1) nE nE) nE)))
def i_X5_copyFrom : Nat → Option (Instr × Nat) := (nT 55 (.invokestatic 50, 3) (nT 27 (.invokestatic 50, 3) (nT 12 (.invokestatic 50, 3) (nT 5 (.aload_n 0, 1) (nT 1 (.getfield 9, 3) (nT 0 (.aload_n 1, 1) nE nE) (nT 4 (.iconst 0, 1) nE nE)) (nT 9 (.iconst 0, 1) (nT 6 (.getfield 9, 3) nE nE) (nT 10 (.bipush 6, 2) nE nE))) (nT 20 (.aload_n 0, 1) (nT 16 (.getfield 15, 3) (nT 15 (.aload_n 1, 1) nE nE) (nT 19 (.iconst 0, 1) nE nE)) (nT 24 (.iconst 0, 1) (nT 21 (.getfield 15, 3) nE nE) (nT 25 (.bipush 6, 2) nE nE)))) (nT 41 (.invokestatic 50, 3) (nT 35 (.aload_n 0, 1) (nT 31 (.getfield 18, 3) (nT 30 (.aload_n 1, 1) nE nE) (nT 34 (.iconst 0, 1) nE nE)) (nT 39 (.iconst 0, 1) (nT 36 (.getfield 18, 3) nE nE) (nT 40 (.iconst 5, 1) nE nE))) (nT 49 (.aload_n 0, 1) (nT 45 (.getfield 21, 3) (nT 44 (.aload_n 1, 1) nE nE) (nT 48 (.iconst 0, 1) nE nE)) (nT 53 (.iconst 0, 1) (nT 50 (.getfield 21, 3) nE nE) (nT 54 (.iconst 5, 1) nE nE))))) (nT 85 (.getfield 37, 3) (nT 69 (.invokestatic 50, 3) (nT 63 (.aload_n 0, 1) (nT 59 (.getfield 24, 3) (nT 58 (.aload_n 1, 1) nE nE) (nT 62 (.iconst 0, 1) nE nE)) (nT 67 (.iconst 0, 1) (nT 64 (.getfield 24, 3) nE nE) (nT 68 (.iconst 5, 1) nE nE))) (nT 77 (.getfield 30, 3) (nT 73 (.getfield 30, 3) (nT 72 (.aload_n 0, 1) nE nE) (nT 76 (.aload_n 1, 1) nE nE)) (nT 83 (.aload_n 0, 1) (nT 80 (.invokevirtual 56, 3) nE nE) (nT 84 (.aload_n 1, 1) nE nE)))) (nT 101 (.getfield 44, 3) (nT 93 (.getfield 41, 3) (nT 91 (.aload_n 0, 1) (nT 88 (.putfield 37, 3) nE nE) (nT 92 (.aload_n 1, 1) nE nE)) (nT 99 (.aload_n 0, 1) (nT 96 (.putfield 41, 3) nE nE) (nT 100 (.aload_n 1, 1) nE nE))) (nT 109 (.getfield 47, 3) (nT 107 (.aload_n 0, 1) (nT 104 (.putfield 44, 3) nE nE) (nT 108 (.aload_n 1, 1) nE nE)) (nT 115 (.return_, 1) (nT 112 (.putfield 47, 3) nE nE) nE)))))
def i_X4_copyFrom : Nat → Option (Instr × Nat) := (nT 26 (.sipush 269, 3) (nT 13 (.invokestatic 33, 3) (nT 5 (.aload_n 0, 1) (nT 1 (.getfield 9, 3) (nT 0 (.aload_n 1, 1) nE nE) (nT 4 (.iconst 0, 1) nE nE)) (nT 9 (.iconst 0, 1) (nT 6 (.getfield 9, 3) nE nE) (nT 10 (.sipush 269, 3) nE nE))) (nT 21 (.aload_n 0, 1) (nT 17 (.getfield 13, 3) (nT 16 (.aload_n 1, 1) nE nE) (nT 20 (.iconst 0, 1) nE nE)) (nT 25 (.iconst 0, 1) (nT 22 (.getfield 13, 3) nE nE) nE))) (nT 42 (.getfield 26, 3) (nT 34 (.getfield 22, 3) (nT 32 (.aload_n 0, 1) (nT 29 (.invokestatic 33, 3) nE nE) (nT 33 (.aload_n 1, 1) nE nE)) (nT 40 (.aload_n 0, 1) (nT 37 (.putfield 22, 3) nE nE) (nT 41 (.aload_n 1, 1) nE nE))) (nT 50 (.getfield 29, 3) (nT 48 (.aload_n 0, 1) (nT 45 (.putfield 26, 3) nE nE) (nT 49 (.aload_n 1, 1) nE nE)) (nT 56 (.return_, 1) (nT 53 (.putfield 29, 3) nE nE) nE))))
def i_X8_readHouse : Nat → Option (Instr × Nat) := (nT 117 (.invokevirtual 53, 3) (nT 34 (.iconst 1, 1) (nT 17 (.aload_n 0, 1) (nT 8 (.iconst 0, 1) (nT 4 (.invokevirtual 30, 3) (nT 1 (.getfield 26, 3) (nT 0 (.aload_n 0, 1) nE nE) nE) (nT 7 (.aload_n 0, 1) nE nE)) (nT 13 (.iconst 0, 1) (nT 12 (.aload_n 0, 1) (nT 9 (.putfield 35, 3) nE nE) nE) (nT 14 (.putfield 39, 3) nE nE))) (nT 24 (.putfield 18, 3) (nT 22 (.aload_n 0, 1) (nT 19 (.putfield 42, 3) (nT 18 (.iconst 0, 1) nE nE) nE) (nT 23 (.iconst (-1), 1) nE nE)) (nT 28 (.getfield 22, 3) (nT 27 (.aload_n 0, 1) nE nE) (nT 31 (.invokevirtual 45, 3) nE nE)))) (nT 49 (.aload_n 0, 1) (nT 39 (.sipush 1600, 3) (nT 37 (.istore_n 2, 1) (nT 36 (.iconst 0, 1) (nT 35 (.istore_n 1, 1) nE nE) nE) (nT 38 (.iload_n 2, 1) nE nE)) (nT 45 (.iload_n 1, 1) (nT 42 (.if_icmp .ge 145, 3) nE nE) (nT 46 (.ifCond .eq 141, 3) nE nE))) (nT 60 (.getfield 22, 3) (nT 56 (.ifCond .eq 131, 3) (nT 53 (.getfield 50, 3) (nT 50 (.getfield 22, 3) nE nE) nE) (nT 59 (.aload_n 0, 1) nE nE)) (nT 66 (.tableswitch 90 128 136 #[50, 90, 90, 58, 90, 90, 66, 74, 82], 50) (nT 63 (.getfield 50, 3) nE nE) (nT 116 (.aload_n 0, 1) nE nE))))) (nT 156 (.aload_n 0, 1) (nT 137 (.goto 25, 3) (nT 128 (.istore_n 1, 1) (nT 124 (.aload_n 0, 1) (nT 121 (.goto 41, 3) (nT 120 (.istore_n 1, 1) nE nE) nE) (nT 125 (.invokevirtual 57, 3) nE nE)) (nT 133 (.invokevirtual 60, 3) (nT 132 (.aload_n 0, 1) (nT 129 (.goto 33, 3) nE nE) nE) (nT 136 (.istore_n 1, 1) nE nE))) (nT 148 (.aload_n 0, 1) (nT 144 (.istore_n 1, 1) (nT 141 (.invokevirtual 63, 3) (nT 140 (.aload_n 0, 1) nE nE) nE) (nT 145 (.goto 17, 3) nE nE)) (nT 152 (.istore_n 1, 1) (nT 149 (.invokevirtual 66, 3) nE nE) (nT 153 (.goto 9, 3) nE nE)))) (nT 172 (.ifCond .eq 7, 3) (nT 163 (.ifCond .eq 16, 3) (nT 161 (.istore_n 1, 1) (nT 158 (.invokevirtual 69, 3) (nT 157 (.iconst 2, 1) nE nE) nE) (nT 162 (.iload_n 1, 1) nE nE)) (nT 167 (.bipush 59, 2) (nT 166 (.aload_n 0, 1) nE nE) (nT 169 (.invokevirtual 73, 3) nE nE))) (nT 181 (.iinc 2 1, 3) (nT 179 (.iconst 0, 1) (nT 176 (.goto 4, 3) (nT 175 (.iconst 1, 1) nE nE) nE) (nT 180 (.istore_n 1, 1) nE nE)) (nT 187 (.iload_n 1, 1) (nT 184 (.goto (-146), 3) nE nE) (nT 188 (.ireturn, 1) nE nE))))))
def i_X8_readToken : Nat → Option (Instr × Nat) := (nT 13 (.invokevirtual 69, 3) (nT 7 (.iload_n 1, 1) (nT 1 (.getfield 22, 3) (nT 0 (.aload_n 0, 1) nE nE) (nT 4 (.getfield 50, 3) nE nE)) (nT 11 (.aload_n 0, 1) (nT 8 (.if_icmp .eq 9, 3) nE nE) (nT 12 (.iconst 2, 1) nE nE))) (nT 21 (.invokevirtual 82, 3) (nT 17 (.aload_n 0, 1) (nT 16 (.ireturn, 1) nE nE) (nT 18 (.getfield 22, 3) nE nE)) (nT 25 (.ireturn, 1) (nT 24 (.iconst 1, 1) nE nE) nE)))
def i_X9_advance : Nat → Option (Instr × Nat) := (nT 68 (.getfield 19, 3) (nT 37 (.aload_n 0, 1) (nT 16 (.invokevirtual 25, 3) (nT 8 (.if_icmp .ge 42, 3) (nT 4 (.aload_n 0, 1) (nT 1 (.getfield 19, 3) (nT 0 (.aload_n 0, 1) nE nE) nE) (nT 5 (.getfield 15, 3) nE nE)) (nT 12 (.aload_n 0, 1) (nT 11 (.aload_n 0, 1) nE nE) (nT 13 (.getfield 19, 3) nE nE))) (nT 26 (.getfield 19, 3) (nT 24 (.aload_n 0, 1) (nT 21 (.if_icmp .eq 16, 3) (nT 19 (.bipush 32, 2) nE nE) nE) (nT 25 (.aload_n 0, 1) nE nE)) (nT 32 (.bipush 10, 2) (nT 29 (.invokevirtual 25, 3) nE nE) (nT 34 (.if_icmp .ne 16, 3) nE nE)))) (nT 52 (.getfield 19, 3) (nT 44 (.putfield 19, 3) (nT 42 (.iconst 1, 1) (nT 39 (.getfield 19, 3) (nT 38 (.dup, 1) nE nE) nE) (nT 43 (.iadd, 1) nE nE)) (nT 50 (.aload_n 0, 1) (nT 47 (.goto (-47), 3) nE nE) (nT 51 (.aload_n 0, 1) nE nE))) (nT 60 (.getfield 19, 3) (nT 58 (.aload_n 0, 1) (nT 55 (.putfield 29, 3) nE nE) (nT 59 (.aload_n 0, 1) nE nE)) (nT 66 (.istore_n 1, 1) (nT 63 (.invokevirtual 25, 3) nE nE) (nT 67 (.aload_n 0, 1) nE nE))))) (nT 108 (.invokevirtual 45, 3) (nT 87 (.invokestatic 35, 3) (nT 79 (.iconst 0, 1) (nT 75 (.if_icmp .lt 11, 3) (nT 72 (.getfield 15, 3) (nT 71 (.aload_n 0, 1) nE nE) nE) (nT 78 (.aload_n 0, 1) nE nE)) (nT 83 (.goto 57, 3) (nT 80 (.putfield 32, 3) nE nE) (nT 86 (.iload_n 1, 1) nE nE))) (nT 100 (.iload_n 1, 1) (nT 94 (.invokevirtual 39, 3) (nT 93 (.aload_n 0, 1) (nT 90 (.ifCond .eq 10, 3) nE nE) nE) (nT 97 (.goto 43, 3) nE nE)) (nT 104 (.ifCond .eq 10, 3) (nT 101 (.invokestatic 42, 3) nE nE) (nT 107 (.aload_n 0, 1) nE nE)))) (nT 127 (.putfield 32, 3) (nT 119 (.ifCond .eq 7, 3) (nT 115 (.iload_n 1, 1) (nT 114 (.aload_n 0, 1) (nT 111 (.goto 29, 3) nE nE) nE) (nT 116 (.invokestatic 48, 3) nE nE)) (nT 123 (.goto 4, 3) (nT 122 (.iload_n 1, 1) nE nE) (nT 126 (.iconst 1, 1) nE nE))) (nT 135 (.iconst 1, 1) (nT 131 (.dup, 1) (nT 130 (.aload_n 0, 1) nE nE) (nT 132 (.getfield 19, 3) nE nE)) (nT 137 (.putfield 19, 3) (nT 136 (.iadd, 1) nE nE) (nT 140 (.return_, 1) nE nE))))))
def i_X9_isSign : Nat → Option (Instr × Nat) := (nT 121 (.ireturn, 1) (nT 1 (.tableswitch 121 37 62 #[119, 121, 121, 119, 119, 119, 119, 121, 119, 121, 119, 121, 121, 121, 121, 121, 121, 121, 121, 121, 121, 121, 119, 119, 119, 119], 119) (nT 0 (.iload_n 0, 1) nE nE) (nT 120 (.iconst 1, 1) nE nE)) (nT 123 (.ireturn, 1) (nT 122 (.iconst 0, 1) nE nE) nE))
def i_X9_takeNumber : Nat → Option (Instr × Nat) := (nT 55 (.getfield 19, 3) (nT 30 (.aload_n 0, 1) (nT 13 (.if_icmp .ge 53, 3) (nT 5 (.aload_n 0, 1) (nT 1 (.iconst 0, 1) (nT 0 (.aload_n 0, 1) nE nE) (nT 2 (.putfield 72, 3) nE nE)) (nT 9 (.aload_n 0, 1) (nT 6 (.getfield 19, 3) nE nE) (nT 10 (.getfield 15, 3) nE nE))) (nT 21 (.invokevirtual 25, 3) (nT 17 (.aload_n 0, 1) (nT 16 (.aload_n 0, 1) nE nE) (nT 18 (.getfield 19, 3) nE nE)) (nT 27 (.ifCond .eq 39, 3) (nT 24 (.invokestatic 42, 3) nE nE) nE))) (nT 43 (.invokevirtual 25, 3) (nT 37 (.imul, 1) (nT 32 (.getfield 72, 3) (nT 31 (.aload_n 0, 1) nE nE) (nT 35 (.bipush 10, 2) nE nE)) (nT 39 (.aload_n 0, 1) (nT 38 (.aload_n 0, 1) nE nE) (nT 40 (.getfield 19, 3) nE nE))) (nT 50 (.putfield 72, 3) (nT 48 (.isub, 1) (nT 46 (.bipush 48, 2) nE nE) (nT 49 (.iadd, 1) nE nE)) (nT 54 (.dup, 1) (nT 53 (.aload_n 0, 1) nE nE) nE)))) (nT 84 (.istore_n 1, 1) (nT 71 (.getfield 29, 3) (nT 63 (.goto (-58), 3) (nT 59 (.iadd, 1) (nT 58 (.iconst 1, 1) nE nE) (nT 60 (.putfield 19, 3) nE nE)) (nT 67 (.getfield 19, 3) (nT 66 (.aload_n 0, 1) nE nE) (nT 70 (.aload_n 0, 1) nE nE))) (nT 79 (.iconst 1, 1) (nT 75 (.iconst 4, 1) (nT 74 (.isub, 1) nE nE) (nT 76 (.if_icmp .le 7, 3) nE nE)) (nT 83 (.iconst 0, 1) (nT 80 (.goto 4, 3) nE nE) nE))) (nT 98 (.invokestatic 35, 3) (nT 90 (.aload_n 0, 1) (nT 86 (.iload_n 1, 1) (nT 85 (.aload_n 0, 1) nE nE) (nT 87 (.ifCond .ne 17, 3) nE nE)) (nT 92 (.getfield 19, 3) (nT 91 (.aload_n 0, 1) nE nE) (nT 95 (.invokevirtual 25, 3) nE nE))) (nT 108 (.iconst 3, 1) (nT 104 (.iconst 1, 1) (nT 101 (.ifCond .eq 7, 3) nE nE) (nT 105 (.goto 4, 3) nE nE)) (nT 112 (.return_, 1) (nT 109 (.putfield 32, 3) nE nE) nE)))))
def i_X9_isLetter : Nat → Option (Instr × Nat) := (nT 9 (.if_icmp .gt 7, 3) (nT 3 (.if_icmp .lt 13, 3) (nT 1 (.bipush 97, 2) (nT 0 (.iload_n 0, 1) nE nE) nE) (nT 7 (.bipush 122, 2) (nT 6 (.iload_n 0, 1) nE nE) nE)) (nT 16 (.iconst 0, 1) (nT 13 (.goto 4, 3) (nT 12 (.iconst 1, 1) nE nE) nE) (nT 17 (.ireturn, 1) nE nE)))
def i_X9_byteAt : Nat → Option (Instr × Nat) := (nT 16 (.if_icmp .ge 12, 3) (nT 6 (.getfield 15, 3) (nT 4 (.iload_n 1, 1) (nT 1 (.ifCond .lt 27, 3) (nT 0 (.iload_n 1, 1) nE nE) nE) (nT 5 (.aload_n 0, 1) nE nE)) (nT 12 (.iload_n 1, 1) (nT 9 (.if_icmp .ge 19, 3) nE nE) (nT 13 (.sipush 1600, 3) nE nE))) (nT 24 (.baload, 1) (nT 20 (.getfield 11, 3) (nT 19 (.aload_n 0, 1) nE nE) (nT 23 (.iload_n 1, 1) nE nE)) (nT 28 (.iconst 0, 1) (nT 25 (.goto 4, 3) nE nE) (nT 29 (.ireturn, 1) nE nE))))
def i_X9_isDigit : Nat → Option (Instr × Nat) := (nT 9 (.if_icmp .gt 7, 3) (nT 3 (.if_icmp .lt 13, 3) (nT 1 (.bipush 48, 2) (nT 0 (.iload_n 0, 1) nE nE) nE) (nT 7 (.bipush 57, 2) (nT 6 (.iload_n 0, 1) nE nE) nE)) (nT 16 (.iconst 0, 1) (nT 13 (.goto 4, 3) (nT 12 (.iconst 1, 1) nE nE) nE) (nT 17 (.ireturn, 1) nE nE)))
def i_X9_takeWord : Nat → Option (Instr × Nat) := (nT 51 (.iadd, 1) (nT 27 (.ifCond .eq 43, 3) (nT 10 (.getfield 15, 3) (nT 5 (.aload_n 0, 1) (nT 1 (.lconst 0, 1) (nT 0 (.aload_n 0, 1) nE nE) (nT 2 (.putfield 51, 3) nE nE)) (nT 9 (.aload_n 0, 1) (nT 6 (.getfield 19, 3) nE nE) nE)) (nT 18 (.getfield 19, 3) (nT 16 (.aload_n 0, 1) (nT 13 (.if_icmp .ge 57, 3) nE nE) (nT 17 (.aload_n 0, 1) nE nE)) (nT 24 (.invokestatic 35, 3) (nT 21 (.invokevirtual 25, 3) nE nE) nE))) (nT 40 (.aload_n 0, 1) (nT 35 (.ldc2_w 55, 3) (nT 31 (.aload_n 0, 1) (nT 30 (.aload_n 0, 1) nE nE) (nT 32 (.getfield 51, 3) nE nE)) (nT 39 (.aload_n 0, 1) (nT 38 (.lmul, 1) nE nE) nE)) (nT 47 (.bipush 97, 2) (nT 44 (.invokevirtual 25, 3) (nT 41 (.getfield 19, 3) nE nE) nE) (nT 50 (.iconst 1, 1) (nT 49 (.isub, 1) nE nE) nE)))) (nT 72 (.getfield 19, 3) (nT 62 (.iconst 1, 1) (nT 57 (.aload_n 0, 1) (nT 53 (.ladd, 1) (nT 52 (.i2l, 1) nE nE) (nT 54 (.putfield 51, 3) nE nE)) (nT 59 (.getfield 19, 3) (nT 58 (.dup, 1) nE nE) nE)) (nT 67 (.goto (-62), 3) (nT 64 (.putfield 19, 3) (nT 63 (.iadd, 1) nE nE) nE) (nT 71 (.aload_n 0, 1) (nT 70 (.aload_n 0, 1) nE nE) nE))) (nT 86 (.goto 10, 3) (nT 80 (.bipush 8, 2) (nT 76 (.getfield 29, 3) (nT 75 (.aload_n 0, 1) nE nE) (nT 79 (.isub, 1) nE nE)) (nT 85 (.iconst 1, 1) (nT 82 (.if_icmp .le 7, 3) nE nE) nE)) (nT 93 (.invokestatic 57, 3) (nT 90 (.getfield 51, 3) (nT 89 (.aload_n 0, 1) nE nE) nE) (nT 99 (.return_, 1) (nT 96 (.putfield 32, 3) nE nE) nE)))))
def i_X9_tokenOf : Nat → Option (Instr × Nat) := (nT 43 (.bipush 97, 2) (nT 19 (.ldc 61, 2) (nT 7 (.istore 5, 2) (nT 4 (.lconst 0, 1) (nT 3 (.istore_n 2, 1) (nT 0 (.sipush 128, 3) nE nE) nE) (nT 6 (.iconst 0, 1) (nT 5 (.lstore_n 3, 1) nE nE) nE)) (nT 13 (.invokevirtual 63, 3) (nT 11 (.ldc 61, 2) (nT 9 (.iload 5, 2) nE nE) nE) (nT 16 (.if_icmp .ge 57, 3) nE nE))) (nT 32 (.ldc2_w 55, 3) (nT 26 (.bipush 32, 2) (nT 23 (.invokevirtual 68, 3) (nT 21 (.iload 5, 2) nE nE) nE) (nT 31 (.lload_n 3, 1) (nT 28 (.if_icmp .eq 26, 3) nE nE) nE)) (nT 38 (.iload 5, 2) (nT 36 (.ldc 61, 2) (nT 35 (.lmul, 1) nE nE) nE) (nT 40 (.invokevirtual 68, 3) nE nE)))) (nT 57 (.ifCond .ne 5, 3) (nT 50 (.lstore_n 3, 1) (nT 47 (.iadd, 1) (nT 46 (.iconst 1, 1) (nT 45 (.isub, 1) nE nE) nE) (nT 49 (.ladd, 1) (nT 48 (.i2l, 1) nE nE) nE)) (nT 55 (.lload_n 0, 1) (nT 54 (.lload_n 3, 1) (nT 51 (.goto 16, 3) nE nE) nE) (nT 56 (.lcmp, 1) nE nE))) (nT 66 (.lstore_n 3, 1) (nT 62 (.iinc 2 1, 3) (nT 61 (.ireturn, 1) (nT 60 (.iload_n 2, 1) nE nE) nE) (nT 65 (.lconst 0, 1) nE nE)) (nT 73 (.iconst 2, 1) (nT 70 (.goto (-61), 3) (nT 67 (.iinc 5 1, 3) nE nE) nE) (nT 74 (.ireturn, 1) nE nE)))))
def i_X8_refuse : Nat → Option (Instr × Nat) := (nT 16 (.iload_n 1, 1) (nT 8 (.iconst 1, 1) (nT 2 (.getfield 22, 3) (nT 1 (.aload_n 0, 1) (nT 0 (.aload_n 0, 1) nE nE) nE) (nT 5 (.getfield 50, 3) nE nE)) (nT 12 (.iconst 1, 1) (nT 9 (.if_icmp .ne 7, 3) nE nE) (nT 13 (.goto 4, 3) nE nE))) (nT 25 (.getfield 76, 3) (nT 21 (.aload_n 0, 1) (nT 20 (.aload_n 0, 1) (nT 17 (.putfield 42, 3) nE nE) nE) (nT 22 (.getfield 22, 3) nE nE)) (nT 31 (.iconst 0, 1) (nT 28 (.putfield 18, 3) nE nE) (nT 32 (.ireturn, 1) nE nE))))
def i_X8_readDraw : Nat → Option (Instr × Nat) := (nT 22 (.iconst 0, 1) (nT 12 (.ireturn, 1) (nT 7 (.aload_n 0, 1) (nT 1 (.getfield 39, 3) (nT 0 (.aload_n 0, 1) nE nE) (nT 4 (.ifCond .eq 9, 3) nE nE)) (nT 9 (.invokevirtual 69, 3) (nT 8 (.iconst 2, 1) nE nE) nE)) (nT 15 (.putfield 39, 3) (nT 14 (.iconst 1, 1) (nT 13 (.aload_n 0, 1) nE nE) nE) (nT 19 (.sipush 136, 3) (nT 18 (.aload_n 0, 1) nE nE) nE))) (nT 35 (.getfield 26, 3) (nT 32 (.iconst 0, 1) (nT 26 (.invokevirtual 89, 3) (nT 23 (.sipush 999, 3) nE nE) (nT 29 (.ifCond .ne 5, 3) nE nE)) (nT 34 (.aload_n 0, 1) (nT 33 (.ireturn, 1) nE nE) nE)) (nT 42 (.putfield 130, 3) (nT 39 (.getfield 97, 3) (nT 38 (.aload_n 0, 1) nE nE) nE) (nT 46 (.ireturn, 1) (nT 45 (.iconst 1, 1) nE nE) nE))))
def i_X8_readPart : Nat → Option (Instr × Nat) := (nT 42 (.getfield 22, 3) (nT 21 (.invokevirtual 82, 3) (nT 11 (.aload_n 0, 1) (nT 4 (.getfield 50, 3) (nT 1 (.getfield 22, 3) (nT 0 (.aload_n 0, 1) nE nE) nE) (nT 8 (.if_icmp .eq 9, 3) (nT 7 (.iload_n 1, 1) nE nE) nE)) (nT 16 (.ireturn, 1) (nT 13 (.invokevirtual 69, 3) (nT 12 (.iconst 2, 1) nE nE) nE) (nT 18 (.getfield 22, 3) (nT 17 (.aload_n 0, 1) nE nE) nE))) (nT 35 (.aload_n 0, 1) (nT 28 (.getfield 50, 3) (nT 25 (.getfield 22, 3) (nT 24 (.aload_n 0, 1) nE nE) nE) (nT 32 (.if_icmp .eq 9, 3) (nT 31 (.iconst 3, 1) nE nE) nE)) (nT 40 (.ireturn, 1) (nT 37 (.invokevirtual 69, 3) (nT 36 (.iconst 2, 1) nE nE) nE) (nT 41 (.aload_n 0, 1) nE nE)))) (nT 68 (.ireturn, 1) (nT 56 (.getfield 137, 3) (nT 49 (.if_icmp .lt 14, 3) (nT 48 (.iload_n 2, 1) (nT 45 (.getfield 137, 3) nE nE) nE) (nT 53 (.getfield 22, 3) (nT 52 (.aload_n 0, 1) nE nE) nE)) (nT 63 (.aload_n 0, 1) (nT 60 (.if_icmp .le 9, 3) (nT 59 (.iload_n 3, 1) nE nE) nE) (nT 65 (.invokevirtual 69, 3) (nT 64 (.iconst 4, 1) nE nE) nE))) (nT 80 (.aload_n 0, 1) (nT 71 (.getfield 22, 3) (nT 70 (.aload_n 0, 1) (nT 69 (.aload_n 0, 1) nE nE) nE) (nT 77 (.putfield 97, 3) (nT 74 (.getfield 137, 3) nE nE) nE)) (nT 87 (.iconst 1, 1) (nT 84 (.invokevirtual 82, 3) (nT 81 (.getfield 22, 3) nE nE) nE) (nT 88 (.ireturn, 1) nE nE)))))
def i_X8_readYawn : Nat → Option (Instr × Nat) := (nT 22 (.iconst 0, 1) (nT 12 (.ireturn, 1) (nT 7 (.aload_n 0, 1) (nT 1 (.getfield 35, 3) (nT 0 (.aload_n 0, 1) nE nE) (nT 4 (.ifCond .eq 9, 3) nE nE)) (nT 9 (.invokevirtual 69, 3) (nT 8 (.iconst 2, 1) nE nE) nE)) (nT 15 (.putfield 35, 3) (nT 14 (.iconst 1, 1) (nT 13 (.aload_n 0, 1) nE nE) nE) (nT 19 (.sipush 135, 3) (nT 18 (.aload_n 0, 1) nE nE) nE))) (nT 34 (.getfield 26, 3) (nT 31 (.iconst 0, 1) (nT 25 (.invokevirtual 89, 3) (nT 23 (.bipush 100, 2) nE nE) (nT 28 (.ifCond .ne 5, 3) nE nE)) (nT 33 (.aload_n 0, 1) (nT 32 (.ireturn, 1) nE nE) nE)) (nT 41 (.putfield 127, 3) (nT 38 (.getfield 97, 3) (nT 37 (.aload_n 0, 1) nE nE) nE) (nT 45 (.ireturn, 1) (nT 44 (.iconst 1, 1) nE nE) nE))))
def i_X8_readFade : Nat → Option (Instr × Nat) := (nT 20 (.getfield 26, 3) (nT 13 (.aload_n 0, 1) (nT 4 (.getfield 115, 3) (nT 1 (.getfield 26, 3) (nT 0 (.aload_n 0, 1) nE nE) nE) (nT 10 (.ifCond .eq 9, 3) (nT 7 (.getfield 119, 3) nE nE) nE)) (nT 18 (.ireturn, 1) (nT 15 (.invokevirtual 69, 3) (nT 14 (.iconst 2, 1) nE nE) nE) (nT 19 (.aload_n 0, 1) nE nE))) (nT 34 (.invokevirtual 82, 3) (nT 27 (.putfield 119, 3) (nT 26 (.iconst 1, 1) (nT 23 (.getfield 115, 3) nE nE) nE) (nT 31 (.getfield 22, 3) (nT 30 (.aload_n 0, 1) nE nE) nE)) (nT 39 (.invokevirtual 124, 3) (nT 38 (.iconst 0, 1) (nT 37 (.aload_n 0, 1) nE nE) nE) (nT 42 (.ireturn, 1) nE nE))))
def i_X8_readEither : Nat → Option (Instr × Nat) := (nT 33 (.getfield 22, 3) (nT 12 (.if_icmp .ge 57, 3) (nT 6 (.iconst 0, 1) (nT 2 (.invokevirtual 144, 3) (nT 1 (.iload_n 1, 1) (nT 0 (.aload_n 0, 1) nE nE) nE) (nT 5 (.istore_n 2, 1) nE nE)) (nT 8 (.iload_n 3, 1) (nT 7 (.istore_n 3, 1) nE nE) (nT 9 (.sipush 1600, 3) nE nE))) (nT 23 (.getfield 50, 3) (nT 19 (.aload_n 0, 1) (nT 16 (.ifCond .eq 53, 3) (nT 15 (.iload_n 2, 1) nE nE) nE) (nT 20 (.getfield 22, 3) nE nE)) (nT 29 (.if_icmp .ne 40, 3) (nT 26 (.sipush 137, 3) nE nE) (nT 32 (.aload_n 0, 1) nE nE)))) (nT 54 (.ifCond .eq 7, 3) (nT 44 (.ifCond .eq 17, 3) (nT 40 (.iload_n 1, 1) (nT 39 (.aload_n 0, 1) (nT 36 (.invokevirtual 82, 3) nE nE) nE) (nT 41 (.invokevirtual 144, 3) nE nE)) (nT 48 (.sipush 137, 3) (nT 47 (.aload_n 0, 1) nE nE) (nT 51 (.invokevirtual 147, 3) nE nE))) (nT 63 (.iinc 3 1, 3) (nT 61 (.iconst 0, 1) (nT 58 (.goto 4, 3) (nT 57 (.iconst 1, 1) nE nE) nE) (nT 62 (.istore_n 2, 1) nE nE)) (nT 69 (.iload_n 2, 1) (nT 66 (.goto (-58), 3) nE nE) (nT 70 (.ireturn, 1) nE nE)))))
def i_X8_write : Nat → Option (Instr × Nat) := (nT 18 (.ifCond .ne 11, 3) (nT 8 (.aload_n 0, 1) (nT 4 (.getfield 115, 3) (nT 1 (.getfield 26, 3) (nT 0 (.aload_n 0, 1) nE nE) nE) (nT 7 (.iload_n 1, 1) nE nE)) (nT 12 (.getfield 137, 3) (nT 9 (.getfield 22, 3) nE nE) (nT 15 (.invokevirtual 140, 3) nE nE))) (nT 29 (.iconst 1, 1) (nT 23 (.invokevirtual 69, 3) (nT 22 (.iconst 2, 1) (nT 21 (.aload_n 0, 1) nE nE) nE) (nT 26 (.ifCond .eq 7, 3) nE nE)) (nT 33 (.iconst 0, 1) (nT 30 (.goto 4, 3) nE nE) (nT 34 (.ireturn, 1) nE nE))))
def i_X4_append : Nat → Option (Instr × Nat) := (nT 28 (.iastore, 1) (nT 17 (.iconst 0, 1) (nT 7 (.aload_n 0, 1) (nT 1 (.getfield 22, 3) (nT 0 (.aload_n 0, 1) nE nE) (nT 4 (.ifCond .lt 13, 3) nE nE)) (nT 11 (.sipush 269, 3) (nT 8 (.getfield 22, 3) nE nE) (nT 14 (.if_icmp .lt 5, 3) nE nE))) (nT 23 (.aload_n 0, 1) (nT 19 (.aload_n 0, 1) (nT 18 (.ireturn, 1) nE nE) (nT 20 (.getfield 9, 3) nE nE)) (nT 27 (.iload_n 1, 1) (nT 24 (.getfield 22, 3) nE nE) nE))) (nT 40 (.dup, 1) (nT 34 (.getfield 22, 3) (nT 30 (.getfield 13, 3) (nT 29 (.aload_n 0, 1) nE nE) (nT 33 (.aload_n 0, 1) nE nE)) (nT 38 (.iastore, 1) (nT 37 (.iload_n 2, 1) nE nE) (nT 39 (.aload_n 0, 1) nE nE))) (nT 46 (.putfield 22, 3) (nT 44 (.iconst 1, 1) (nT 41 (.getfield 22, 3) nE nE) (nT 45 (.iadd, 1) nE nE)) (nT 50 (.ireturn, 1) (nT 49 (.iconst 1, 1) nE nE) nE))))
def i_X8_readBoth : Nat → Option (Instr × Nat) := (nT 33 (.getfield 22, 3) (nT 12 (.if_icmp .ge 57, 3) (nT 6 (.iconst 0, 1) (nT 2 (.invokevirtual 150, 3) (nT 1 (.iload_n 1, 1) (nT 0 (.aload_n 0, 1) nE nE) nE) (nT 5 (.istore_n 2, 1) nE nE)) (nT 8 (.iload_n 3, 1) (nT 7 (.istore_n 3, 1) nE nE) (nT 9 (.sipush 1600, 3) nE nE))) (nT 23 (.getfield 50, 3) (nT 19 (.aload_n 0, 1) (nT 16 (.ifCond .eq 53, 3) (nT 15 (.iload_n 2, 1) nE nE) nE) (nT 20 (.getfield 22, 3) nE nE)) (nT 29 (.if_icmp .ne 40, 3) (nT 26 (.sipush 138, 3) nE nE) (nT 32 (.aload_n 0, 1) nE nE)))) (nT 54 (.ifCond .eq 7, 3) (nT 44 (.ifCond .eq 17, 3) (nT 40 (.iload_n 1, 1) (nT 39 (.aload_n 0, 1) (nT 36 (.invokevirtual 82, 3) nE nE) nE) (nT 41 (.invokevirtual 150, 3) nE nE)) (nT 48 (.sipush 138, 3) (nT 47 (.aload_n 0, 1) nE nE) (nT 51 (.invokevirtual 147, 3) nE nE))) (nT 63 (.iinc 3 1, 3) (nT 61 (.iconst 0, 1) (nT 58 (.goto 4, 3) (nT 57 (.iconst 1, 1) nE nE) nE) (nT 62 (.istore_n 2, 1) nE nE)) (nT 69 (.iload_n 2, 1) (nT 66 (.goto (-58), 3) nE nE) (nT 70 (.ireturn, 1) nE nE)))))
def i_X8_readOne : Nat → Option (Instr × Nat) := (nT 63 (.istore_n 2, 1) (nT 33 (.iload_n 1, 1) (nT 19 (.aload_n 0, 1) (nT 10 (.if_icmp .ne 48, 3) (nT 4 (.getfield 50, 3) (nT 1 (.getfield 22, 3) (nT 0 (.aload_n 0, 1) nE nE) nE) (nT 7 (.sipush 139, 3) nE nE)) (nT 14 (.bipush 6, 2) (nT 13 (.iload_n 1, 1) nE nE) (nT 16 (.if_icmp .le 9, 3) nE nE))) (nT 25 (.aload_n 0, 1) (nT 21 (.invokevirtual 69, 3) (nT 20 (.iconst 2, 1) nE nE) (nT 24 (.ireturn, 1) nE nE)) (nT 29 (.invokevirtual 82, 3) (nT 26 (.getfield 22, 3) nE nE) (nT 32 (.aload_n 0, 1) nE nE)))) (nT 49 (.ifCond .eq 7, 3) (nT 39 (.ifCond .eq 17, 3) (nT 35 (.iadd, 1) (nT 34 (.iconst 1, 1) nE nE) (nT 36 (.invokevirtual 150, 3) nE nE)) (nT 43 (.sipush 139, 3) (nT 42 (.aload_n 0, 1) nE nE) (nT 46 (.invokevirtual 147, 3) nE nE))) (nT 57 (.ireturn, 1) (nT 53 (.goto 4, 3) (nT 52 (.iconst 1, 1) nE nE) (nT 56 (.iconst 0, 1) nE nE)) (nT 59 (.iload_n 1, 1) (nT 58 (.aload_n 0, 1) nE nE) (nT 60 (.invokevirtual 153, 3) nE nE))))) (nT 95 (.getfield 22, 3) (nT 79 (.if_icmp .eq 15, 3) (nT 72 (.iload_n 2, 1) (nT 68 (.getfield 50, 3) (nT 65 (.getfield 22, 3) (nT 64 (.aload_n 0, 1) nE nE) nE) (nT 71 (.istore_n 3, 1) nE nE)) (nT 76 (.iload_n 3, 1) (nT 73 (.ifCond .eq 50, 3) nE nE) (nT 77 (.bipush 60, 2) nE nE))) (nT 88 (.iload_n 3, 1) (nT 83 (.bipush 62, 2) (nT 82 (.iload_n 3, 1) nE nE) (nT 85 (.if_icmp .eq 9, 3) nE nE)) (nT 91 (.if_icmp .ne 32, 3) (nT 89 (.bipush 61, 2) nE nE) (nT 94 (.aload_n 0, 1) nE nE)))) (nT 111 (.invokevirtual 147, 3) (nT 103 (.invokevirtual 153, 3) (nT 101 (.aload_n 0, 1) (nT 98 (.invokevirtual 82, 3) nE nE) (nT 102 (.iload_n 1, 1) nE nE)) (nT 109 (.aload_n 0, 1) (nT 106 (.ifCond .eq 15, 3) nE nE) (nT 110 (.iload_n 3, 1) nE nE))) (nT 121 (.iconst 0, 1) (nT 117 (.iconst 1, 1) (nT 114 (.ifCond .eq 7, 3) nE nE) (nT 118 (.goto 4, 3) nE nE)) (nT 123 (.iload_n 2, 1) (nT 122 (.istore_n 2, 1) nE nE) (nT 124 (.ireturn, 1) nE nE))))))
def i_X8_readSum : Nat → Option (Instr × Nat) := (nT 39 (.if_icmp .eq 6, 3) (nT 16 (.ifCond .eq 65, 3) (nT 7 (.istore_n 3, 1) (nT 2 (.invokevirtual 156, 3) (nT 1 (.iload_n 1, 1) (nT 0 (.aload_n 0, 1) nE nE) nE) (nT 6 (.iconst 0, 1) (nT 5 (.istore_n 2, 1) nE nE) nE)) (nT 12 (.if_icmp .ge 69, 3) (nT 9 (.sipush 1600, 3) (nT 8 (.iload_n 3, 1) nE nE) nE) (nT 15 (.iload_n 2, 1) nE nE))) (nT 28 (.iload 4, 2) (nT 23 (.getfield 50, 3) (nT 20 (.getfield 22, 3) (nT 19 (.aload_n 0, 1) nE nE) nE) (nT 26 (.istore 4, 2) nE nE)) (nT 35 (.iload 4, 2) (nT 32 (.if_icmp .eq 13, 3) (nT 30 (.bipush 43, 2) nE nE) nE) (nT 37 (.bipush 45, 2) nE nE)))) (nT 63 (.invokevirtual 147, 3) (nT 53 (.iload_n 1, 1) (nT 46 (.getfield 22, 3) (nT 45 (.aload_n 0, 1) (nT 42 (.goto 39, 3) nE nE) nE) (nT 52 (.aload_n 0, 1) (nT 49 (.invokevirtual 82, 3) nE nE) nE)) (nT 60 (.aload_n 0, 1) (nT 57 (.ifCond .eq 16, 3) (nT 54 (.invokevirtual 156, 3) nE nE) nE) (nT 61 (.iload 4, 2) nE nE))) (nT 74 (.istore_n 2, 1) (nT 70 (.goto 4, 3) (nT 69 (.iconst 1, 1) (nT 66 (.ifCond .eq 7, 3) nE nE) nE) (nT 73 (.iconst 0, 1) nE nE)) (nT 81 (.iload_n 2, 1) (nT 78 (.goto (-70), 3) (nT 75 (.iinc 3 1, 3) nE nE) nE) (nT 82 (.ireturn, 1) nE nE)))))
def i_X8_readTerm : Nat → Option (Instr × Nat) := (nT 44 (.bipush 37, 2) (nT 19 (.aload_n 0, 1) (nT 7 (.istore_n 3, 1) (nT 2 (.invokevirtual 159, 3) (nT 1 (.iload_n 1, 1) (nT 0 (.aload_n 0, 1) nE nE) nE) (nT 6 (.iconst 0, 1) (nT 5 (.istore_n 2, 1) nE nE) nE)) (nT 12 (.if_icmp .ge 76, 3) (nT 9 (.sipush 1600, 3) (nT 8 (.iload_n 3, 1) nE nE) nE) (nT 16 (.ifCond .eq 72, 3) (nT 15 (.iload_n 2, 1) nE nE) nE))) (nT 32 (.if_icmp .eq 20, 3) (nT 26 (.istore 4, 2) (nT 23 (.getfield 50, 3) (nT 20 (.getfield 22, 3) nE nE) nE) (nT 30 (.bipush 42, 2) (nT 28 (.iload 4, 2) nE nE) nE)) (nT 39 (.if_icmp .eq 13, 3) (nT 37 (.bipush 47, 2) (nT 35 (.iload 4, 2) nE nE) nE) (nT 42 (.iload 4, 2) nE nE)))) (nT 68 (.iload 4, 2) (nT 59 (.aload_n 0, 1) (nT 52 (.aload_n 0, 1) (nT 49 (.goto 39, 3) (nT 46 (.if_icmp .eq 6, 3) nE nE) nE) (nT 56 (.invokevirtual 82, 3) (nT 53 (.getfield 22, 3) nE nE) nE)) (nT 64 (.ifCond .eq 16, 3) (nT 61 (.invokevirtual 159, 3) (nT 60 (.iload_n 1, 1) nE nE) nE) (nT 67 (.aload_n 0, 1) nE nE))) (nT 81 (.istore_n 2, 1) (nT 76 (.iconst 1, 1) (nT 73 (.ifCond .eq 7, 3) (nT 70 (.invokevirtual 147, 3) nE nE) nE) (nT 80 (.iconst 0, 1) (nT 77 (.goto 4, 3) nE nE) nE)) (nT 88 (.iload_n 2, 1) (nT 85 (.goto (-77), 3) (nT 82 (.iinc 3 1, 3) nE nE) nE) (nT 89 (.ireturn, 1) nE nE)))))
def i_X8_readUnit : Nat → Option (Instr × Nat) := (nT 83 (.bipush 30, 2) (nT 38 (.goto 4, 3) (nT 22 (.iconst 1, 1) (nT 9 (.sipush 140, 3) (nT 4 (.getfield 50, 3) (nT 1 (.getfield 22, 3) (nT 0 (.aload_n 0, 1) nE nE) nE) (nT 8 (.iload_n 2, 1) (nT 7 (.istore_n 2, 1) nE nE) nE)) (nT 16 (.sipush 145, 3) (nT 15 (.iload_n 2, 1) (nT 12 (.if_icmp .lt 14, 3) nE nE) nE) (nT 19 (.if_icmp .gt 7, 3) nE nE))) (nT 29 (.iconst 3, 1) (nT 27 (.istore_n 3, 1) (nT 26 (.iconst 0, 1) (nT 23 (.goto 4, 3) nE nE) nE) (nT 28 (.iload_n 2, 1) nE nE)) (nT 34 (.ifCond .eq 7, 3) (nT 33 (.iload_n 3, 1) (nT 30 (.if_icmp .eq 7, 3) nE nE) nE) (nT 37 (.iconst 1, 1) nE nE)))) (nT 60 (.iconst 0, 1) (nT 50 (.iload_n 1, 1) (nT 44 (.iload_n 2, 1) (nT 42 (.istore 4, 2) (nT 41 (.iconst 0, 1) nE nE) nE) (nT 47 (.if_icmp .ne 13, 3) (nT 45 (.bipush 40, 2) nE nE) nE)) (nT 56 (.iconst 1, 1) (nT 53 (.if_icmp .gt 7, 3) (nT 51 (.bipush 6, 2) nE nE) nE) (nT 57 (.goto 4, 3) nE nE))) (nT 70 (.ifCond .eq 18, 3) (nT 65 (.ifCond .ne 8, 3) (nT 63 (.iload 4, 2) (nT 61 (.istore 5, 2) nE nE) nE) (nT 68 (.iload 5, 2) nE nE)) (nT 77 (.getfield 115, 3) (nT 74 (.getfield 26, 3) (nT 73 (.aload_n 0, 1) nE nE) nE) (nT 80 (.getfield 162, 3) nE nE))))) (nT 124 (.ireturn, 1) (nT 105 (.iconst 1, 1) (nT 94 (.aload_n 0, 1) (nT 89 (.iconst 2, 1) (nT 88 (.aload_n 0, 1) (nT 85 (.if_icmp .lt 9, 3) nE nE) nE) (nT 93 (.ireturn, 1) (nT 90 (.invokevirtual 69, 3) nE nE) nE)) (nT 101 (.dup, 1) (nT 98 (.getfield 115, 3) (nT 95 (.getfield 26, 3) nE nE) nE) (nT 102 (.getfield 162, 3) nE nE))) (nT 115 (.aload_n 0, 1) (nT 110 (.iload 4, 2) (nT 107 (.putfield 162, 3) (nT 106 (.iadd, 1) nE nE) nE) (nT 112 (.ifCond .eq 13, 3) nE nE)) (nT 120 (.ifCond .ne 5, 3) (nT 117 (.invokevirtual 147, 3) (nT 116 (.iload_n 2, 1) nE nE) nE) (nT 123 (.iconst 0, 1) nE nE)))) (nT 141 (.invokevirtual 124, 3) (nT 134 (.ifCond .ne 22, 3) (nT 129 (.invokevirtual 82, 3) (nT 126 (.getfield 22, 3) (nT 125 (.aload_n 0, 1) nE nE) nE) (nT 132 (.iload 4, 2) nE nE)) (nT 139 (.iconst 1, 1) (nT 138 (.iload_n 1, 1) (nT 137 (.aload_n 0, 1) nE nE) nE) (nT 140 (.iadd, 1) nE nE))) (nT 153 (.ifCond .eq 7, 3) (nT 148 (.bipush 41, 2) (nT 147 (.aload_n 0, 1) (nT 144 (.ifCond .eq 16, 3) nE nE) nE) (nT 150 (.invokevirtual 73, 3) nE nE)) (nT 160 (.iconst 0, 1) (nT 157 (.goto 4, 3) (nT 156 (.iconst 1, 1) nE nE) nE) (nT 161 (.ireturn, 1) nE nE))))))
def i_X8_readBill : Nat → Option (Instr × Nat) := (nT 80 (.ifCond .ne 5, 3) (nT 39 (.ifCond .eq 16, 3) (nT 18 (.iconst 2, 1) (nT 9 (.ifCond .lt 8, 3) (nT 4 (.getfield 103, 3) (nT 1 (.getfield 26, 3) (nT 0 (.aload_n 0, 1) nE nE) nE) (nT 8 (.iload_n 1, 1) (nT 7 (.istore_n 1, 1) nE nE) nE)) (nT 14 (.if_icmp .lt 9, 3) (nT 13 (.iconst 5, 1) (nT 12 (.iload_n 1, 1) nE nE) nE) (nT 17 (.aload_n 0, 1) nE nE))) (nT 30 (.aload_n 0, 1) (nT 23 (.aload_n 0, 1) (nT 22 (.ireturn, 1) (nT 19 (.invokevirtual 69, 3) nE nE) nE) (nT 27 (.invokevirtual 82, 3) (nT 24 (.getfield 22, 3) nE nE) nE)) (nT 35 (.iload_n 1, 1) (nT 32 (.getfield 15, 3) (nT 31 (.aload_n 0, 1) nE nE) nE) (nT 36 (.invokevirtual 85, 3) nE nE)))) (nT 61 (.getfield 106, 3) (nT 52 (.ifCond .ne 5, 3) (nT 46 (.iconst 1, 1) (nT 43 (.sipush 132, 3) (nT 42 (.aload_n 0, 1) nE nE) nE) (nT 49 (.invokevirtual 89, 3) (nT 47 (.bipush 99, 2) nE nE) nE)) (nT 57 (.aload_n 0, 1) (nT 56 (.ireturn, 1) (nT 55 (.iconst 0, 1) nE nE) nE) (nT 58 (.getfield 26, 3) nE nE))) (nT 70 (.aload_n 0, 1) (nT 66 (.getfield 97, 3) (nT 65 (.aload_n 0, 1) (nT 64 (.iload_n 1, 1) nE nE) nE) (nT 69 (.iastore, 1) nE nE)) (nT 75 (.bipush 60, 2) (nT 74 (.iconst 1, 1) (nT 71 (.sipush 133, 3) nE nE) nE) (nT 77 (.invokevirtual 89, 3) nE nE))))) (nT 121 (.bipush 9, 2) (nT 99 (.iconst 0, 1) (nT 92 (.iload_n 1, 1) (nT 85 (.aload_n 0, 1) (nT 84 (.ireturn, 1) (nT 83 (.iconst 0, 1) nE nE) nE) (nT 89 (.getfield 109, 3) (nT 86 (.getfield 26, 3) nE nE) nE)) (nT 97 (.iastore, 1) (nT 94 (.getfield 97, 3) (nT 93 (.aload_n 0, 1) nE nE) nE) (nT 98 (.aload_n 0, 1) nE nE))) (nT 110 (.sipush 143, 3) (nT 104 (.getfield 22, 3) (nT 103 (.aload_n 0, 1) (nT 100 (.putfield 97, 3) nE nE) nE) (nT 107 (.getfield 50, 3) nE nE)) (nT 117 (.sipush 143, 3) (nT 116 (.aload_n 0, 1) (nT 113 (.if_icmp .ne 18, 3) nE nE) nE) (nT 120 (.iconst 0, 1) nE nE)))) (nT 143 (.iastore, 1) (nT 132 (.getfield 26, 3) (nT 129 (.iconst 0, 1) (nT 126 (.ifCond .ne 5, 3) (nT 123 (.invokevirtual 89, 3) nE nE) nE) (nT 131 (.aload_n 0, 1) (nT 130 (.ireturn, 1) nE nE) nE)) (nT 139 (.aload_n 0, 1) (nT 138 (.iload_n 1, 1) (nT 135 (.getfield 112, 3) nE nE) nE) (nT 140 (.getfield 97, 3) nE nE))) (nT 152 (.iconst 1, 1) (nT 148 (.dup, 1) (nT 145 (.getfield 26, 3) (nT 144 (.aload_n 0, 1) nE nE) nE) (nT 149 (.getfield 103, 3) nE nE)) (nT 157 (.iconst 1, 1) (nT 154 (.putfield 103, 3) (nT 153 (.iadd, 1) nE nE) nE) (nT 158 (.ireturn, 1) nE nE))))))
def i_X8_readName : Nat → Option (Instr × Nat) := (nT 36 (.laload, 1) (nT 21 (.aload_n 0, 1) (nT 11 (.iload_n 2, 1) (nT 4 (.getfield 50, 3) (nT 1 (.getfield 22, 3) (nT 0 (.aload_n 0, 1) nE nE) nE) (nT 8 (.if_icmp .ne 13, 3) (nT 7 (.iconst 2, 1) nE nE) nE)) (nT 16 (.aload_n 1, 1) (nT 15 (.iload_n 2, 1) (nT 12 (.ifCond .lt 9, 3) nE nE) nE) (nT 18 (.if_icmp .lt 9, 3) (nT 17 (.arraylength, 1) nE nE) nE))) (nT 29 (.iload_n 3, 1) (nT 26 (.ireturn, 1) (nT 23 (.invokevirtual 69, 3) (nT 22 (.iconst 2, 1) nE nE) nE) (nT 28 (.istore_n 3, 1) (nT 27 (.iconst 0, 1) nE nE) nE)) (nT 34 (.aload_n 1, 1) (nT 31 (.if_icmp .ge 29, 3) (nT 30 (.iload_n 2, 1) nE nE) nE) (nT 35 (.iload_n 3, 1) nE nE)))) (nT 60 (.aload_n 1, 1) (nT 48 (.aload_n 0, 1) (nT 41 (.getfield 133, 3) (nT 38 (.getfield 22, 3) (nT 37 (.aload_n 0, 1) nE nE) nE) (nT 45 (.ifCond .ne 9, 3) (nT 44 (.lcmp, 1) nE nE) nE)) (nT 53 (.ireturn, 1) (nT 50 (.invokevirtual 69, 3) (nT 49 (.iconst 3, 1) nE nE) nE) (nT 57 (.goto (-28), 3) (nT 54 (.iinc 3 1, 3) nE nE) nE))) (nT 70 (.aload_n 0, 1) (nT 63 (.getfield 22, 3) (nT 62 (.aload_n 0, 1) (nT 61 (.iload_n 2, 1) nE nE) nE) (nT 69 (.lastore, 1) (nT 66 (.getfield 133, 3) nE nE) nE)) (nT 77 (.iconst 1, 1) (nT 74 (.invokevirtual 82, 3) (nT 71 (.getfield 22, 3) nE nE) nE) (nT 78 (.ireturn, 1) nE nE)))))
def i_X8_readMember : Nat → Option (Instr × Nat) := (nT 66 (.aload_n 0, 1) (nT 32 (.aload_n 0, 1) (nT 15 (.if_icmp .lt 9, 3) (nT 8 (.iload_n 1, 1) (nT 4 (.getfield 79, 3) (nT 1 (.getfield 26, 3) (nT 0 (.aload_n 0, 1) nE nE) nE) (nT 7 (.istore_n 1, 1) nE nE)) (nT 12 (.iload_n 1, 1) (nT 9 (.ifCond .lt 9, 3) nE nE) (nT 13 (.bipush 6, 2) nE nE))) (nT 24 (.aload_n 0, 1) (nT 20 (.invokevirtual 69, 3) (nT 19 (.iconst 2, 1) (nT 18 (.aload_n 0, 1) nE nE) nE) (nT 23 (.ireturn, 1) nE nE)) (nT 28 (.invokevirtual 82, 3) (nT 25 (.getfield 22, 3) nE nE) (nT 31 (.aload_n 0, 1) nE nE)))) (nT 50 (.invokevirtual 89, 3) (nT 43 (.aload_n 0, 1) (nT 37 (.invokevirtual 85, 3) (nT 36 (.iload_n 1, 1) (nT 33 (.getfield 9, 3) nE nE) nE) (nT 40 (.ifCond .eq 16, 3) nE nE)) (nT 47 (.iconst 1, 1) (nT 44 (.sipush 129, 3) nE nE) (nT 48 (.bipush 20, 2) nE nE))) (nT 58 (.aload_n 0, 1) (nT 56 (.iconst 0, 1) (nT 53 (.ifCond .ne 5, 3) nE nE) (nT 57 (.ireturn, 1) nE nE)) (nT 62 (.getfield 93, 3) (nT 59 (.getfield 26, 3) nE nE) (nT 65 (.iload_n 1, 1) nE nE))))) (nT 103 (.ireturn, 1) (nT 83 (.sipush 130, 3) (nT 73 (.putfield 97, 3) (nT 71 (.aload_n 0, 1) (nT 70 (.iastore, 1) (nT 67 (.getfield 97, 3) nE nE) nE) (nT 72 (.iconst 0, 1) nE nE)) (nT 77 (.getfield 22, 3) (nT 76 (.aload_n 0, 1) nE nE) (nT 80 (.getfield 50, 3) nE nE))) (nT 94 (.bipush 9, 2) (nT 90 (.sipush 130, 3) (nT 89 (.aload_n 0, 1) (nT 86 (.if_icmp .ne 18, 3) nE nE) nE) (nT 93 (.iconst 0, 1) nE nE)) (nT 99 (.ifCond .ne 5, 3) (nT 96 (.invokevirtual 89, 3) nE nE) (nT 102 (.iconst 0, 1) nE nE)))) (nT 118 (.getfield 26, 3) (nT 112 (.aload_n 0, 1) (nT 108 (.getfield 100, 3) (nT 105 (.getfield 26, 3) (nT 104 (.aload_n 0, 1) nE nE) nE) (nT 111 (.iload_n 1, 1) nE nE)) (nT 116 (.iastore, 1) (nT 113 (.getfield 97, 3) nE nE) (nT 117 (.aload_n 0, 1) nE nE))) (nT 126 (.iadd, 1) (nT 122 (.getfield 79, 3) (nT 121 (.dup, 1) nE nE) (nT 125 (.iconst 1, 1) nE nE)) (nT 130 (.iconst 1, 1) (nT 127 (.putfield 79, 3) nE nE) (nT 131 (.ireturn, 1) nE nE))))))
def i_X9_start : Nat → Option (Instr × Nat) := (nT 5 (.aload_n 0, 1) (nT 1 (.iconst 0, 1) (nT 0 (.aload_n 0, 1) nE nE) (nT 2 (.putfield 19, 3) nE nE)) (nT 9 (.return_, 1) (nT 6 (.invokevirtual 22, 3) nE nE) nE))
def i_X5_clear : Nat → Option (Instr × Nat) := (nT 14 (.putfield 41, 3) (nT 8 (.iconst 0, 1) (nT 4 (.invokevirtual 34, 3) (nT 1 (.getfield 30, 3) (nT 0 (.aload_n 0, 1) nE nE) nE) (nT 7 (.aload_n 0, 1) nE nE)) (nT 12 (.aload_n 0, 1) (nT 9 (.putfield 37, 3) nE nE) (nT 13 (.iconst 0, 1) nE nE))) (nT 22 (.aload_n 0, 1) (nT 18 (.iconst 0, 1) (nT 17 (.aload_n 0, 1) nE nE) (nT 19 (.putfield 44, 3) nE nE)) (nT 24 (.putfield 47, 3) (nT 23 (.iconst 0, 1) nE nE) (nT 27 (.return_, 1) nE nE))))
def i_X4_clear : Nat → Option (Instr × Nat) := (nT 7 (.putfield 26, 3) (nT 2 (.putfield 22, 3) (nT 1 (.iconst 0, 1) (nT 0 (.aload_n 0, 1) nE nE) nE) (nT 6 (.iconst 0, 1) (nT 5 (.aload_n 0, 1) nE nE) nE)) (nT 12 (.putfield 29, 3) (nT 11 (.iconst 0, 1) (nT 10 (.aload_n 0, 1) nE nE) nE) (nT 15 (.return_, 1) nE nE)))
def i_X12_end : Nat → Option (Instr × Nat) := (nT 12 (.iconst (-1), 1) (nT 5 (.aload_n 0, 1) (nT 1 (.ifCond .lt 11, 3) (nT 0 (.iload_n 1, 1) nE nE) (nT 4 (.iload_n 1, 1) nE nE)) (nT 9 (.if_icmp .le 5, 3) (nT 6 (.getfield 248, 3) nE nE) nE)) (nT 16 (.putfield 248, 3) (nT 14 (.aload_n 0, 1) (nT 13 (.ireturn, 1) nE nE) (nT 15 (.iload_n 1, 1) nE nE)) (nT 20 (.ireturn, 1) (nT 19 (.iload_n 1, 1) nE nE) nE)))
def i_X11_end : Nat → Option (Instr × Nat) := (nT 15 (.iconst (-1), 1) (nT 5 (.aload_n 0, 1) (nT 1 (.ifCond .lt 14, 3) (nT 0 (.iload_n 1, 1) nE nE) (nT 4 (.iload_n 1, 1) nE nE)) (nT 9 (.getfield 108, 3) (nT 6 (.getfield 10, 3) nE nE) (nT 12 (.if_icmp .le 5, 3) nE nE))) (nT 21 (.iload_n 1, 1) (nT 17 (.aload_n 0, 1) (nT 16 (.ireturn, 1) nE nE) (nT 18 (.getfield 10, 3) nE nE)) (nT 25 (.iload_n 1, 1) (nT 22 (.putfield 108, 3) nE nE) (nT 26 (.ireturn, 1) nE nE))))
def i_X12_feed : Nat → Option (Instr × Nat) := (nT 64 (.iload 4, 2) (nT 28 (.if_icmp .ge 7, 3) (nT 14 (.ireturn, 1) (nT 6 (.iadd, 1) (nT 1 (.getfield 248, 3) (nT 0 (.aload_n 0, 1) nE nE) (nT 4 (.bipush 20, 2) nE nE)) (nT 10 (.if_icmp .le 5, 3) (nT 7 (.sipush 1600, 3) nE nE) (nT 13 (.iconst (-1), 1) nE nE))) (nT 20 (.bipush 20, 2) (nT 16 (.istore 6, 2) (nT 15 (.iconst 0, 1) nE nE) (nT 18 (.iload 6, 2) nE nE)) (nT 25 (.iload 6, 2) (nT 22 (.if_icmp .ge 83, 3) nE nE) (nT 27 (.iconst 4, 1) nE nE)))) (nT 46 (.iload 6, 2) (nT 37 (.bipush 8, 2) (nT 32 (.goto 39, 3) (nT 31 (.iload_n 1, 1) nE nE) (nT 35 (.iload 6, 2) nE nE)) (nT 42 (.iload_n 2, 1) (nT 39 (.if_icmp .ge 7, 3) nE nE) (nT 43 (.goto 28, 3) nE nE))) (nT 54 (.goto 17, 3) (nT 50 (.if_icmp .ge 7, 3) (nT 48 (.bipush 12, 2) nE nE) (nT 53 (.iload_n 3, 1) nE nE)) (nT 59 (.bipush 16, 2) (nT 57 (.iload 6, 2) nE nE) (nT 61 (.if_icmp .ge 8, 3) nE nE))))) (nT 94 (.imul, 1) (nT 81 (.iload 6, 2) (nT 73 (.aload_n 0, 1) (nT 69 (.iload 5, 2) (nT 66 (.goto 5, 3) nE nE) (nT 71 (.istore 7, 2) nE nE)) (nT 77 (.aload_n 0, 1) (nT 74 (.getfield 7, 3) nE nE) (nT 78 (.getfield 248, 3) nE nE))) (nT 88 (.bipush 8, 2) (nT 84 (.iload 7, 2) (nT 83 (.iadd, 1) nE nE) (nT 86 (.bipush 24, 2) nE nE)) (nT 92 (.iconst 3, 1) (nT 90 (.iload 6, 2) nE nE) (nT 93 (.iand, 1) nE nE)))) (nT 106 (.dup, 1) (nT 98 (.bastore, 1) (nT 96 (.ishr, 1) (nT 95 (.isub, 1) nE nE) (nT 97 (.i2b, 1) nE nE)) (nT 102 (.goto (-84), 3) (nT 99 (.iinc 6 1, 3) nE nE) (nT 105 (.aload_n 0, 1) nE nE))) (nT 113 (.putfield 248, 3) (nT 110 (.bipush 20, 2) (nT 107 (.getfield 248, 3) nE nE) (nT 112 (.iadd, 1) nE nE)) (nT 117 (.getfield 248, 3) (nT 116 (.aload_n 0, 1) nE nE) (nT 120 (.ireturn, 1) nE nE))))))
def i_X11_feed : Nat → Option (Instr × Nat) := (nT 30 (.aload_n 0, 1) (nT 14 (.aload_n 0, 1) (nT 6 (.invokevirtual 100, 3) (nT 1 (.getfield 10, 3) (nT 0 (.aload_n 0, 1) nE nE) (nT 4 (.bipush 20, 2) nE nE)) (nT 12 (.iconst (-1), 1) (nT 9 (.ifCond .ne 5, 3) nE nE) (nT 13 (.ireturn, 1) nE nE))) (nT 22 (.aload_n 0, 1) (nT 18 (.iload_n 1, 1) (nT 15 (.getfield 10, 3) nE nE) (nT 19 (.invokevirtual 104, 3) nE nE)) (nT 26 (.iload_n 2, 1) (nT 23 (.getfield 10, 3) nE nE) (nT 27 (.invokevirtual 104, 3) nE nE)))) (nT 47 (.aload_n 0, 1) (nT 38 (.aload_n 0, 1) (nT 34 (.iload_n 3, 1) (nT 31 (.getfield 10, 3) nE nE) (nT 35 (.invokevirtual 104, 3) nE nE)) (nT 42 (.iload 4, 2) (nT 39 (.getfield 10, 3) nE nE) (nT 44 (.invokevirtual 104, 3) nE nE))) (nT 56 (.aload_n 0, 1) (nT 51 (.iload 5, 2) (nT 48 (.getfield 10, 3) nE nE) (nT 53 (.invokevirtual 104, 3) nE nE)) (nT 60 (.getfield 108, 3) (nT 57 (.getfield 10, 3) nE nE) (nT 63 (.ireturn, 1) nE nE)))))
def i_X9_append : Nat → Option (Instr × Nat) := (nT 26 (.iload_n 2, 1) (nT 11 (.sipush 1600, 3) (nT 4 (.ifCond .lt 42, 3) (nT 2 (.istore_n 2, 1) (nT 0 (.bipush 24, 2) nE nE) (nT 3 (.iload_n 2, 1) nE nE)) (nT 8 (.getfield 15, 3) (nT 7 (.aload_n 0, 1) nE nE) nE)) (nT 21 (.aload_n 0, 1) (nT 17 (.aload_n 0, 1) (nT 14 (.if_icmp .ge 32, 3) nE nE) (nT 18 (.getfield 11, 3) nE nE)) (nT 25 (.iload_n 1, 1) (nT 22 (.getfield 15, 3) nE nE) nE))) (nT 35 (.iconst 1, 1) (nT 30 (.aload_n 0, 1) (nT 28 (.i2b, 1) (nT 27 (.ishr, 1) nE nE) (nT 29 (.bastore, 1) nE nE)) (nT 32 (.getfield 15, 3) (nT 31 (.dup, 1) nE nE) nE)) (nT 40 (.iinc 2 (-8), 3) (nT 37 (.putfield 15, 3) (nT 36 (.iadd, 1) nE nE) nE) (nT 46 (.return_, 1) (nT 43 (.goto (-40), 3) nE nE) nE))))
def i_X9_hasRoom : Nat → Option (Instr × Nat) := (nT 9 (.if_icmp .gt 7, 3) (nT 4 (.iload_n 1, 1) (nT 1 (.getfield 15, 3) (nT 0 (.aload_n 0, 1) nE nE) nE) (nT 6 (.sipush 1600, 3) (nT 5 (.iadd, 1) nE nE) nE)) (nT 16 (.iconst 0, 1) (nT 13 (.goto 4, 3) (nT 12 (.iconst 1, 1) nE nE) nE) (nT 17 (.ireturn, 1) nE nE)))
def i_X12_init : Nat → Option (Instr × Nat) := (nT 153 (.aload_n 0, 1) (nT 75 (.putfield 39, 3) (nT 38 (.putfield 24, 3) (nT 22 (.aload_n 0, 1) (nT 10 (.putfield 7, 3) (nT 4 (.aload_n 0, 1) (nT 1 (.invokespecial 1, 3) (nT 0 (.aload_n 0, 1) nE nE) nE) (nT 8 (.newarray .byte, 2) (nT 5 (.sipush 1620, 3) nE nE) nE)) (nT 17 (.newarray .byte, 2) (nT 14 (.sipush 1600, 3) (nT 13 (.aload_n 0, 1) nE nE) nE) (nT 19 (.putfield 13, 3) nE nE))) (nT 29 (.newarray .int, 2) (nT 27 (.aload_n 0, 1) (nT 24 (.putfield 16, 3) (nT 23 (.iconst (-1), 1) nE nE) nE) (nT 28 (.iconst 2, 1) nE nE)) (nT 35 (.iconst 2, 1) (nT 34 (.aload_n 0, 1) (nT 31 (.putfield 20, 3) nE nE) nE) (nT 36 (.newarray .int, 2) nE nE)))) (nT 56 (.iconst 2, 1) (nT 48 (.aload_n 0, 1) (nT 43 (.newarray .int, 2) (nT 42 (.iconst 2, 1) (nT 41 (.aload_n 0, 1) nE nE) nE) (nT 45 (.putfield 27, 3) nE nE)) (nT 52 (.putfield 30, 3) (nT 50 (.newarray .int, 2) (nT 49 (.iconst 2, 1) nE nE) nE) (nT 55 (.aload_n 0, 1) nE nE))) (nT 65 (.newarray .int, 2) (nT 62 (.aload_n 0, 1) (nT 59 (.putfield 33, 3) (nT 57 (.newarray .int, 2) nE nE) nE) (nT 63 (.bipush 12, 2) nE nE)) (nT 71 (.bipush 12, 2) (nT 70 (.aload_n 0, 1) (nT 67 (.putfield 36, 3) nE nE) nE) (nT 73 (.newarray .int, 2) nE nE))))) (nT 116 (.aload_n 0, 1) (nT 97 (.newarray .int, 2) (nT 87 (.bipush 10, 2) (nT 81 (.newarray .int, 2) (nT 79 (.bipush 10, 2) (nT 78 (.aload_n 0, 1) nE nE) nE) (nT 86 (.aload_n 0, 1) (nT 83 (.putfield 42, 3) nE nE) nE)) (nT 94 (.aload_n 0, 1) (nT 91 (.putfield 45, 3) (nT 89 (.newarray .int, 2) nE nE) nE) (nT 95 (.bipush 10, 2) nE nE))) (nT 106 (.putfield 51, 3) (nT 103 (.iconst 2, 1) (nT 102 (.aload_n 0, 1) (nT 99 (.putfield 48, 3) nE nE) nE) (nT 104 (.newarray .int, 2) nE nE)) (nT 111 (.newarray .int, 2) (nT 110 (.iconst 2, 1) (nT 109 (.aload_n 0, 1) nE nE) nE) (nT 113 (.putfield 54, 3) nE nE)))) (nT 132 (.newarray .boolean, 2) (nT 124 (.iconst 2, 1) (nT 120 (.putfield 57, 3) (nT 118 (.newarray .boolean, 2) (nT 117 (.iconst 2, 1) nE nE) nE) (nT 123 (.aload_n 0, 1) nE nE)) (nT 130 (.aload_n 0, 1) (nT 127 (.putfield 61, 3) (nT 125 (.newarray .boolean, 2) nE nE) nE) (nT 131 (.iconst 2, 1) nE nE))) (nT 142 (.putfield 67, 3) (nT 138 (.bipush 12, 2) (nT 137 (.aload_n 0, 1) (nT 134 (.putfield 64, 3) nE nE) nE) (nT 140 (.newarray .long, 2) nE nE)) (nT 148 (.newarray .long, 2) (nT 146 (.bipush 10, 2) (nT 145 (.aload_n 0, 1) nE nE) nE) (nT 150 (.putfield 71, 3) nE nE)))))) (nT 238 (.bipush 6, 2) (nT 196 (.bipush 33, 2) (nT 176 (.putfield 80, 3) (nT 166 (.newarray .int, 2) (nT 159 (.putfield 74, 3) (nT 157 (.newarray .int, 2) (nT 154 (.sipush 1120, 3) nE nE) nE) (nT 163 (.sipush 1120, 3) (nT 162 (.aload_n 0, 1) nE nE) nE)) (nT 172 (.bipush 90, 2) (nT 171 (.aload_n 0, 1) (nT 168 (.putfield 77, 3) nE nE) nE) (nT 174 (.newarray .int, 2) nE nE))) (nT 187 (.aload_n 0, 1) (nT 182 (.newarray .int, 2) (nT 180 (.bipush 90, 2) (nT 179 (.aload_n 0, 1) nE nE) nE) (nT 184 (.putfield 83, 3) nE nE)) (nT 192 (.putfield 86, 3) (nT 190 (.newarray .int, 2) (nT 188 (.bipush 60, 2) nE nE) nE) (nT 195 (.aload_n 0, 1) nE nE)))) (nT 217 (.putfield 95, 3) (nT 207 (.newarray .int, 2) (nT 203 (.aload_n 0, 1) (nT 200 (.putfield 89, 3) (nT 198 (.newarray .int, 2) nE nE) nE) (nT 204 (.sipush 1353, 3) nE nE)) (nT 213 (.bipush 33, 2) (nT 212 (.aload_n 0, 1) (nT 209 (.putfield 92, 3) nE nE) nE) (nT 215 (.newarray .int, 2) nE nE))) (nT 229 (.aload_n 0, 1) (nT 224 (.newarray .boolean, 2) (nT 221 (.sipush 320, 3) (nT 220 (.aload_n 0, 1) nE nE) nE) (nT 226 (.putfield 98, 3) nE nE)) (nT 234 (.putfield 101, 3) (nT 232 (.newarray .int, 2) (nT 230 (.bipush 6, 2) nE nE) nE) (nT 237 (.aload_n 0, 1) nE nE))))) (nT 278 (.bipush 30, 2) (nT 258 (.putfield 110, 3) (nT 248 (.newarray .int, 2) (nT 245 (.aload_n 0, 1) (nT 242 (.putfield 104, 3) (nT 240 (.newarray .int, 2) nE nE) nE) (nT 246 (.bipush 30, 2) nE nE)) (nT 254 (.bipush 30, 2) (nT 253 (.aload_n 0, 1) (nT 250 (.putfield 107, 3) nE nE) nE) (nT 256 (.newarray .int, 2) nE nE))) (nT 269 (.aload_n 0, 1) (nT 264 (.newarray .int, 2) (nT 262 (.bipush 30, 2) (nT 261 (.aload_n 0, 1) nE nE) nE) (nT 266 (.putfield 113, 3) nE nE)) (nT 274 (.putfield 116, 3) (nT 272 (.newarray .int, 2) (nT 270 (.bipush 30, 2) nE nE) nE) (nT 277 (.aload_n 0, 1) nE nE)))) (nT 298 (.putfield 125, 3) (nT 288 (.newarray .int, 2) (nT 285 (.aload_n 0, 1) (nT 282 (.putfield 119, 3) (nT 280 (.newarray .int, 2) nE nE) nE) (nT 286 (.bipush 6, 2) nE nE)) (nT 294 (.bipush 99, 2) (nT 293 (.aload_n 0, 1) (nT 290 (.putfield 122, 3) nE nE) nE) (nT 296 (.newarray .int, 2) nE nE))) (nT 308 (.aload_n 0, 1) (nT 303 (.newarray .boolean, 2) (nT 302 (.iconst 3, 1) (nT 301 (.aload_n 0, 1) nE nE) nE) (nT 305 (.putfield 128, 3) nE nE)) (nT 313 (.invokevirtual 134, 3) (nT 312 (.aload_n 0, 1) (nT 309 (.invokevirtual 131, 3) nE nE) nE) (nT 316 (.return_, 1) nE nE)))))))
def i_X11_init : Nat → Option (Instr × Nat) := (nT 113 (.invokespecial 52, 3) (nT 60 (.dup, 1) (nT 30 (.dup, 1) (nT 15 (.aload_n 0, 1) (nT 5 (.new 7, 3) (nT 1 (.invokespecial 1, 3) (nT 0 (.aload_n 0, 1) nE nE) (nT 4 (.aload_n 0, 1) nE nE)) (nT 9 (.invokespecial 9, 3) (nT 8 (.dup, 1) nE nE) (nT 12 (.putfield 10, 3) nE nE))) (nT 23 (.putfield 19, 3) (nT 19 (.dup, 1) (nT 16 (.new 16, 3) nE nE) (nT 20 (.invokespecial 18, 3) nE nE)) (nT 27 (.new 16, 3) (nT 26 (.aload_n 0, 1) nE nE) nE))) (nT 43 (.getfield 10, 3) (nT 38 (.new 26, 3) (nT 34 (.putfield 23, 3) (nT 31 (.invokespecial 18, 3) nE nE) (nT 37 (.aload_n 0, 1) nE nE)) (nT 42 (.aload_n 0, 1) (nT 41 (.dup, 1) nE nE) nE)) (nT 53 (.putfield 31, 3) (nT 47 (.getfield 23, 3) (nT 46 (.aload_n 0, 1) nE nE) (nT 50 (.invokespecial 28, 3) nE nE)) (nT 57 (.new 35, 3) (nT 56 (.aload_n 0, 1) nE nE) nE)))) (nT 85 (.iconst 3, 1) (nT 75 (.aload_n 0, 1) (nT 68 (.iconst 3, 1) (nT 64 (.putfield 38, 3) (nT 61 (.invokespecial 37, 3) nE nE) (nT 67 (.aload_n 0, 1) nE nE)) (nT 72 (.putfield 42, 3) (nT 69 (.anewarray 35, 3) nE nE) nE)) (nT 82 (.iconst 0, 1) (nT 77 (.newarray .boolean, 2) (nT 76 (.iconst 3, 1) nE nE) (nT 79 (.putfield 46, 3) nE nE)) (nT 84 (.iload_n 1, 1) (nT 83 (.istore_n 1, 1) nE nE) nE))) (nT 98 (.invokespecial 37, 3) (nT 93 (.iload_n 1, 1) (nT 89 (.aload_n 0, 1) (nT 86 (.if_icmp .ge 22, 3) nE nE) (nT 90 (.getfield 42, 3) nE nE)) (nT 97 (.dup, 1) (nT 94 (.new 35, 3) nE nE) nE)) (nT 108 (.aload_n 0, 1) (nT 102 (.iinc 1 1, 3) (nT 101 (.aastore, 1) nE nE) (nT 105 (.goto (-21), 3) nE nE)) (nT 112 (.dup, 1) (nT 109 (.new 50, 3) nE nE) nE))))) (nT 171 (.getfield 62, 3) (nT 143 (.aload_n 0, 1) (nT 128 (.invokespecial 59, 3) (nT 123 (.dup, 1) (nT 119 (.aload_n 0, 1) (nT 116 (.putfield 53, 3) nE nE) (nT 120 (.new 57, 3) nE nE)) (nT 125 (.getfield 19, 3) (nT 124 (.aload_n 0, 1) nE nE) nE)) (nT 138 (.dup, 1) (nT 134 (.aload_n 0, 1) (nT 131 (.putfield 62, 3) nE nE) (nT 135 (.new 66, 3) nE nE)) (nT 140 (.getfield 19, 3) (nT 139 (.aload_n 0, 1) nE nE) nE))) (nT 158 (.new 75, 3) (nT 151 (.invokespecial 68, 3) (nT 147 (.aload_n 0, 1) (nT 144 (.getfield 38, 3) nE nE) (nT 148 (.getfield 62, 3) nE nE)) (nT 157 (.aload_n 0, 1) (nT 154 (.putfield 71, 3) nE nE) nE)) (nT 166 (.aload_n 0, 1) (nT 162 (.aload_n 0, 1) (nT 161 (.dup, 1) nE nE) (nT 163 (.getfield 19, 3) nE nE)) (nT 170 (.aload_n 0, 1) (nT 167 (.getfield 38, 3) nE nE) nE)))) (nT 201 (.aload_n 0, 1) (nT 188 (.dup, 1) (nT 181 (.putfield 80, 3) (nT 175 (.getfield 71, 3) (nT 174 (.aload_n 0, 1) nE nE) (nT 178 (.invokespecial 77, 3) nE nE)) (nT 185 (.new 84, 3) (nT 184 (.aload_n 0, 1) nE nE) nE)) (nT 194 (.getfield 38, 3) (nT 190 (.getfield 19, 3) (nT 189 (.aload_n 0, 1) nE nE) (nT 193 (.aload_n 0, 1) nE nE)) (nT 198 (.getfield 62, 3) (nT 197 (.aload_n 0, 1) nE nE) nE))) (nT 216 (.aload_n 0, 1) (nT 211 (.aload_n 0, 1) (nT 205 (.invokespecial 86, 3) (nT 202 (.getfield 71, 3) nE nE) (nT 208 (.putfield 87, 3) nE nE)) (nT 215 (.dup, 1) (nT 212 (.new 91, 3) nE nE) nE)) (nT 224 (.invokespecial 93, 3) (nT 220 (.aload_n 0, 1) (nT 217 (.getfield 19, 3) nE nE) (nT 221 (.getfield 62, 3) nE nE)) (nT 230 (.return_, 1) (nT 227 (.putfield 96, 3) nE nE) nE))))))
def i_X7_init : Nat → Option (Instr × Nat) := (nT 33 (.putfield 22, 3) (nT 15 (.newarray .int, 2) (nT 7 (.newarray .int, 2) (nT 4 (.aload_n 0, 1) (nT 1 (.invokespecial 3, 3) (nT 0 (.aload_n 0, 1) nE nE) nE) (nT 5 (.bipush 30, 2) nE nE)) (nT 12 (.aload_n 0, 1) (nT 9 (.putfield 11, 3) nE nE) (nT 13 (.bipush 30, 2) nE nE))) (nT 25 (.putfield 18, 3) (nT 21 (.bipush 30, 2) (nT 20 (.aload_n 0, 1) (nT 17 (.putfield 15, 3) nE nE) nE) (nT 23 (.newarray .boolean, 2) nE nE)) (nT 29 (.bipush 30, 2) (nT 28 (.aload_n 0, 1) nE nE) (nT 31 (.newarray .int, 2) nE nE)))) (nT 53 (.putfield 30, 3) (nT 44 (.aload_n 0, 1) (nT 39 (.newarray .int, 2) (nT 37 (.bipush 30, 2) (nT 36 (.aload_n 0, 1) nE nE) nE) (nT 41 (.putfield 25, 3) nE nE)) (nT 47 (.bipush 21, 2) (nT 45 (.bipush 64, 2) nE nE) (nT 49 (.multianewarray 28 2, 4) nE nE))) (nT 61 (.aload_n 0, 1) (nT 57 (.aload_n 1, 1) (nT 56 (.aload_n 0, 1) nE nE) (nT 58 (.putfield 33, 3) nE nE)) (nT 63 (.putfield 37, 3) (nT 62 (.aload_n 2, 1) nE nE) (nT 66 (.return_, 1) nE nE)))))
def i_X3_init : Nat → Option (Instr × Nat) := (nT 56 (.putfield 34, 3) (nT 27 (.aload_n 0, 1) (nT 13 (.bipush 6, 2) (nT 5 (.bipush 6, 2) (nT 1 (.invokespecial 3, 3) (nT 0 (.aload_n 0, 1) nE nE) (nT 4 (.aload_n 0, 1) nE nE)) (nT 9 (.putfield 9, 3) (nT 7 (.newarray .int, 2) nE nE) (nT 12 (.aload_n 0, 1) nE nE))) (nT 21 (.iconst 5, 1) (nT 17 (.putfield 15, 3) (nT 15 (.newarray .int, 2) nE nE) (nT 20 (.aload_n 0, 1) nE nE)) (nT 24 (.putfield 18, 3) (nT 22 (.newarray .int, 2) nE nE) nE))) (nT 41 (.aload_n 0, 1) (nT 34 (.aload_n 0, 1) (nT 29 (.newarray .long, 2) (nT 28 (.iconst 5, 1) nE nE) (nT 31 (.putfield 21, 3) nE nE)) (nT 36 (.newarray .long, 2) (nT 35 (.iconst 5, 1) nE nE) (nT 38 (.putfield 25, 3) nE nE))) (nT 50 (.aload_n 0, 1) (nT 44 (.anewarray 28, 3) (nT 42 (.bipush 7, 2) nE nE) (nT 47 (.putfield 30, 3) nE nE)) (nT 54 (.newarray .int, 2) (nT 51 (.sipush 1000, 3) nE nE) nE)))) (nT 83 (.iload 5, 2) (nT 70 (.aload_n 3, 1) (nT 64 (.aload_n 0, 1) (nT 60 (.aload_n 1, 1) (nT 59 (.aload_n 0, 1) nE nE) (nT 61 (.putfield 37, 3) nE nE)) (nT 66 (.putfield 41, 3) (nT 65 (.aload_n 2, 1) nE nE) (nT 69 (.aload_n 0, 1) nE nE))) (nT 77 (.putfield 49, 3) (nT 74 (.aload_n 0, 1) (nT 71 (.putfield 45, 3) nE nE) (nT 75 (.aload 4, 2) nE nE)) (nT 81 (.istore 5, 2) (nT 80 (.iconst 0, 1) nE nE) nE))) (nT 99 (.dup, 1) (nT 91 (.getfield 30, 3) (nT 87 (.if_icmp .gt 24, 3) (nT 85 (.bipush 6, 2) nE nE) (nT 90 (.aload_n 0, 1) nE nE)) (nT 96 (.new 28, 3) (nT 94 (.iload 5, 2) nE nE) nE)) (nT 105 (.iinc 5 1, 3) (nT 101 (.invokespecial 53, 3) (nT 100 (.aload_n 1, 1) nE nE) (nT 104 (.aastore, 1) nE nE)) (nT 111 (.return_, 1) (nT 108 (.goto (-25), 3) nE nE) nE)))))
def i_X10_init : Nat → Option (Instr × Nat) := (nT 5 (.aload_n 1, 1) (nT 1 (.invokespecial 3, 3) (nT 0 (.aload_n 0, 1) nE nE) (nT 4 (.aload_n 0, 1) nE nE)) (nT 9 (.return_, 1) (nT 6 (.putfield 9, 3) nE nE) nE))
def i_X2_init : Nat → Option (Instr × Nat) := (nT 11 (.putfield 15, 3) (nT 5 (.aload_n 1, 1) (nT 1 (.invokespecial 3, 3) (nT 0 (.aload_n 0, 1) nE nE) (nT 4 (.aload_n 0, 1) nE nE)) (nT 9 (.aload_n 0, 1) (nT 6 (.putfield 9, 3) nE nE) (nT 10 (.aload_n 2, 1) nE nE))) (nT 19 (.aload_n 0, 1) (nT 15 (.aload_n 3, 1) (nT 14 (.aload_n 0, 1) nE nE) (nT 16 (.putfield 19, 3) nE nE)) (nT 22 (.putfield 23, 3) (nT 20 (.aload 4, 2) nE nE) (nT 25 (.return_, 1) nE nE))))
def i_X1_init : Nat → Option (Instr × Nat) := (nT 10 (.aload_n 2, 1) (nT 5 (.aload_n 1, 1) (nT 1 (.invokespecial 3, 3) (nT 0 (.aload_n 0, 1) nE nE) (nT 4 (.aload_n 0, 1) nE nE)) (nT 9 (.aload_n 0, 1) (nT 6 (.putfield 9, 3) nE nE) nE)) (nT 15 (.aload_n 3, 1) (nT 14 (.aload_n 0, 1) (nT 11 (.putfield 15, 3) nE nE) nE) (nT 19 (.return_, 1) (nT 16 (.putfield 19, 3) nE nE) nE)))
def i_X0_init : Nat → Option (Instr × Nat) := (nT 18 (.if_icmp .ge 22, 3) (nT 10 (.putfield 11, 3) (nT 4 (.aload_n 0, 1) (nT 1 (.invokespecial 3, 3) (nT 0 (.aload_n 0, 1) nE nE) nE) (nT 7 (.anewarray 9, 3) (nT 5 (.bipush 41, 2) nE nE) nE)) (nT 15 (.iload_n 1, 1) (nT 14 (.istore_n 1, 1) (nT 13 (.iconst 0, 1) nE nE) nE) (nT 16 (.bipush 41, 2) nE nE))) (nT 30 (.invokespecial 15, 3) (nT 25 (.iload_n 1, 1) (nT 22 (.getfield 11, 3) (nT 21 (.aload_n 0, 1) nE nE) nE) (nT 29 (.dup, 1) (nT 26 (.new 9, 3) nE nE) nE)) (nT 37 (.goto (-22), 3) (nT 34 (.iinc 1 1, 3) (nT 33 (.aastore, 1) nE nE) nE) (nT 40 (.return_, 1) nE nE))))
def i_X6_init : Nat → Option (Instr × Nat) := (nT 5 (.bipush 30, 2) (nT 1 (.invokespecial 5, 3) (nT 0 (.aload_n 0, 1) nE nE) (nT 4 (.aload_n 0, 1) nE nE)) (nT 9 (.putfield 11, 3) (nT 7 (.newarray .int, 2) nE nE) (nT 12 (.return_, 1) nE nE)))
end
section
def i_X8_init : Nat → Option (Instr × Nat) := (nT 19 (.aload_n 0, 1) (nT 9 (.putfield 9, 3) (nT 4 (.aload_n 0, 1) (nT 1 (.invokespecial 3, 3) (nT 0 (.aload_n 0, 1) nE nE) nE) (nT 7 (.newarray .long, 2) (nT 5 (.bipush 6, 2) nE nE) nE)) (nT 14 (.newarray .long, 2) (nT 13 (.iconst 5, 1) (nT 12 (.aload_n 0, 1) nE nE) nE) (nT 16 (.putfield 15, 3) nE nE))) (nT 26 (.putfield 22, 3) (nT 24 (.aload_n 0, 1) (nT 21 (.putfield 18, 3) (nT 20 (.iconst (-1), 1) nE nE) nE) (nT 25 (.aload_n 1, 1) nE nE)) (nT 31 (.putfield 26, 3) (nT 30 (.aload_n 2, 1) (nT 29 (.aload_n 0, 1) nE nE) nE) (nT 34 (.return_, 1) nE nE))))
def i_X5_init : Nat → Option (Instr × Nat) := (nT 27 (.aload_n 0, 1) (nT 13 (.bipush 6, 2) (nT 5 (.bipush 6, 2) (nT 1 (.invokespecial 3, 3) (nT 0 (.aload_n 0, 1) nE nE) (nT 4 (.aload_n 0, 1) nE nE)) (nT 9 (.putfield 9, 3) (nT 7 (.newarray .int, 2) nE nE) (nT 12 (.aload_n 0, 1) nE nE))) (nT 21 (.iconst 5, 1) (nT 17 (.putfield 15, 3) (nT 15 (.newarray .int, 2) nE nE) (nT 20 (.aload_n 0, 1) nE nE)) (nT 24 (.putfield 18, 3) (nT 22 (.newarray .int, 2) nE nE) nE))) (nT 38 (.putfield 24, 3) (nT 34 (.aload_n 0, 1) (nT 29 (.newarray .int, 2) (nT 28 (.iconst 5, 1) nE nE) (nT 31 (.putfield 21, 3) nE nE)) (nT 36 (.newarray .int, 2) (nT 35 (.iconst 5, 1) nE nE) nE)) (nT 46 (.invokespecial 29, 3) (nT 42 (.new 27, 3) (nT 41 (.aload_n 0, 1) nE nE) (nT 45 (.dup, 1) nE nE)) (nT 52 (.return_, 1) (nT 49 (.putfield 30, 3) nE nE) nE))))
def i_X4_init : Nat → Option (Instr × Nat) := (nT 19 (.putfield 13, 3) (nT 8 (.newarray .int, 2) (nT 4 (.aload_n 0, 1) (nT 1 (.invokespecial 1, 3) (nT 0 (.aload_n 0, 1) nE nE) nE) (nT 5 (.sipush 269, 3) nE nE)) (nT 14 (.sipush 269, 3) (nT 13 (.aload_n 0, 1) (nT 10 (.putfield 9, 3) nE nE) nE) (nT 17 (.newarray .int, 2) nE nE))) (nT 30 (.aload_n 0, 1) (nT 25 (.newarray .int, 2) (nT 23 (.bipush 30, 2) (nT 22 (.aload_n 0, 1) nE nE) nE) (nT 27 (.putfield 16, 3) nE nE)) (nT 35 (.putfield 19, 3) (nT 33 (.newarray .int, 2) (nT 31 (.bipush 6, 2) nE nE) nE) (nT 38 (.return_, 1) nE nE))))
def i_X9_init : Nat → Option (Instr × Nat) := (nT 5 (.sipush 1600, 3) (nT 1 (.invokespecial 5, 3) (nT 0 (.aload_n 0, 1) nE nE) (nT 4 (.aload_n 0, 1) nE nE)) (nT 10 (.putfield 11, 3) (nT 8 (.newarray .byte, 2) nE nE) (nT 13 (.return_, 1) nE nE)))
def i_L_law : Nat → Option (Instr × Nat) := (nT 794 (.iload_n 3, 1) (nT 485 (.iload_n 3, 1) (nT 338 (.iaload, 1) (nT 262 (.iconst 2, 1) (nT 231 (.iload_n 3, 1) (nT 23 (.isub, 1) (nT 15 (.astore_n 2, 1) (nT 7 (.astore_n 1, 1) (nT 3 (.dup, 1) (nT 0 (.new 7, 3) nE nE) (nT 4 (.invokespecial 9, 3) nE nE)) (nT 11 (.dup, 1) (nT 8 (.new 10, 3) nE nE) (nT 12 (.invokespecial 12, 3) nE nE))) (nT 19 (.aload_n 0, 1) (nT 17 (.istore_n 3, 1) (nT 16 (.iconst 0, 1) nE nE) (nT 18 (.iload_n 3, 1) nE nE)) (nT 21 (.bipush 6, 2) (nT 20 (.arraylength, 1) nE nE) nE))) (nT 224 (.aload_n 1, 1) (nT 29 (.iaload, 1) (nT 27 (.aload_n 0, 1) (nT 24 (.if_icmp .gt 1384, 3) nE nE) (nT 28 (.iload_n 3, 1) nE nE)) (nT 32 (.iand, 1) (nT 30 (.bipush 63, 2) nE nE) (nT 33 (.tableswitch 1369 0 43 #[191, 254, 277, 290, 313, 346, 379, 412, 435, 468, 501, 514, 527, 540, 573, 596, 609, 642, 675, 688, 731, 754, 787, 810, 853, 896, 939, 962, 985, 1008, 1021, 1034, 1047, 1060, 1083, 1106, 1165, 1188, 1211, 1234, 1267, 1300, 1323, 1346], 191) nE nE))) (nT 228 (.iadd, 1) (nT 226 (.iload_n 3, 1) (nT 225 (.aload_n 0, 1) nE nE) (nT 227 (.iconst 1, 1) nE nE)) (nT 230 (.aload_n 0, 1) (nT 229 (.iaload, 1) nE nE) nE)))) (nT 246 (.iload_n 3, 1) (nT 239 (.iaload, 1) (nT 235 (.aload_n 0, 1) (nT 233 (.iadd, 1) (nT 232 (.iconst 2, 1) nE nE) (nT 234 (.iaload, 1) nE nE)) (nT 237 (.iconst 3, 1) (nT 236 (.iload_n 3, 1) nE nE) (nT 238 (.iadd, 1) nE nE))) (nT 243 (.iadd, 1) (nT 241 (.iload_n 3, 1) (nT 240 (.aload_n 0, 1) nE nE) (nT 242 (.iconst 4, 1) nE nE)) (nT 245 (.aload_n 0, 1) (nT 244 (.iaload, 1) nE nE) nE))) (nT 255 (.aload_n 0, 1) (nT 250 (.invokevirtual 13, 3) (nT 248 (.iadd, 1) (nT 247 (.iconst 5, 1) nE nE) (nT 249 (.iaload, 1) nE nE)) (nT 254 (.aload_n 2, 1) (nT 253 (.pop, 1) nE nE) nE)) (nT 259 (.iaload, 1) (nT 257 (.iconst 1, 1) (nT 256 (.iload_n 3, 1) nE nE) (nT 258 (.iadd, 1) nE nE)) (nT 261 (.iload_n 3, 1) (nT 260 (.aload_n 0, 1) nE nE) nE))))) (nT 297 (.aload_n 2, 1) (nT 277 (.iconst 5, 1) (nT 270 (.aload_n 0, 1) (nT 266 (.iload_n 3, 1) (nT 264 (.iaload, 1) (nT 263 (.iadd, 1) nE nE) (nT 265 (.aload_n 0, 1) nE nE)) (nT 268 (.iadd, 1) (nT 267 (.iconst 3, 1) nE nE) (nT 269 (.iaload, 1) nE nE))) (nT 274 (.iaload, 1) (nT 272 (.iconst 4, 1) (nT 271 (.iload_n 3, 1) nE nE) (nT 273 (.iadd, 1) nE nE)) (nT 276 (.iload_n 3, 1) (nT 275 (.aload_n 0, 1) nE nE) nE))) (nT 288 (.aload_n 0, 1) (nT 283 (.pop, 1) (nT 279 (.iaload, 1) (nT 278 (.iadd, 1) nE nE) (nT 280 (.invokevirtual 17, 3) nE nE)) (nT 287 (.aload_n 1, 1) (nT 284 (.goto 1118, 3) nE nE) nE)) (nT 292 (.iaload, 1) (nT 290 (.iconst 1, 1) (nT 289 (.iload_n 3, 1) nE nE) (nT 291 (.iadd, 1) nE nE)) (nT 296 (.pop, 1) (nT 293 (.invokevirtual 18, 3) nE nE) nE)))) (nT 320 (.goto 1082, 3) (nT 307 (.goto 1095, 3) (nT 301 (.iadd, 1) (nT 299 (.iload_n 3, 1) (nT 298 (.aload_n 0, 1) nE nE) (nT 300 (.iconst 1, 1) nE nE)) (nT 303 (.invokevirtual 22, 3) (nT 302 (.iaload, 1) nE nE) (nT 306 (.pop, 1) nE nE))) (nT 315 (.aload_n 2, 1) (nT 311 (.invokevirtual 23, 3) (nT 310 (.aload_n 1, 1) nE nE) (nT 314 (.pop, 1) nE nE)) (nT 319 (.pop, 1) (nT 316 (.invokevirtual 27, 3) nE nE) nE))) (nT 329 (.invokevirtual 28, 3) (nT 326 (.iconst 1, 1) (nT 324 (.aload_n 0, 1) (nT 323 (.aload_n 1, 1) nE nE) (nT 325 (.iload_n 3, 1) nE nE)) (nT 328 (.iaload, 1) (nT 327 (.iadd, 1) nE nE) nE)) (nT 335 (.iload_n 3, 1) (nT 333 (.aload_n 2, 1) (nT 332 (.pop, 1) nE nE) (nT 334 (.aload_n 0, 1) nE nE)) (nT 337 (.iadd, 1) (nT 336 (.iconst 1, 1) nE nE) nE)))))) (nT 413 (.aload_n 0, 1) (nT 376 (.goto 1026, 3) (nT 357 (.invokevirtual 32, 3) (nT 350 (.iadd, 1) (nT 346 (.aload_n 1, 1) (nT 342 (.pop, 1) (nT 339 (.invokevirtual 31, 3) nE nE) (nT 343 (.goto 1059, 3) nE nE)) (nT 348 (.iload_n 3, 1) (nT 347 (.aload_n 0, 1) nE nE) (nT 349 (.iconst 1, 1) nE nE))) (nT 354 (.iconst 2, 1) (nT 352 (.aload_n 0, 1) (nT 351 (.iaload, 1) nE nE) (nT 353 (.iload_n 3, 1) nE nE)) (nT 356 (.iaload, 1) (nT 355 (.iadd, 1) nE nE) nE))) (nT 367 (.aload_n 0, 1) (nT 363 (.iload_n 3, 1) (nT 361 (.aload_n 2, 1) (nT 360 (.pop, 1) nE nE) (nT 362 (.aload_n 0, 1) nE nE)) (nT 365 (.iadd, 1) (nT 364 (.iconst 1, 1) nE nE) (nT 366 (.iaload, 1) nE nE))) (nT 371 (.iaload, 1) (nT 369 (.iconst 2, 1) (nT 368 (.iload_n 3, 1) nE nE) (nT 370 (.iadd, 1) nE nE)) (nT 375 (.pop, 1) (nT 372 (.invokevirtual 36, 3) nE nE) nE)))) (nT 395 (.aload_n 0, 1) (nT 386 (.iload_n 3, 1) (nT 382 (.iconst 1, 1) (nT 380 (.aload_n 0, 1) (nT 379 (.aload_n 1, 1) nE nE) (nT 381 (.iload_n 3, 1) nE nE)) (nT 384 (.iaload, 1) (nT 383 (.iadd, 1) nE nE) (nT 385 (.aload_n 0, 1) nE nE))) (nT 390 (.invokevirtual 37, 3) (nT 388 (.iadd, 1) (nT 387 (.iconst 2, 1) nE nE) (nT 389 (.iaload, 1) nE nE)) (nT 394 (.aload_n 2, 1) (nT 393 (.pop, 1) nE nE) nE))) (nT 402 (.iconst 2, 1) (nT 399 (.iaload, 1) (nT 397 (.iconst 1, 1) (nT 396 (.iload_n 3, 1) nE nE) (nT 398 (.iadd, 1) nE nE)) (nT 401 (.iload_n 3, 1) (nT 400 (.aload_n 0, 1) nE nE) nE)) (nT 408 (.pop, 1) (nT 404 (.iaload, 1) (nT 403 (.iadd, 1) nE nE) (nT 405 (.invokevirtual 40, 3) nE nE)) (nT 412 (.aload_n 1, 1) (nT 409 (.goto 993, 3) nE nE) nE))))) (nT 448 (.iconst 1, 1) (nT 430 (.iconst 1, 1) (nT 421 (.iadd, 1) (nT 417 (.iaload, 1) (nT 415 (.iconst 1, 1) (nT 414 (.iload_n 3, 1) nE nE) (nT 416 (.iadd, 1) nE nE)) (nT 419 (.iload_n 3, 1) (nT 418 (.aload_n 0, 1) nE nE) (nT 420 (.iconst 2, 1) nE nE))) (nT 427 (.aload_n 2, 1) (nT 423 (.invokevirtual 41, 3) (nT 422 (.iaload, 1) nE nE) (nT 426 (.pop, 1) nE nE)) (nT 429 (.iload_n 3, 1) (nT 428 (.aload_n 0, 1) nE nE) nE))) (nT 437 (.iaload, 1) (nT 434 (.iload_n 3, 1) (nT 432 (.iaload, 1) (nT 431 (.iadd, 1) nE nE) (nT 433 (.aload_n 0, 1) nE nE)) (nT 436 (.iadd, 1) (nT 435 (.iconst 2, 1) nE nE) nE)) (nT 445 (.aload_n 1, 1) (nT 441 (.pop, 1) (nT 438 (.invokevirtual 44, 3) nE nE) (nT 442 (.goto 960, 3) nE nE)) (nT 447 (.iload_n 3, 1) (nT 446 (.aload_n 0, 1) nE nE) nE)))) (nT 469 (.aload_n 0, 1) (nT 458 (.iconst 1, 1) (nT 454 (.pop, 1) (nT 450 (.iaload, 1) (nT 449 (.iadd, 1) nE nE) (nT 451 (.invokevirtual 45, 3) nE nE)) (nT 456 (.aload_n 0, 1) (nT 455 (.aload_n 2, 1) nE nE) (nT 457 (.iload_n 3, 1) nE nE))) (nT 464 (.pop, 1) (nT 460 (.iaload, 1) (nT 459 (.iadd, 1) nE nE) (nT 461 (.invokevirtual 48, 3) nE nE)) (nT 468 (.aload_n 1, 1) (nT 465 (.goto 937, 3) nE nE) nE))) (nT 476 (.iconst 2, 1) (nT 473 (.iaload, 1) (nT 471 (.iconst 1, 1) (nT 470 (.iload_n 3, 1) nE nE) (nT 472 (.iadd, 1) nE nE)) (nT 475 (.iload_n 3, 1) (nT 474 (.aload_n 0, 1) nE nE) nE)) (nT 482 (.pop, 1) (nT 478 (.iaload, 1) (nT 477 (.iadd, 1) nE nE) (nT 479 (.invokevirtual 49, 3) nE nE)) (nT 484 (.aload_n 0, 1) (nT 483 (.aload_n 2, 1) nE nE) nE))))))) (nT 648 (.aload_n 0, 1) (nT 570 (.goto 832, 3) (nT 521 (.iaload, 1) (nT 504 (.iconst 1, 1) (nT 493 (.iaload, 1) (nT 489 (.aload_n 0, 1) (nT 487 (.iadd, 1) (nT 486 (.iconst 1, 1) nE nE) (nT 488 (.iaload, 1) nE nE)) (nT 491 (.iconst 2, 1) (nT 490 (.iload_n 3, 1) nE nE) (nT 492 (.iadd, 1) nE nE))) (nT 501 (.aload_n 1, 1) (nT 497 (.pop, 1) (nT 494 (.invokevirtual 52, 3) nE nE) (nT 498 (.goto 904, 3) nE nE)) (nT 503 (.iload_n 3, 1) (nT 502 (.aload_n 0, 1) nE nE) nE))) (nT 512 (.invokevirtual 53, 3) (nT 508 (.iload_n 3, 1) (nT 506 (.iaload, 1) (nT 505 (.iadd, 1) nE nE) (nT 507 (.aload_n 0, 1) nE nE)) (nT 510 (.iadd, 1) (nT 509 (.iconst 2, 1) nE nE) (nT 511 (.iaload, 1) nE nE))) (nT 518 (.iload_n 3, 1) (nT 516 (.aload_n 2, 1) (nT 515 (.pop, 1) nE nE) (nT 517 (.aload_n 0, 1) nE nE)) (nT 520 (.iadd, 1) (nT 519 (.iconst 1, 1) nE nE) nE)))) (nT 544 (.goto 858, 3) (nT 531 (.goto 871, 3) (nT 525 (.iadd, 1) (nT 523 (.iload_n 3, 1) (nT 522 (.aload_n 0, 1) nE nE) (nT 524 (.iconst 2, 1) nE nE)) (nT 527 (.invokevirtual 56, 3) (nT 526 (.iaload, 1) nE nE) (nT 530 (.pop, 1) nE nE))) (nT 539 (.aload_n 2, 1) (nT 535 (.invokevirtual 57, 3) (nT 534 (.aload_n 1, 1) nE nE) (nT 538 (.pop, 1) nE nE)) (nT 543 (.pop, 1) (nT 540 (.invokevirtual 60, 3) nE nE) nE))) (nT 557 (.goto 845, 3) (nT 552 (.aload_n 2, 1) (nT 548 (.invokevirtual 61, 3) (nT 547 (.aload_n 1, 1) nE nE) (nT 551 (.pop, 1) nE nE)) (nT 556 (.pop, 1) (nT 553 (.invokevirtual 65, 3) nE nE) nE)) (nT 565 (.aload_n 2, 1) (nT 561 (.invokevirtual 66, 3) (nT 560 (.aload_n 1, 1) nE nE) (nT 564 (.pop, 1) nE nE)) (nT 569 (.pop, 1) (nT 566 (.invokevirtual 69, 3) nE nE) nE))))) (nT 607 (.aload_n 0, 1) (nT 589 (.aload_n 0, 1) (nT 580 (.iload_n 3, 1) (nT 576 (.iconst 1, 1) (nT 574 (.aload_n 0, 1) (nT 573 (.aload_n 1, 1) nE nE) (nT 575 (.iload_n 3, 1) nE nE)) (nT 578 (.iaload, 1) (nT 577 (.iadd, 1) nE nE) (nT 579 (.aload_n 0, 1) nE nE))) (nT 584 (.invokevirtual 70, 3) (nT 582 (.iadd, 1) (nT 581 (.iconst 2, 1) nE nE) (nT 583 (.iaload, 1) nE nE)) (nT 588 (.aload_n 2, 1) (nT 587 (.pop, 1) nE nE) nE))) (nT 596 (.iconst 2, 1) (nT 593 (.iaload, 1) (nT 591 (.iconst 1, 1) (nT 590 (.iload_n 3, 1) nE nE) (nT 592 (.iadd, 1) nE nE)) (nT 595 (.iload_n 3, 1) (nT 594 (.aload_n 0, 1) nE nE) nE)) (nT 602 (.pop, 1) (nT 598 (.iaload, 1) (nT 597 (.iadd, 1) nE nE) (nT 599 (.invokevirtual 73, 3) nE nE)) (nT 606 (.aload_n 1, 1) (nT 603 (.goto 799, 3) nE nE) nE)))) (nT 626 (.goto 776, 3) (nT 617 (.aload_n 0, 1) (nT 611 (.iaload, 1) (nT 609 (.iconst 1, 1) (nT 608 (.iload_n 3, 1) nE nE) (nT 610 (.iadd, 1) nE nE)) (nT 615 (.pop, 1) (nT 612 (.invokevirtual 74, 3) nE nE) (nT 616 (.aload_n 2, 1) nE nE))) (nT 621 (.iaload, 1) (nT 619 (.iconst 1, 1) (nT 618 (.iload_n 3, 1) nE nE) (nT 620 (.iadd, 1) nE nE)) (nT 625 (.pop, 1) (nT 622 (.invokevirtual 77, 3) nE nE) nE))) (nT 639 (.goto 763, 3) (nT 634 (.aload_n 2, 1) (nT 630 (.invokevirtual 78, 3) (nT 629 (.aload_n 1, 1) nE nE) (nT 633 (.pop, 1) nE nE)) (nT 638 (.pop, 1) (nT 635 (.invokevirtual 81, 3) nE nE) nE)) (nT 645 (.iconst 1, 1) (nT 643 (.aload_n 0, 1) (nT 642 (.aload_n 1, 1) nE nE) (nT 644 (.iload_n 3, 1) nE nE)) (nT 647 (.iaload, 1) (nT 646 (.iadd, 1) nE nE) nE)))))) (nT 724 (.iconst 1, 1) (nT 683 (.iconst 2, 1) (nT 665 (.iconst 2, 1) (nT 658 (.aload_n 0, 1) (nT 652 (.iaload, 1) (nT 650 (.iconst 2, 1) (nT 649 (.iload_n 3, 1) nE nE) (nT 651 (.iadd, 1) nE nE)) (nT 656 (.pop, 1) (nT 653 (.invokevirtual 82, 3) nE nE) (nT 657 (.aload_n 2, 1) nE nE))) (nT 662 (.iaload, 1) (nT 660 (.iconst 1, 1) (nT 659 (.iload_n 3, 1) nE nE) (nT 661 (.iadd, 1) nE nE)) (nT 664 (.iload_n 3, 1) (nT 663 (.aload_n 0, 1) nE nE) nE))) (nT 676 (.aload_n 0, 1) (nT 671 (.pop, 1) (nT 667 (.iaload, 1) (nT 666 (.iadd, 1) nE nE) (nT 668 (.invokevirtual 85, 3) nE nE)) (nT 675 (.aload_n 1, 1) (nT 672 (.goto 730, 3) nE nE) nE)) (nT 680 (.iaload, 1) (nT 678 (.iconst 1, 1) (nT 677 (.iload_n 3, 1) nE nE) (nT 679 (.iadd, 1) nE nE)) (nT 682 (.iload_n 3, 1) (nT 681 (.aload_n 0, 1) nE nE) nE)))) (nT 700 (.iaload, 1) (nT 693 (.iconst 1, 1) (nT 689 (.pop, 1) (nT 685 (.iaload, 1) (nT 684 (.iadd, 1) nE nE) (nT 686 (.invokevirtual 86, 3) nE nE)) (nT 691 (.aload_n 0, 1) (nT 690 (.aload_n 2, 1) nE nE) (nT 692 (.iload_n 3, 1) nE nE))) (nT 697 (.iload_n 3, 1) (nT 695 (.iaload, 1) (nT 694 (.iadd, 1) nE nE) (nT 696 (.aload_n 0, 1) nE nE)) (nT 699 (.iadd, 1) (nT 698 (.iconst 2, 1) nE nE) nE))) (nT 713 (.aload_n 2, 1) (nT 708 (.aload_n 1, 1) (nT 704 (.pop, 1) (nT 701 (.invokevirtual 89, 3) nE nE) (nT 705 (.goto 697, 3) nE nE)) (nT 712 (.pop, 1) (nT 709 (.invokevirtual 90, 3) nE nE) nE)) (nT 721 (.aload_n 1, 1) (nT 717 (.pop, 1) (nT 714 (.invokevirtual 93, 3) nE nE) (nT 718 (.goto 684, 3) nE nE)) (nT 723 (.iload_n 3, 1) (nT 722 (.aload_n 0, 1) nE nE) nE))))) (nT 755 (.iadd, 1) (nT 741 (.aload_n 2, 1) (nT 732 (.aload_n 0, 1) (nT 728 (.iload_n 3, 1) (nT 726 (.iaload, 1) (nT 725 (.iadd, 1) nE nE) (nT 727 (.aload_n 0, 1) nE nE)) (nT 730 (.iadd, 1) (nT 729 (.iconst 2, 1) nE nE) (nT 731 (.iaload, 1) nE nE))) (nT 736 (.iaload, 1) (nT 734 (.iconst 3, 1) (nT 733 (.iload_n 3, 1) nE nE) (nT 735 (.iadd, 1) nE nE)) (nT 740 (.pop, 1) (nT 737 (.invokevirtual 94, 3) nE nE) nE))) (nT 748 (.iload_n 3, 1) (nT 745 (.iadd, 1) (nT 743 (.iload_n 3, 1) (nT 742 (.aload_n 0, 1) nE nE) (nT 744 (.iconst 1, 1) nE nE)) (nT 747 (.aload_n 0, 1) (nT 746 (.iaload, 1) nE nE) nE)) (nT 752 (.aload_n 0, 1) (nT 750 (.iadd, 1) (nT 749 (.iconst 2, 1) nE nE) (nT 751 (.iaload, 1) nE nE)) (nT 754 (.iconst 3, 1) (nT 753 (.iload_n 3, 1) nE nE) nE)))) (nT 776 (.iload_n 3, 1) (nT 767 (.iconst 1, 1) (nT 761 (.goto 641, 3) (nT 757 (.invokevirtual 98, 3) (nT 756 (.iaload, 1) nE nE) (nT 760 (.pop, 1) nE nE)) (nT 765 (.aload_n 0, 1) (nT 764 (.aload_n 1, 1) nE nE) (nT 766 (.iload_n 3, 1) nE nE))) (nT 773 (.pop, 1) (nT 769 (.iaload, 1) (nT 768 (.iadd, 1) nE nE) (nT 770 (.invokevirtual 99, 3) nE nE)) (nT 775 (.aload_n 0, 1) (nT 774 (.aload_n 2, 1) nE nE) nE))) (nT 787 (.aload_n 1, 1) (nT 780 (.invokevirtual 102, 3) (nT 778 (.iadd, 1) (nT 777 (.iconst 1, 1) nE nE) (nT 779 (.iaload, 1) nE nE)) (nT 784 (.goto 618, 3) (nT 783 (.pop, 1) nE nE) nE)) (nT 791 (.iadd, 1) (nT 789 (.iload_n 3, 1) (nT 788 (.aload_n 0, 1) nE nE) (nT 790 (.iconst 1, 1) nE nE)) (nT 793 (.aload_n 0, 1) (nT 792 (.iaload, 1) nE nE) nE)))))))) (nT 1099 (.invokevirtual 151, 3) (nT 935 (.aload_n 0, 1) (nT 867 (.iadd, 1) (nT 832 (.iload_n 3, 1) (nT 811 (.iadd, 1) (nT 804 (.iload_n 3, 1) (nT 798 (.invokevirtual 103, 3) (nT 796 (.iadd, 1) (nT 795 (.iconst 2, 1) nE nE) (nT 797 (.iaload, 1) nE nE)) (nT 802 (.aload_n 2, 1) (nT 801 (.pop, 1) nE nE) (nT 803 (.aload_n 0, 1) nE nE))) (nT 808 (.aload_n 0, 1) (nT 806 (.iadd, 1) (nT 805 (.iconst 1, 1) nE nE) (nT 807 (.iaload, 1) nE nE)) (nT 810 (.iconst 2, 1) (nT 809 (.iload_n 3, 1) nE nE) nE))) (nT 823 (.iconst 1, 1) (nT 817 (.goto 585, 3) (nT 813 (.invokevirtual 106, 3) (nT 812 (.iaload, 1) nE nE) (nT 816 (.pop, 1) nE nE)) (nT 821 (.aload_n 0, 1) (nT 820 (.aload_n 1, 1) nE nE) (nT 822 (.iload_n 3, 1) nE nE))) (nT 829 (.pop, 1) (nT 825 (.iaload, 1) (nT 824 (.iadd, 1) nE nE) (nT 826 (.invokevirtual 107, 3) nE nE)) (nT 831 (.aload_n 0, 1) (nT 830 (.aload_n 2, 1) nE nE) nE)))) (nT 851 (.iconst 2, 1) (nT 844 (.aload_n 0, 1) (nT 836 (.invokevirtual 110, 3) (nT 834 (.iadd, 1) (nT 833 (.iconst 1, 1) nE nE) (nT 835 (.iaload, 1) nE nE)) (nT 840 (.goto 562, 3) (nT 839 (.pop, 1) nE nE) (nT 843 (.aload_n 1, 1) nE nE))) (nT 848 (.iaload, 1) (nT 846 (.iconst 1, 1) (nT 845 (.iload_n 3, 1) nE nE) (nT 847 (.iadd, 1) nE nE)) (nT 850 (.iload_n 3, 1) (nT 849 (.aload_n 0, 1) nE nE) nE))) (nT 858 (.iaload, 1) (nT 855 (.iload_n 3, 1) (nT 853 (.iaload, 1) (nT 852 (.iadd, 1) nE nE) (nT 854 (.aload_n 0, 1) nE nE)) (nT 857 (.iadd, 1) (nT 856 (.iconst 3, 1) nE nE) nE)) (nT 864 (.aload_n 0, 1) (nT 862 (.pop, 1) (nT 859 (.invokevirtual 111, 3) nE nE) (nT 863 (.aload_n 2, 1) nE nE)) (nT 866 (.iconst 1, 1) (nT 865 (.iload_n 3, 1) nE nE) nE))))) (nT 900 (.iadd, 1) (nT 886 (.aload_n 1, 1) (nT 875 (.iload_n 3, 1) (nT 871 (.iconst 2, 1) (nT 869 (.aload_n 0, 1) (nT 868 (.iaload, 1) nE nE) (nT 870 (.iload_n 3, 1) nE nE)) (nT 873 (.iaload, 1) (nT 872 (.iadd, 1) nE nE) (nT 874 (.aload_n 0, 1) nE nE))) (nT 879 (.invokevirtual 114, 3) (nT 877 (.iadd, 1) (nT 876 (.iconst 3, 1) nE nE) (nT 878 (.iaload, 1) nE nE)) (nT 883 (.goto 519, 3) (nT 882 (.pop, 1) nE nE) nE))) (nT 893 (.iload_n 3, 1) (nT 890 (.iadd, 1) (nT 888 (.iload_n 3, 1) (nT 887 (.aload_n 0, 1) nE nE) (nT 889 (.iconst 1, 1) nE nE)) (nT 892 (.aload_n 0, 1) (nT 891 (.iaload, 1) nE nE) nE)) (nT 897 (.aload_n 0, 1) (nT 895 (.iadd, 1) (nT 894 (.iconst 2, 1) nE nE) (nT 896 (.iaload, 1) nE nE)) (nT 899 (.iconst 3, 1) (nT 898 (.iload_n 3, 1) nE nE) nE)))) (nT 917 (.aload_n 0, 1) (nT 910 (.iadd, 1) (nT 906 (.aload_n 2, 1) (nT 902 (.invokevirtual 115, 3) (nT 901 (.iaload, 1) nE nE) (nT 905 (.pop, 1) nE nE)) (nT 908 (.iload_n 3, 1) (nT 907 (.aload_n 0, 1) nE nE) (nT 909 (.iconst 1, 1) nE nE))) (nT 914 (.iconst 2, 1) (nT 912 (.aload_n 0, 1) (nT 911 (.iaload, 1) nE nE) (nT 913 (.iload_n 3, 1) nE nE)) (nT 916 (.iaload, 1) (nT 915 (.iadd, 1) nE nE) nE))) (nT 926 (.goto 476, 3) (nT 921 (.iaload, 1) (nT 919 (.iconst 3, 1) (nT 918 (.iload_n 3, 1) nE nE) (nT 920 (.iadd, 1) nE nE)) (nT 925 (.pop, 1) (nT 922 (.invokevirtual 118, 3) nE nE) nE)) (nT 932 (.iconst 1, 1) (nT 930 (.aload_n 0, 1) (nT 929 (.aload_n 1, 1) nE nE) (nT 931 (.iload_n 3, 1) nE nE)) (nT 934 (.iaload, 1) (nT 933 (.iadd, 1) nE nE) nE)))))) (nT 1007 (.iload_n 3, 1) (nT 968 (.pop, 1) (nT 952 (.iconst 1, 1) (nT 943 (.iadd, 1) (nT 939 (.iaload, 1) (nT 937 (.iconst 2, 1) (nT 936 (.iload_n 3, 1) nE nE) (nT 938 (.iadd, 1) nE nE)) (nT 941 (.iload_n 3, 1) (nT 940 (.aload_n 0, 1) nE nE) (nT 942 (.iconst 3, 1) nE nE))) (nT 949 (.aload_n 2, 1) (nT 945 (.invokevirtual 119, 3) (nT 944 (.iaload, 1) nE nE) (nT 948 (.pop, 1) nE nE)) (nT 951 (.iload_n 3, 1) (nT 950 (.aload_n 0, 1) nE nE) nE))) (nT 959 (.iaload, 1) (nT 956 (.iload_n 3, 1) (nT 954 (.iaload, 1) (nT 953 (.iadd, 1) nE nE) (nT 955 (.aload_n 0, 1) nE nE)) (nT 958 (.iadd, 1) (nT 957 (.iconst 2, 1) nE nE) nE)) (nT 963 (.iadd, 1) (nT 961 (.iload_n 3, 1) (nT 960 (.aload_n 0, 1) nE nE) (nT 962 (.iconst 3, 1) nE nE)) (nT 965 (.invokevirtual 122, 3) (nT 964 (.iaload, 1) nE nE) nE)))) (nT 987 (.iaload, 1) (nT 978 (.invokevirtual 123, 3) (nT 974 (.iload_n 3, 1) (nT 972 (.aload_n 1, 1) (nT 969 (.goto 433, 3) nE nE) (nT 973 (.aload_n 0, 1) nE nE)) (nT 976 (.iadd, 1) (nT 975 (.iconst 1, 1) nE nE) (nT 977 (.iaload, 1) nE nE))) (nT 984 (.iload_n 3, 1) (nT 982 (.aload_n 2, 1) (nT 981 (.pop, 1) nE nE) (nT 983 (.aload_n 0, 1) nE nE)) (nT 986 (.iadd, 1) (nT 985 (.iconst 1, 1) nE nE) nE))) (nT 998 (.iconst 1, 1) (nT 995 (.aload_n 1, 1) (nT 991 (.pop, 1) (nT 988 (.invokevirtual 126, 3) nE nE) (nT 992 (.goto 410, 3) nE nE)) (nT 997 (.iload_n 3, 1) (nT 996 (.aload_n 0, 1) nE nE) nE)) (nT 1004 (.pop, 1) (nT 1000 (.iaload, 1) (nT 999 (.iadd, 1) nE nE) (nT 1001 (.invokevirtual 127, 3) nE nE)) (nT 1006 (.aload_n 0, 1) (nT 1005 (.aload_n 2, 1) nE nE) nE))))) (nT 1050 (.pop, 1) (nT 1028 (.aload_n 2, 1) (nT 1019 (.aload_n 0, 1) (nT 1011 (.invokevirtual 130, 3) (nT 1009 (.iadd, 1) (nT 1008 (.iconst 1, 1) nE nE) (nT 1010 (.iaload, 1) nE nE)) (nT 1015 (.goto 387, 3) (nT 1014 (.pop, 1) nE nE) (nT 1018 (.aload_n 1, 1) nE nE))) (nT 1023 (.iaload, 1) (nT 1021 (.iconst 1, 1) (nT 1020 (.iload_n 3, 1) nE nE) (nT 1022 (.iadd, 1) nE nE)) (nT 1027 (.pop, 1) (nT 1024 (.invokevirtual 131, 3) nE nE) nE))) (nT 1037 (.pop, 1) (nT 1032 (.iadd, 1) (nT 1030 (.iload_n 3, 1) (nT 1029 (.aload_n 0, 1) nE nE) (nT 1031 (.iconst 1, 1) nE nE)) (nT 1034 (.invokevirtual 134, 3) (nT 1033 (.iaload, 1) nE nE) nE)) (nT 1045 (.pop, 1) (nT 1041 (.aload_n 1, 1) (nT 1038 (.goto 364, 3) nE nE) (nT 1042 (.invokevirtual 135, 3) nE nE)) (nT 1047 (.invokevirtual 138, 3) (nT 1046 (.aload_n 2, 1) nE nE) nE)))) (nT 1077 (.goto 325, 3) (nT 1064 (.goto 338, 3) (nT 1058 (.pop, 1) (nT 1054 (.aload_n 1, 1) (nT 1051 (.goto 351, 3) nE nE) (nT 1055 (.invokevirtual 139, 3) nE nE)) (nT 1060 (.invokevirtual 142, 3) (nT 1059 (.aload_n 2, 1) nE nE) (nT 1063 (.pop, 1) nE nE))) (nT 1072 (.aload_n 2, 1) (nT 1068 (.invokevirtual 143, 3) (nT 1067 (.aload_n 1, 1) nE nE) (nT 1071 (.pop, 1) nE nE)) (nT 1076 (.pop, 1) (nT 1073 (.invokevirtual 146, 3) nE nE) nE))) (nT 1090 (.goto 312, 3) (nT 1085 (.aload_n 2, 1) (nT 1081 (.invokevirtual 147, 3) (nT 1080 (.aload_n 1, 1) nE nE) (nT 1084 (.pop, 1) nE nE)) (nT 1089 (.pop, 1) (nT 1086 (.invokevirtual 150, 3) nE nE) nE)) (nT 1096 (.iconst 1, 1) (nT 1094 (.aload_n 0, 1) (nT 1093 (.aload_n 1, 1) nE nE) (nT 1095 (.iload_n 3, 1) nE nE)) (nT 1098 (.iaload, 1) (nT 1097 (.iadd, 1) nE nE) nE))))))) (nT 1256 (.iload_n 3, 1) (nT 1176 (.iadd, 1) (nT 1141 (.iload_n 3, 1) (nT 1120 (.iadd, 1) (nT 1109 (.invokevirtual 154, 3) (nT 1105 (.iload_n 3, 1) (nT 1103 (.aload_n 2, 1) (nT 1102 (.pop, 1) nE nE) (nT 1104 (.aload_n 0, 1) nE nE)) (nT 1107 (.iadd, 1) (nT 1106 (.iconst 1, 1) nE nE) (nT 1108 (.iaload, 1) nE nE))) (nT 1117 (.aload_n 0, 1) (nT 1113 (.goto 289, 3) (nT 1112 (.pop, 1) nE nE) (nT 1116 (.aload_n 1, 1) nE nE)) (nT 1119 (.iconst 1, 1) (nT 1118 (.iload_n 3, 1) nE nE) nE))) (nT 1130 (.iadd, 1) (nT 1126 (.aload_n 2, 1) (nT 1122 (.invokevirtual 155, 3) (nT 1121 (.iaload, 1) nE nE) (nT 1125 (.pop, 1) nE nE)) (nT 1128 (.iload_n 3, 1) (nT 1127 (.aload_n 0, 1) nE nE) (nT 1129 (.iconst 1, 1) nE nE))) (nT 1136 (.goto 266, 3) (nT 1132 (.invokevirtual 158, 3) (nT 1131 (.iaload, 1) nE nE) (nT 1135 (.pop, 1) nE nE)) (nT 1140 (.aload_n 0, 1) (nT 1139 (.aload_n 1, 1) nE nE) nE)))) (nT 1158 (.iconst 1, 1) (nT 1149 (.iaload, 1) (nT 1145 (.aload_n 0, 1) (nT 1143 (.iadd, 1) (nT 1142 (.iconst 1, 1) nE nE) (nT 1144 (.iaload, 1) nE nE)) (nT 1147 (.iconst 2, 1) (nT 1146 (.iload_n 3, 1) nE nE) (nT 1148 (.iadd, 1) nE nE))) (nT 1153 (.iadd, 1) (nT 1151 (.iload_n 3, 1) (nT 1150 (.aload_n 0, 1) nE nE) (nT 1152 (.iconst 3, 1) nE nE)) (nT 1155 (.ifCond .eq 7, 3) (nT 1154 (.iaload, 1) nE nE) nE))) (nT 1169 (.iload_n 3, 1) (nT 1166 (.pop, 1) (nT 1162 (.iconst 0, 1) (nT 1159 (.goto 4, 3) nE nE) (nT 1163 (.invokevirtual 159, 3) nE nE)) (nT 1168 (.aload_n 0, 1) (nT 1167 (.aload_n 2, 1) nE nE) nE)) (nT 1173 (.aload_n 0, 1) (nT 1171 (.iadd, 1) (nT 1170 (.iconst 1, 1) nE nE) (nT 1172 (.iaload, 1) nE nE)) (nT 1175 (.iconst 2, 1) (nT 1174 (.iload_n 3, 1) nE nE) nE))))) (nT 1217 (.pop, 1) (nT 1199 (.aload_n 0, 1) (nT 1186 (.iconst 1, 1) (nT 1180 (.iconst 3, 1) (nT 1178 (.aload_n 0, 1) (nT 1177 (.iaload, 1) nE nE) (nT 1179 (.iload_n 3, 1) nE nE)) (nT 1182 (.iaload, 1) (nT 1181 (.iadd, 1) nE nE) (nT 1183 (.ifCond .eq 7, 3) nE nE))) (nT 1194 (.pop, 1) (nT 1190 (.iconst 0, 1) (nT 1187 (.goto 4, 3) nE nE) (nT 1191 (.invokevirtual 163, 3) nE nE)) (nT 1198 (.aload_n 1, 1) (nT 1195 (.goto 207, 3) nE nE) nE))) (nT 1208 (.aload_n 2, 1) (nT 1203 (.iaload, 1) (nT 1201 (.iconst 1, 1) (nT 1200 (.iload_n 3, 1) nE nE) (nT 1202 (.iadd, 1) nE nE)) (nT 1207 (.pop, 1) (nT 1204 (.invokevirtual 164, 3) nE nE) nE)) (nT 1212 (.iadd, 1) (nT 1210 (.iload_n 3, 1) (nT 1209 (.aload_n 0, 1) nE nE) (nT 1211 (.iconst 1, 1) nE nE)) (nT 1214 (.invokevirtual 168, 3) (nT 1213 (.iaload, 1) nE nE) nE)))) (nT 1236 (.invokevirtual 172, 3) (nT 1227 (.invokevirtual 169, 3) (nT 1223 (.iload_n 3, 1) (nT 1221 (.aload_n 1, 1) (nT 1218 (.goto 184, 3) nE nE) (nT 1222 (.aload_n 0, 1) nE nE)) (nT 1225 (.iadd, 1) (nT 1224 (.iconst 1, 1) nE nE) (nT 1226 (.iaload, 1) nE nE))) (nT 1233 (.iconst 1, 1) (nT 1231 (.aload_n 0, 1) (nT 1230 (.aload_n 2, 1) nE nE) (nT 1232 (.iload_n 3, 1) nE nE)) (nT 1235 (.iaload, 1) (nT 1234 (.iadd, 1) nE nE) nE))) (nT 1247 (.iconst 1, 1) (nT 1244 (.aload_n 1, 1) (nT 1242 (.iconst 0, 1) (nT 1239 (.if_icmp .eq 163, 3) nE nE) (nT 1243 (.ireturn, 1) nE nE)) (nT 1246 (.iload_n 3, 1) (nT 1245 (.aload_n 0, 1) nE nE) nE)) (nT 1253 (.pop, 1) (nT 1249 (.iaload, 1) (nT 1248 (.iadd, 1) nE nE) (nT 1250 (.invokevirtual 173, 3) nE nE)) (nT 1255 (.aload_n 0, 1) (nT 1254 (.aload_n 2, 1) nE nE) nE)))))) (nT 1326 (.invokevirtual 184, 3) (nT 1291 (.iadd, 1) (nT 1275 (.iconst 2, 1) (nT 1268 (.aload_n 0, 1) (nT 1260 (.invokevirtual 176, 3) (nT 1258 (.iadd, 1) (nT 1257 (.iconst 1, 1) nE nE) (nT 1259 (.iaload, 1) nE nE)) (nT 1264 (.goto 138, 3) (nT 1263 (.pop, 1) nE nE) (nT 1267 (.aload_n 1, 1) nE nE))) (nT 1272 (.iaload, 1) (nT 1270 (.iconst 1, 1) (nT 1269 (.iload_n 3, 1) nE nE) (nT 1271 (.iadd, 1) nE nE)) (nT 1274 (.iload_n 3, 1) (nT 1273 (.aload_n 0, 1) nE nE) nE))) (nT 1284 (.iload_n 3, 1) (nT 1281 (.pop, 1) (nT 1277 (.iaload, 1) (nT 1276 (.iadd, 1) nE nE) (nT 1278 (.invokevirtual 177, 3) nE nE)) (nT 1283 (.aload_n 0, 1) (nT 1282 (.aload_n 2, 1) nE nE) nE)) (nT 1288 (.aload_n 0, 1) (nT 1286 (.iadd, 1) (nT 1285 (.iconst 1, 1) nE nE) (nT 1287 (.iaload, 1) nE nE)) (nT 1290 (.iconst 2, 1) (nT 1289 (.iload_n 3, 1) nE nE) nE)))) (nT 1310 (.iaload, 1) (nT 1303 (.iconst 1, 1) (nT 1297 (.goto 105, 3) (nT 1293 (.invokevirtual 180, 3) (nT 1292 (.iaload, 1) nE nE) (nT 1296 (.pop, 1) nE nE)) (nT 1301 (.aload_n 0, 1) (nT 1300 (.aload_n 1, 1) nE nE) (nT 1302 (.iload_n 3, 1) nE nE))) (nT 1307 (.iload_n 3, 1) (nT 1305 (.iaload, 1) (nT 1304 (.iadd, 1) nE nE) (nT 1306 (.aload_n 0, 1) nE nE)) (nT 1309 (.iadd, 1) (nT 1308 (.iconst 2, 1) nE nE) nE))) (nT 1319 (.iadd, 1) (nT 1316 (.aload_n 0, 1) (nT 1314 (.pop, 1) (nT 1311 (.invokevirtual 181, 3) nE nE) (nT 1315 (.aload_n 2, 1) nE nE)) (nT 1318 (.iconst 1, 1) (nT 1317 (.iload_n 3, 1) nE nE) nE)) (nT 1323 (.iconst 2, 1) (nT 1321 (.aload_n 0, 1) (nT 1320 (.iaload, 1) nE nE) (nT 1322 (.iload_n 3, 1) nE nE)) (nT 1325 (.iaload, 1) (nT 1324 (.iadd, 1) nE nE) nE))))) (nT 1367 (.aload_n 0, 1) (nT 1347 (.iadd, 1) (nT 1338 (.iaload, 1) (nT 1334 (.aload_n 0, 1) (nT 1330 (.goto 72, 3) (nT 1329 (.pop, 1) nE nE) (nT 1333 (.aload_n 1, 1) nE nE)) (nT 1336 (.iconst 1, 1) (nT 1335 (.iload_n 3, 1) nE nE) (nT 1337 (.iadd, 1) nE nE))) (nT 1344 (.aload_n 0, 1) (nT 1342 (.pop, 1) (nT 1339 (.invokevirtual 185, 3) nE nE) (nT 1343 (.aload_n 2, 1) nE nE)) (nT 1346 (.iconst 1, 1) (nT 1345 (.iload_n 3, 1) nE nE) nE))) (nT 1358 (.iload_n 3, 1) (nT 1353 (.goto 49, 3) (nT 1349 (.invokevirtual 188, 3) (nT 1348 (.iaload, 1) nE nE) (nT 1352 (.pop, 1) nE nE)) (nT 1357 (.aload_n 0, 1) (nT 1356 (.aload_n 1, 1) nE nE) nE)) (nT 1362 (.invokevirtual 189, 3) (nT 1360 (.iadd, 1) (nT 1359 (.iconst 1, 1) nE nE) (nT 1361 (.iaload, 1) nE nE)) (nT 1366 (.aload_n 2, 1) (nT 1365 (.pop, 1) nE nE) nE)))) (nT 1388 (.pop, 1) (nT 1379 (.aload_n 1, 1) (nT 1371 (.iaload, 1) (nT 1369 (.iconst 1, 1) (nT 1368 (.iload_n 3, 1) nE nE) (nT 1370 (.iadd, 1) nE nE)) (nT 1375 (.pop, 1) (nT 1372 (.invokevirtual 192, 3) nE nE) (nT 1376 (.goto 26, 3) nE nE))) (nT 1383 (.iadd, 1) (nT 1381 (.iload_n 3, 1) (nT 1380 (.aload_n 0, 1) nE nE) (nT 1382 (.iconst 1, 1) nE nE)) (nT 1385 (.invokevirtual 193, 3) (nT 1384 (.iaload, 1) nE nE) nE))) (nT 1395 (.invokevirtual 196, 3) (nT 1392 (.iconst 1, 1) (nT 1390 (.aload_n 0, 1) (nT 1389 (.aload_n 2, 1) nE nE) (nT 1391 (.iload_n 3, 1) nE nE)) (nT 1394 (.iaload, 1) (nT 1393 (.iadd, 1) nE nE) nE)) (nT 1405 (.goto (-1387), 3) (nT 1399 (.goto 3, 3) (nT 1398 (.pop, 1) nE nE) (nT 1402 (.iinc 3 6, 3) nE nE)) (nT 1409 (.ireturn, 1) (nT 1408 (.iconst 1, 1) nE nE) nE)))))))))
end
section
def tM : List rM := [(12, prog_14_method_133_code, i_X12_about, 2, some .int, false, 0, 0),
  (12, prog_14_method_132_code, i_X12_thoseThat, 4, some .int, false, 0, 0),
  (12, prog_14_method_43_code, i_X12_many, 1, some .int, false, 0, 0),
  (11, prog_1_method_45_code, i_X11_about, 2, some .int, false, 0, 0),
  (0, prog_2_method_7_code, i_X0_redoable, 1, some .int, false, 0, 0),
  (0, prog_2_method_6_code, i_X0_undoable, 1, some .int, false, 0, 0),
  (1, prog_3_method_8_code, i_X1_billsOfFate, 4, some .int, false, 0, 0),
  (6, prog_8_method_2_code, i_X6_get, 3, some .int, false, 0, 0),
  (6, prog_8_method_4_code, i_X6_hasCell, 2, some .boolean, false, 0, 0),
  (12, prog_14_method_131_code, i_X12_back, 3, some .int, false, 0, 0),
  (12, prog_14_method_38_code, i_X12_isIn, 3, some .boolean, false, 0, 0),
  (11, prog_1_method_44_code, i_X11_back, 2, some .int, false, 0, 0),
  (0, prog_2_method_2_code, i_X0_begin, 2, none, false, 0, 0),
  (6, prog_8_method_8_code, i_X6_copyFrom, 2, none, false, 0, 0),
  (0, prog_2_method_8_code, i_X0_slot, 2, some (.object "AyeJars$Jars"), false, 0, 0),
  (14, prog_17_method_50_code, i_J9_floorMod_7cf53, 3, some .int, false, 0, 0),
  (11, prog_1_method_46_code, i_X11_isBox, 2, some .boolean, false, 0, 0),
  (12, prog_14_method_130_code, i_X12_image, 3, some .int, false, 0, 0),
  (11, prog_1_method_43_code, i_X11_image, 2, some .int, false, 0, 0),
  (12, prog_14_method_129_code, i_X12_ask, 7, some .int, false, 0, 0),
  (12, prog_14_method_126_code, i_X12_layFits, 4, none, false, 0, 0),
  (12, prog_14_method_125_code, i_X12_doesFit, 5, some .boolean, false, 0, 0),
  (12, prog_14_method_58_code, i_X12_leave, 3, none, false, 0, 0),
  (12, prog_14_method_57_code, i_X12_fades, 2, some .int, false, 0, 0),
  (12, prog_14_method_39_code, i_X12_lesser, 2, some .int, false, 0, 0),
  (12, prog_14_method_52_code, i_X12_lossOf, 2, some .int, false, 0, 0),
  (12, prog_14_method_51_code, i_X12_sumOf, 5, some .int, false, 0, 0),
  (12, prog_14_method_40_code, i_X12_has, 2, some .boolean, false, 0, 0),
  (12, prog_14_method_36_code, i_X12_comes, 4, some .int, false, 0, 0),
  (12, prog_14_method_34_code, i_X12_two, 3, some .int, false, 0, 0),
  (12, prog_14_method_35_code, i_X12_asked, 3, some .int, false, 0, 0),
  (12, prog_14_method_3_code, i_X12_isLetter, 1, some .boolean, false, 0, 0),
  (12, prog_14_method_56_code, i_X12_breathe, 2, none, false, 0, 0),
  (12, prog_14_method_55_code, i_X12_layFresh, 2, none, false, 0, 0),
  (11, prog_1_method_42_code, i_X11_ask, 3, some .int, false, 0, 0),
  (7, prog_9_method_10_code, i_X7_nextToAsk, 10, some .int, false, 0, 0),
  (14, prog_17_method_65_code, i_J9_max_7cf53, 2, some .int, false, 0, 0),
  (16, prog_16_method_50_code, i_J13_bitCount_95d88, 2, some .int, false, 0, 0),
  (7, prog_9_method_8_code, i_X7_countWith, 5, some .int, false, 0, 0),
  (7, prog_9_method_5_code, i_X7_fitting, 5, some .long, false, 0, 0),
  (7, prog_9_method_7_code, i_X7_agrees, 6, some .boolean, false, 0, 0),
  (7, prog_9_method_6_code, i_X7_fadeStrangeJars, 3, none, false, 0, 0),
  (10, prog_12_method_9_code, i_X10_rest, 3, none, false, 0, 0),
  (10, prog_12_method_8_code, i_X10_fading, 3, some .int, false, 0, 0),
  (14, prog_17_method_69_code, i_J9_min_7cf53, 2, some .int, false, 0, 0),
  (4, prog_6_method_5_code, i_X4_value, 12, some .int, false, 0, 0),
  (4, prog_6_method_6_code, i_X4_combine, 3, some .int, false, 0, 0),
  (5, prog_7_method_8_code, i_X5_lossOf, 2, some .int, false, 0, 0),
  (5, prog_7_method_12_code, i_X5_sumOf, 4, some .int, false, 0, 0),
  (10, prog_12_method_6_code, i_X10_breathe, 2, none, false, 0, 0),
  (5, prog_7_method_7_code, i_X5_breathsOf, 2, some .int, false, 0, 0),
  (10, prog_12_method_5_code, i_X10_startEmpty, 4, none, false, 0, 0),
  (12, prog_14_method_128_code, i_X12_sure, 3, some .int, false, 0, 0),
  (12, prog_14_method_44_code, i_X12_isMember, 2, some .boolean, false, 0, 0),
  (11, prog_1_method_41_code, i_X11_sure, 3, some .int, false, 0, 0),
  (7, prog_9_method_9_code, i_X7_sureness, 6, some .int, false, 0, 0),
  (5, prog_7_method_4_code, i_X5_hasMember, 2, some .boolean, false, 0, 0),
  (12, prog_14_method_127_code, i_X12_fits, 2, some .int, false, 0, 0),
  (11, prog_1_method_40_code, i_X11_fits, 2, some .int, false, 0, 0),
  (12, prog_14_method_124_code, i_X12_later, 2, some .int, false, 0, 0),
  (11, prog_1_method_39_code, i_X11_later, 2, some .int, false, 0, 0),
  (12, prog_14_method_123_code, i_X12_untell, 2, some .boolean, false, 0, 0),
  (11, prog_1_method_38_code, i_X11_untell, 2, some .boolean, false, 0, 0),
  (7, prog_9_method_4_code, i_X7_takeBack, 3, some .boolean, false, 0, 0),
  (12, prog_14_method_122_code, i_X12_sniffed, 4, some .int, false, 0, 0),
  (11, prog_1_method_37_code, i_X11_sniffed, 4, some .int, false, 0, 0),
  (7, prog_9_method_3_code, i_X7_tell, 5, some .int, false, 0, 0),
  (12, prog_14_method_102_code, i_X12_lies, 2, some .int, false, 0, 0),
  (11, prog_1_method_36_code, i_X11_lies, 2, some .int, false, 0, 0),
  (3, prog_5_method_3_code, i_X3_lyingAt, 2, some .int, false, 0, 0),
  (12, prog_14_method_101_code, i_X12_longest, 5, some .int, false, 0, 0),
  (11, prog_1_method_35_code, i_X11_longest, 2, some .int, false, 0, 0),
  (1, prog_3_method_28_code, i_X1_longestLasting, 6, some .int, false, 0, 0),
  (12, prog_14_method_94_code, i_X12_brittle, 3, some .int, false, 0, 0),
  (12, prog_14_method_49_code, i_X12_needOf, 2, some .int, false, 0, 0),
  (12, prog_14_method_92_code, i_X12_openedShaken, 3, some .int, false, 0, 0),
  (12, prog_14_method_59_code, i_X12_onDay, 2, some .int, false, 0, 0),
  (12, prog_14_method_50_code, i_X12_dayOf, 2, some .int, false, 0, 0),
  (12, prog_14_method_54_code, i_X12_layAside, 2, none, false, 0, 0),
  (12, prog_14_method_61_code, i_X12_wouldPass, 2, some .boolean, false, 0, 0),
  (12, prog_14_method_60_code, i_X12_openedAt, 2, some .int, false, 0, 0),
  (12, prog_14_method_46_code, i_X12_isLeft, 2, some .boolean, false, 0, 0),
  (12, prog_14_method_45_code, i_X12_isBill, 2, some .boolean, false, 0, 0),
  (11, prog_1_method_34_code, i_X11_brittle, 1, some .int, false, 0, 0),
  (1, prog_3_method_27_code, i_X1_brittleBills, 3, some .int, false, 0, 0),
  (5, prog_7_method_9_code, i_X5_needsOf, 2, some .int, false, 0, 0),
  (5, prog_7_method_5_code, i_X5_hasBill, 2, some .boolean, false, 0, 0),
  (1, prog_3_method_12_code, i_X1_volumeByShaking, 3, some .int, false, 0, 0),
  (1, prog_3_method_9_code, i_X1_daysLeft, 2, some .int, false, 0, 0),
  (5, prog_7_method_10_code, i_X5_opensOf, 2, some .int, false, 0, 0),
  (10, prog_12_method_2_code, i_X10_take, 3, none, false, 0, 0),
  (1, prog_3_method_14_code, i_X1_wouldPass, 2, some .boolean, false, 0, 0),
  (1, prog_3_method_11_code, i_X1_volumeByBreathing, 4, some .int, false, 0, 0),
  (1, prog_3_method_2_code, i_X1_isKept, 2, some .boolean, false, 0, 0),
  (12, prog_14_method_99_code, i_X12_matches, 4, some .int, false, 0, 0),
  (12, prog_14_method_97_code, i_X12_joined, 4, some .int, false, 0, 0),
  (12, prog_14_method_96_code, i_X12_bringBack, 2, none, false, 0, 0),
  (12, prog_14_method_79_code, i_X12_joinBoth, 3, none, false, 0, 0),
  (12, prog_14_method_95_code, i_X12_keepNow, 2, none, false, 0, 0),
  (12, prog_14_method_78_code, i_X12_canJoin, 3, some .boolean, false, 0, 0),
  (12, prog_14_method_47_code, i_X12_isEmpty, 2, some .boolean, false, 0, 0),
  (11, prog_1_method_33_code, i_X11_matches, 1, some .int, false, 0, 0),
  (1, prog_3_method_26_code, i_X1_countMatches, 4, some .int, false, 0, 0),
  (1, prog_3_method_13_code, i_X1_jointVolume, 3, some .int, false, 0, 0),
  (10, prog_12_method_7_code, i_X10_pourIn, 3, none, false, 0, 0),
  (1, prog_3_method_5_code, i_X1_mayJoin, 3, some .boolean, false, 0, 0),
  (6, prog_8_method_5_code, i_X6_isEmpty, 2, some .boolean, false, 0, 0),
  (12, prog_14_method_71_code, i_X12_richest, 3, some .int, false, 0, 0),
  (11, prog_1_method_32_code, i_X11_richest, 1, some .int, false, 0, 0),
  (1, prog_3_method_25_code, i_X1_richestKept, 5, some .int, false, 0, 0),
  (12, prog_14_method_70_code, i_X12_wasted, 3, some .int, false, 0, 0),
  (11, prog_1_method_31_code, i_X11_wasted, 1, some .int, false, 0, 0),
  (1, prog_3_method_24_code, i_X1_volumeWasted, 3, some .int, false, 0, 0),
  (12, prog_14_method_121_code, i_X12_sabotage, 8, some .int, false, 0, 0),
  (12, prog_14_method_120_code, i_X12_forced, 3, some .int, false, 0, 0),
  (12, prog_14_method_119_code, i_X12_shakeAll, 7, some .int, false, 0, 0),
  (12, prog_14_method_81_code, i_X12_goDay, 3, some .int, false, 0, 0),
  (12, prog_14_method_75_code, i_X12_canShake, 2, some .boolean, false, 0, 0),
  (12, prog_14_method_103_code, i_X12_times, 4, some .int, false, 0, 0),
  (11, prog_1_method_30_code, i_X11_sabotage, 2, some .int, false, 0, 0),
  (3, prog_5_method_13_code, i_X3_chooseSabotage, 4, some .int, false, 0, 0),
  (3, prog_5_method_15_code, i_X3_weighSabotage, 7, none, false, 0, 0),
  (3, prog_5_method_4_code, i_X3_layTried, 2, none, false, 0, 0),
  (3, prog_5_method_9_code, i_X3_countForced, 3, some .int, false, 0, 0),
  (17, prog_22_method_103_code, i_J7_fill_53178, 4, none, false, 0, 0),
  (3, prog_5_method_14_code, i_X3_fillShaken, 7, none, false, 0, 0),
  (3, prog_5_method_2_code, i_X3_clear, 1, none, false, 0, 0),
  (12, prog_14_method_93_code, i_X12_spoil, 3, some .int, false, 0, 0),
  (11, prog_1_method_29_code, i_X11_spoil, 2, some .int, false, 0, 0),
  (1, prog_3_method_23_code, i_X1_shakesToSpoil, 3, some .int, false, 0, 0),
  (12, prog_14_method_118_code, i_X12_queue, 6, some .int, false, 0, 0),
  (12, prog_14_method_117_code, i_X12_openedByQueue, 3, some .int, false, 0, 0),
  (12, prog_14_method_116_code, i_X12_layQueue, 6, some .boolean, false, 0, 0),
  (12, prog_14_method_41_code, i_X12_bitsOf, 3, some .int, false, 0, 0),
  (11, prog_1_method_28_code, i_X11_queue, 2, some .int, false, 0, 0),
  (3, prog_5_method_10_code, i_X3_chooseQueue, 3, some .int, false, 0, 0),
  (3, prog_5_method_11_code, i_X3_extendQueue, 6, none, false, 0, 0),
  (10, prog_12_method_4_code, i_X10_copyFrom, 2, none, false, 0, 0),
  (3, prog_5_method_12_code, i_X3_weighQueue, 4, none, false, 0, 0),
  (12, prog_14_method_90_code, i_X12_ripe, 8, some .int, false, 0, 0),
  (12, prog_14_method_88_code, i_X12_openedLater, 4, some .int, false, 0, 0),
  (12, prog_14_method_48_code, i_X12_isSet, 2, some .boolean, false, 0, 0),
  (11, prog_1_method_27_code, i_X11_ripe, 5, some .int, false, 0, 0),
  (1, prog_3_method_22_code, i_X1_ripestDays, 8, some .int, false, 0, 0),
  (5, prog_7_method_6_code, i_X5_hasSet, 2, some .boolean, false, 0, 0),
  (12, prog_14_method_115_code, i_X12_mean, 4, some .int, false, 0, 0),
  (12, prog_14_method_113_code, i_X12_partOf, 6, some .int, false, 0, 0),
  (12, prog_14_method_42_code, i_X12_divisor, 5, some .int, false, 0, 0),
  (12, prog_14_method_112_code, i_X12_overParts, 7, some .int, false, 0, 0),
  (12, prog_14_method_111_code, i_X12_weightOf, 5, some .int, false, 0, 0),
  (12, prog_14_method_62_code, i_X12_openedWith, 3, some .int, false, 0, 0),
  (12, prog_14_method_110_code, i_X12_mayAll, 5, some .boolean, false, 0, 0),
  (12, prog_14_method_63_code, i_X12_mayVote, 3, some .boolean, false, 0, 0),
  (11, prog_1_method_26_code, i_X11_mean, 4, some .int, false, 0, 0),
  (2, prog_4_method_2_code, i_X2_part, 4, some .int, false, 0, 0),
  (2, prog_4_method_11_code, i_X2_commonDivisor, 7, some .long, false, 0, 0),
  (2, prog_4_method_6_code, i_X2_weighMean, 4, some .boolean, false, 0, 0),
  (2, prog_4_method_8_code, i_X2_weightOf, 4, some .long, false, 0, 0),
  (2, prog_4_method_9_code, i_X2_raise, 6, some .long, false, 0, 0),
  (15, prog_15_method_49_code, i_J6_bitCount_0f7a4, 1, some .int, false, 0, 0),
  (2, prog_4_method_7_code, i_X2_mayAllVote, 4, some .boolean, false, 0, 0),
  (1, prog_3_method_4_code, i_X1_votersFor, 3, some .int, false, 0, 0),
  (12, prog_14_method_114_code, i_X12_odds, 4, some .int, false, 0, 0),
  (11, prog_1_method_25_code, i_X11_odds, 4, some .int, false, 0, 0),
  (2, prog_4_method_5_code, i_X2_weighOdds, 4, some .boolean, false, 0, 0),
  (12, prog_14_method_100_code, i_X12_law, 4, some .int, false, 0, 0),
  (11, prog_1_method_24_code, i_X11_law, 2, some .int, false, 0, 0),
  (1, prog_3_method_21_code, i_X1_passingWithNeed, 4, some .int, false, 0, 0),
  (12, prog_14_method_98_code, i_X12_joint, 3, some .int, false, 0, 0),
  (11, prog_1_method_23_code, i_X11_joint, 3, some .int, false, 0, 0),
  (12, prog_14_method_91_code, i_X12_best, 6, some .int, false, 0, 0),
  (11, prog_1_method_22_code, i_X11_best, 2, some .int, false, 0, 0),
  (1, prog_3_method_20_code, i_X1_bestShelf, 5, some .int, false, 0, 0),
  (12, prog_14_method_109_code, i_X12_power, 6, some .int, false, 0, 0),
  (12, prog_14_method_107_code, i_X12_factorial, 3, some .int, false, 0, 0),
  (12, prog_14_method_108_code, i_X12_passesAlone, 3, some .boolean, false, 0, 0),
  (11, prog_1_method_21_code, i_X11_power, 4, some .int, false, 0, 0),
  (2, prog_4_method_3_code, i_X2_weighPower, 6, some .boolean, false, 0, 0),
  (2, prog_4_method_10_code, i_X2_factorial, 4, some .long, false, 0, 0),
  (2, prog_4_method_4_code, i_X2_passesFromEmpty, 3, some .boolean, false, 0, 0),
  (12, prog_14_method_106_code, i_X12_plan, 7, some .int, false, 0, 0),
  (12, prog_14_method_105_code, i_X12_passedByChoice, 5, some .int, false, 0, 0),
  (12, prog_14_method_104_code, i_X12_layChoice, 5, some .int, false, 0, 0),
  (11, prog_1_method_20_code, i_X11_plan, 1, some .int, false, 0, 0),
  (3, prog_5_method_5_code, i_X3_choosePlan, 3, some .int, false, 0, 0),
  (3, prog_5_method_7_code, i_X3_extendPlan, 4, none, false, 0, 0),
  (3, prog_5_method_8_code, i_X3_weighPlan, 3, none, false, 0, 0),
  (3, prog_5_method_6_code, i_X3_forcingSets, 6, some .long, false, 0, 0),
  (12, prog_14_method_89_code, i_X12_latest, 5, some .int, false, 0, 0),
  (11, prog_1_method_19_code, i_X11_latest, 3, some .int, false, 0, 0),
  (1, prog_3_method_19_code, i_X1_latestVote, 6, some .int, false, 0, 0),
  (12, prog_14_method_87_code, i_X12_muster, 6, some .int, false, 0, 0),
  (11, prog_1_method_18_code, i_X11_muster, 4, some .int, false, 0, 0),
  (1, prog_3_method_18_code, i_X1_fewestSaviours, 6, some .int, false, 0, 0),
  (12, prog_14_method_69_code, i_X12_pass, 3, some .int, false, 0, 0),
  (11, prog_1_method_17_code, i_X11_pass, 1, some .int, false, 0, 0),
  (1, prog_3_method_15_code, i_X1_passing, 3, some .int, false, 0, 0),
  (12, prog_14_method_86_code, i_X12_dull, 3, some .int, false, 0, 0),
  (11, prog_1_method_16_code, i_X11_dull, 2, some .int, false, 0, 0),
  (1, prog_3_method_17_code, i_X1_daysTillDull, 3, some .int, false, 0, 0),
  (12, prog_14_method_85_code, i_X12_will, 3, some .int, false, 0, 0),
  (11, prog_1_method_15_code, i_X11_will, 3, some .int, false, 0, 0),
  (1, prog_3_method_16_code, i_X1_volumeBehind, 3, some .int, false, 0, 0),
  (12, prog_14_method_84_code, i_X12_redo, 1, some .boolean, false, 0, 0),
  (12, prog_14_method_73_code, i_X12_exchange, 3, none, false, 0, 0),
  (11, prog_1_method_14_code, i_X11_redo, 1, some .boolean, false, 0, 0),
  (0, prog_2_method_5_code, i_X0_goOn, 2, some .boolean, false, 0, 0),
  (12, prog_14_method_83_code, i_X12_undo, 1, some .boolean, false, 0, 0),
  (11, prog_1_method_13_code, i_X11_undo, 1, some .boolean, false, 0, 0),
  (0, prog_2_method_4_code, i_X0_goBack, 2, some .boolean, false, 0, 0),
  (12, prog_14_method_82_code, i_X12_day, 1, some .int, false, 0, 0),
  (12, prog_14_method_72_code, i_X12_keepAct, 2, none, false, 0, 0),
  (11, prog_1_method_12_code, i_X11_day, 5, some .int, false, 0, 0),
  (0, prog_2_method_3_code, i_X0_keep, 2, none, false, 0, 0),
  (6, prog_8_method_3_code, i_X6_put, 4, none, false, 0, 0),
  (10, prog_12_method_3_code, i_X10_putBack, 3, none, false, 0, 0),
  (12, prog_14_method_80_code, i_X12_join, 3, some .int, false, 0, 0),
  (11, prog_1_method_11_code, i_X11_join, 3, some .int, false, 0, 0),
  (6, prog_8_method_6_code, i_X6_empty, 2, none, false, 0, 0),
  (12, prog_14_method_77_code, i_X12_shelve, 4, some .int, false, 0, 0),
  (11, prog_1_method_10_code, i_X11_shelve, 4, some .int, false, 0, 0),
  (12, prog_14_method_76_code, i_X12_shake, 2, some .int, false, 0, 0),
  (11, prog_1_method_9_code, i_X11_shake, 3, some .int, false, 0, 0),
  (12, prog_14_method_74_code, i_X12_vote, 3, some .int, false, 0, 0),
  (11, prog_1_method_8_code, i_X11_vote, 3, some .int, false, 0, 0),
  (1, prog_3_method_3_code, i_X1_mayVote, 3, some .boolean, false, 0, 0),
  (12, prog_14_method_68_code, i_X12_bill, 3, some .int, false, 0, 0),
  (12, prog_14_method_67_code, i_X12_fadesNow, 2, some .int, false, 0, 0),
  (11, prog_1_method_7_code, i_X11_bill, 3, some .int, false, 0, 0),
  (1, prog_3_method_10_code, i_X1_fadingNow, 2, some .int, false, 0, 0),
  (12, prog_14_method_66_code, i_X12_member, 3, some .int, false, 0, 0),
  (12, prog_14_method_65_code, i_X12_breathedInto, 4, some .int, false, 0, 0),
  (12, prog_14_method_64_code, i_X12_mayVoteFor, 4, some .int, false, 0, 0),
  (11, prog_1_method_6_code, i_X11_member, 3, some .int, false, 0, 0),
  (1, prog_3_method_7_code, i_X1_billsHolding, 4, some .int, false, 0, 0),
  (1, prog_3_method_6_code, i_X1_billsOpenTo, 4, some .int, false, 0, 0),
  (12, prog_14_method_37_code, i_X12_fault, 2, some .int, false, 0, 0),
  (11, prog_1_method_5_code, i_X11_fault, 2, some .int, false, 0, 0),
  (12, prog_14_method_18_code, i_X12_house, 2, some .int, false, 0, 0),
  (12, prog_14_method_53_code, i_X12_startAnew, 2, none, false, 0, 0),
  (12, prog_14_method_6_code, i_X12_isGood, 1, some .boolean, false, 0, 0),
  (12, prog_14_method_20_code, i_X12_readLine, 3, none, false, 0, 0),
  (12, prog_14_method_13_code, i_X12_must, 2, none, false, 0, 0),
  (12, prog_14_method_12_code, i_X12_misplaced, 1, none, false, 0, 0),
  (12, prog_14_method_5_code, i_X12_fails, 3, none, false, 0, 0),
  (12, prog_14_method_9_code, i_X12_goOn, 3, none, false, 0, 0),
  (12, prog_14_method_8_code, i_X12_isSign, 1, some .boolean, false, 0, 0),
  (12, prog_14_method_2_code, i_X12_sign, 2, some .int, false, 0, 0),
  (12, prog_14_method_4_code, i_X12_isDigit, 1, some .boolean, false, 0, 0),
  (12, prog_14_method_7_code, i_X12_isKept, 3, some .boolean, false, 0, 0),
  (12, prog_14_method_10_code, i_X12_isSignHere, 2, some .boolean, false, 0, 0),
  (12, prog_14_method_14_code, i_X12_numeral, 4, some .int, false, 0, 0),
  (12, prog_14_method_25_code, i_X12_readRule, 2, none, false, 0, 0),
  (12, prog_14_method_28_code, i_X12_e, 2, none, false, 0, 0),
  (12, prog_14_method_33_code, i_X12_behindUnit, 2, some .boolean, false, 0, 0),
  (12, prog_14_method_27_code, i_X12_pushE, 3, none, false, 0, 0),
  (12, prog_14_method_26_code, i_X12_emit, 3, none, false, 0, 0),
  (12, prog_14_method_32_code, i_X12_isCompared, 2, some .boolean, false, 0, 0),
  (12, prog_14_method_31_code, i_X12_rankHere, 1, some .int, false, 0, 0),
  (12, prog_14_method_11_code, i_X12_isWord, 3, some .boolean, false, 0, 0),
  (12, prog_14_method_30_code, i_X12_unit, 7, some .boolean, false, 0, 0),
  (12, prog_14_method_29_code, i_X12_wordHere, 1, some .int, false, 0, 0),
  (12, prog_14_method_24_code, i_X12_readBill, 2, none, false, 0, 0),
  (12, prog_14_method_16_code, i_X12_perhaps, 4, some .int, false, 0, 0),
  (12, prog_14_method_15_code, i_X12_after, 5, some .int, false, 0, 0),
  (12, prog_14_method_22_code, i_X12_fresh, 4, some .long, false, 0, 0),
  (12, prog_14_method_21_code, i_X12_here, 5, some .int, false, 0, 0),
  (12, prog_14_method_23_code, i_X12_readMember, 2, none, false, 0, 0),
  (12, prog_14_method_19_code, i_X12_isFull, 1, some .boolean, false, 0, 0),
  (12, prog_14_method_17_code, i_X12_clearBank, 1, none, false, 0, 0),
  (11, prog_1_method_4_code, i_X11_house, 2, some .int, false, 0, 0),
  (7, prog_9_method_2_code, i_X7_forget, 1, none, false, 0, 0),
  (6, prog_8_method_7_code, i_X6_layOut, 3, none, false, 0, 0),
  (5, prog_7_method_11_code, i_X5_shelfOf, 2, some .int, false, 0, 0),
  (5, prog_7_method_3_code, i_X5_copyFrom, 2, none, false, 0, 0),
  (4, prog_6_method_3_code, i_X4_copyFrom, 2, none, false, 0, 0),
  (8, prog_10_method_2_code, i_X8_readHouse, 3, some .boolean, false, 0, 0),
  (8, prog_10_method_9_code, i_X8_readToken, 2, some .boolean, false, 0, 0),
  (9, prog_11_method_5_code, i_X9_advance, 2, none, false, 0, 0),
  (9, prog_11_method_12_code, i_X9_isSign, 1, some .boolean, false, 0, 0),
  (9, prog_11_method_9_code, i_X9_takeNumber, 2, none, false, 0, 0),
  (9, prog_11_method_10_code, i_X9_isLetter, 1, some .boolean, false, 0, 0),
  (9, prog_11_method_6_code, i_X9_byteAt, 2, some .int, false, 0, 0),
  (9, prog_11_method_11_code, i_X9_isDigit, 1, some .boolean, false, 0, 0),
  (9, prog_11_method_7_code, i_X9_takeWord, 1, none, false, 0, 0),
  (9, prog_11_method_8_code, i_X9_tokenOf, 6, some .int, false, 0, 0),
  (8, prog_10_method_3_code, i_X8_refuse, 2, some .boolean, false, 0, 0),
  (8, prog_10_method_8_code, i_X8_readDraw, 1, some .boolean, false, 0, 0),
  (8, prog_10_method_11_code, i_X8_readPart, 4, some .boolean, false, 0, 0),
  (8, prog_10_method_7_code, i_X8_readYawn, 1, some .boolean, false, 0, 0),
  (8, prog_10_method_6_code, i_X8_readFade, 1, some .boolean, false, 0, 0),
  (8, prog_10_method_13_code, i_X8_readEither, 4, some .boolean, false, 0, 0),
  (8, prog_10_method_12_code, i_X8_write, 2, some .boolean, false, 0, 0),
  (4, prog_6_method_4_code, i_X4_append, 3, some .boolean, false, 0, 0),
  (8, prog_10_method_14_code, i_X8_readBoth, 4, some .boolean, false, 0, 0),
  (8, prog_10_method_15_code, i_X8_readOne, 4, some .boolean, false, 0, 0),
  (8, prog_10_method_16_code, i_X8_readSum, 5, some .boolean, false, 0, 0),
  (8, prog_10_method_17_code, i_X8_readTerm, 5, some .boolean, false, 0, 0),
  (8, prog_10_method_18_code, i_X8_readUnit, 6, some .boolean, false, 0, 0),
  (8, prog_10_method_5_code, i_X8_readBill, 2, some .boolean, false, 0, 0),
  (8, prog_10_method_10_code, i_X8_readName, 4, some .boolean, false, 0, 0),
  (8, prog_10_method_4_code, i_X8_readMember, 2, some .boolean, false, 0, 0),
  (9, prog_11_method_4_code, i_X9_start, 1, none, false, 0, 0),
  (5, prog_7_method_2_code, i_X5_clear, 1, none, false, 0, 0),
  (4, prog_6_method_2_code, i_X4_clear, 1, none, false, 0, 0),
  (12, prog_14_method_135_code, i_X12_end, 2, some .int, false, 0, 0),
  (11, prog_1_method_3_code, i_X11_end, 2, some .int, false, 0, 0),
  (12, prog_14_method_134_code, i_X12_feed, 8, some .int, false, 0, 0),
  (11, prog_1_method_2_code, i_X11_feed, 6, some .int, false, 0, 0),
  (9, prog_11_method_3_code, i_X9_append, 3, none, false, 0, 0),
  (9, prog_11_method_2_code, i_X9_hasRoom, 2, some .boolean, false, 0, 0),
  (12, prog_14_method_1_code, i_X12_init, 1, none, true, 38, 7805),
  (11, prog_1_method_1_code, i_X11_init, 2, none, true, 210, 7126),
  (7, prog_9_method_1_code, i_X7_init, 3, none, true, 70, 1558),
  (3, prog_5_method_1_code, i_X3_init, 6, none, true, 14, 1083),
  (10, prog_12_method_1_code, i_X10_init, 2, none, true, 0, 0),
  (2, prog_4_method_1_code, i_X2_init, 5, none, true, 0, 0),
  (1, prog_3_method_1_code, i_X1_init, 4, none, true, 0, 0),
  (0, prog_2_method_1_code, i_X0_init, 2, none, true, 83, 1435),
  (6, prog_8_method_1_code, i_X6_init, 1, none, true, 1, 30),
  (8, prog_10_method_1_code, i_X8_init, 3, none, true, 2, 11),
  (5, prog_7_method_1_code, i_X5_init, 1, none, true, 10, 608),
  (4, prog_6_method_1_code, i_X4_init, 1, none, true, 4, 574),
  (9, prog_11_method_1_code, i_X9_init, 1, none, true, 1, 1600)]
noncomputable def mT (k : Nat) : Option rM := rget tM k
def tY : List MethodName := [⟨"AyeJarsModel", "about", "(I)I"⟩,
  ⟨"AyeJarsModel", "thoseThat", "(I)I"⟩,
  ⟨"AyeJarsModel", "many", "()I"⟩,
  ⟨"AyeJars", "about", "(I)I"⟩,
  ⟨"AyeJars$Acts", "redoable", "()I"⟩,
  ⟨"AyeJars$Acts", "undoable", "()I"⟩,
  ⟨"AyeJars$Ahead", "billsOfFate", "(I)I"⟩,
  ⟨"AyeJars$Jars", "get", "(II)I"⟩,
  ⟨"AyeJars$Jars", "hasCell", "(II)Z"⟩,
  ⟨"AyeJarsModel", "back", "(I)I"⟩,
  ⟨"AyeJarsModel", "isIn", "(III)Z"⟩,
  ⟨"AyeJars", "back", "(I)I"⟩,
  ⟨"AyeJars$Acts", "begin", "(LAyeJars$Jars;)V"⟩,
  ⟨"AyeJars$Jars", "copyFrom", "(LAyeJars$Jars;)V"⟩,
  ⟨"AyeJars$Acts", "slot", "(I)LAyeJars$Jars;"⟩,
  ⟨"java/lang/Math", "floorMod", "(II)I"⟩,
  ⟨"AyeJars", "isBox", "(I)Z"⟩,
  ⟨"AyeJarsModel", "image", "(I)I"⟩,
  ⟨"AyeJars", "image", "(I)I"⟩,
  ⟨"AyeJarsModel", "ask", "(II)I"⟩,
  ⟨"AyeJarsModel", "layFits", "(I)V"⟩,
  ⟨"AyeJarsModel", "doesFit", "(II)Z"⟩,
  ⟨"AyeJarsModel", "leave", "(I)V"⟩,
  ⟨"AyeJarsModel", "fades", "()I"⟩,
  ⟨"AyeJarsModel", "lesser", "(II)I"⟩,
  ⟨"AyeJarsModel", "lossOf", "(I)I"⟩,
  ⟨"AyeJarsModel", "sumOf", "([II)I"⟩,
  ⟨"AyeJarsModel", "has", "(II)Z"⟩,
  ⟨"AyeJarsModel", "comes", "()I"⟩,
  ⟨"AyeJarsModel", "two", "(III)I"⟩,
  ⟨"AyeJarsModel", "asked", "(II)I"⟩,
  ⟨"AyeJarsModel", "isLetter", "(I)Z"⟩,
  ⟨"AyeJarsModel", "breathe", "(I)V"⟩,
  ⟨"AyeJarsModel", "layFresh", "(I)V"⟩,
  ⟨"AyeJars", "ask", "(II)I"⟩,
  ⟨"AyeJars$Nose", "nextToAsk", "(II)I"⟩,
  ⟨"java/lang/Math", "max", "(II)I"⟩,
  ⟨"java/lang/Long", "bitCount", "(J)I"⟩,
  ⟨"AyeJars$Nose", "countWith", "(JI)I"⟩,
  ⟨"AyeJars$Nose", "fitting", "(I)J"⟩,
  ⟨"AyeJars$Nose", "agrees", "(II)Z"⟩,
  ⟨"AyeJars$Nose", "fadeStrangeJars", "()V"⟩,
  ⟨"AyeJars$Trial", "rest", "(I)V"⟩,
  ⟨"AyeJars$Trial", "fading", "()I"⟩,
  ⟨"java/lang/Math", "min", "(II)I"⟩,
  ⟨"AyeJars$Formula", "value", "(IIIIII)I"⟩,
  ⟨"AyeJars$Formula", "combine", "(III)I"⟩,
  ⟨"AyeJars$House", "lossOf", "(I)I"⟩,
  ⟨"AyeJars$House", "sumOf", "([II)I"⟩,
  ⟨"AyeJars$Trial", "breathe", "(I)V"⟩,
  ⟨"AyeJars$House", "breathsOf", "(I)I"⟩,
  ⟨"AyeJars$Trial", "startEmpty", "(III)V"⟩,
  ⟨"AyeJarsModel", "sure", "(II)I"⟩,
  ⟨"AyeJarsModel", "isMember", "(I)Z"⟩,
  ⟨"AyeJars", "sure", "(II)I"⟩,
  ⟨"AyeJars$Nose", "sureness", "(II)I"⟩,
  ⟨"AyeJars$House", "hasMember", "(I)Z"⟩,
  ⟨"AyeJarsModel", "fits", "(I)I"⟩,
  ⟨"AyeJars", "fits", "(I)I"⟩,
  ⟨"AyeJarsModel", "later", "(I)I"⟩,
  ⟨"AyeJars", "later", "(I)I"⟩,
  ⟨"AyeJarsModel", "untell", "(I)Z"⟩,
  ⟨"AyeJars", "untell", "(I)Z"⟩,
  ⟨"AyeJars$Nose", "takeBack", "(II)Z"⟩,
  ⟨"AyeJarsModel", "sniffed", "(IIZ)I"⟩,
  ⟨"AyeJars", "sniffed", "(IIZ)I"⟩,
  ⟨"AyeJars$Nose", "tell", "(IIZI)I"⟩,
  ⟨"AyeJarsModel", "lies", "(I)I"⟩,
  ⟨"AyeJars", "lies", "(I)I"⟩,
  ⟨"AyeJars$Choices", "lyingAt", "(I)I"⟩,
  ⟨"AyeJarsModel", "longest", "(I)I"⟩,
  ⟨"AyeJars", "longest", "(I)I"⟩,
  ⟨"AyeJars$Ahead", "longestLasting", "(I)I"⟩,
  ⟨"AyeJarsModel", "brittle", "()I"⟩,
  ⟨"AyeJarsModel", "needOf", "(I)I"⟩,
  ⟨"AyeJarsModel", "openedShaken", "(II)I"⟩,
  ⟨"AyeJarsModel", "onDay", "(I)I"⟩,
  ⟨"AyeJarsModel", "dayOf", "(I)I"⟩,
  ⟨"AyeJarsModel", "layAside", "(I)V"⟩,
  ⟨"AyeJarsModel", "wouldPass", "(I)Z"⟩,
  ⟨"AyeJarsModel", "openedAt", "(I)I"⟩,
  ⟨"AyeJarsModel", "isLeft", "(I)Z"⟩,
  ⟨"AyeJarsModel", "isBill", "(I)Z"⟩,
  ⟨"AyeJars", "brittle", "()I"⟩,
  ⟨"AyeJars$Ahead", "brittleBills", "()I"⟩,
  ⟨"AyeJars$House", "needsOf", "(I)I"⟩,
  ⟨"AyeJars$House", "hasBill", "(I)Z"⟩,
  ⟨"AyeJars$Ahead", "volumeByShaking", "(II)I"⟩,
  ⟨"AyeJars$Ahead", "daysLeft", "(I)I"⟩,
  ⟨"AyeJars$House", "opensOf", "(I)I"⟩,
  ⟨"AyeJars$Trial", "take", "(LAyeJars$Jars;I)V"⟩,
  ⟨"AyeJars$Ahead", "wouldPass", "(I)Z"⟩,
  ⟨"AyeJars$Ahead", "volumeByBreathing", "(III)I"⟩,
  ⟨"AyeJars$Ahead", "isKept", "(I)Z"⟩,
  ⟨"AyeJarsModel", "matches", "()I"⟩,
  ⟨"AyeJarsModel", "joined", "(II)I"⟩,
  ⟨"AyeJarsModel", "bringBack", "()V"⟩,
  ⟨"AyeJarsModel", "joinBoth", "(II)V"⟩,
  ⟨"AyeJarsModel", "keepNow", "()V"⟩,
  ⟨"AyeJarsModel", "canJoin", "(II)Z"⟩,
  ⟨"AyeJarsModel", "isEmpty", "(I)Z"⟩,
  ⟨"AyeJars", "matches", "()I"⟩,
  ⟨"AyeJars$Ahead", "countMatches", "()I"⟩,
  ⟨"AyeJars$Ahead", "jointVolume", "(II)I"⟩,
  ⟨"AyeJars$Trial", "pourIn", "(LAyeJars$Jars;I)V"⟩,
  ⟨"AyeJars$Ahead", "mayJoin", "(II)Z"⟩,
  ⟨"AyeJars$Jars", "isEmpty", "(I)Z"⟩,
  ⟨"AyeJarsModel", "richest", "()I"⟩,
  ⟨"AyeJars", "richest", "()I"⟩,
  ⟨"AyeJars$Ahead", "richestKept", "()I"⟩,
  ⟨"AyeJarsModel", "wasted", "()I"⟩,
  ⟨"AyeJars", "wasted", "()I"⟩,
  ⟨"AyeJars$Ahead", "volumeWasted", "()I"⟩,
  ⟨"AyeJarsModel", "sabotage", "(I)I"⟩,
  ⟨"AyeJarsModel", "forced", "()I"⟩,
  ⟨"AyeJarsModel", "shakeAll", "(II)I"⟩,
  ⟨"AyeJarsModel", "goDay", "()I"⟩,
  ⟨"AyeJarsModel", "canShake", "(I)Z"⟩,
  ⟨"AyeJarsModel", "times", "(II)I"⟩,
  ⟨"AyeJars", "sabotage", "(I)I"⟩,
  ⟨"AyeJars$Choices", "chooseSabotage", "(I)I"⟩,
  ⟨"AyeJars$Choices", "weighSabotage", "(II)V"⟩,
  ⟨"AyeJars$Choices", "layTried", "(I)V"⟩,
  ⟨"AyeJars$Choices", "countForced", "()I"⟩,
  ⟨"java/util/Arrays", "fill", "([II)V"⟩,
  ⟨"AyeJars$Choices", "fillShaken", "(II)V"⟩,
  ⟨"AyeJars$Choices", "clear", "()V"⟩,
  ⟨"AyeJarsModel", "spoil", "(I)I"⟩,
  ⟨"AyeJars", "spoil", "(I)I"⟩,
  ⟨"AyeJars$Ahead", "shakesToSpoil", "(I)I"⟩,
  ⟨"AyeJarsModel", "queue", "(I)I"⟩,
  ⟨"AyeJarsModel", "openedByQueue", "(I)I"⟩,
  ⟨"AyeJarsModel", "layQueue", "(II)Z"⟩,
  ⟨"AyeJarsModel", "bitsOf", "(I)I"⟩,
  ⟨"AyeJars", "queue", "(I)I"⟩,
  ⟨"AyeJars$Choices", "chooseQueue", "(I)I"⟩,
  ⟨"AyeJars$Choices", "extendQueue", "(III)V"⟩,
  ⟨"AyeJars$Trial", "copyFrom", "(LAyeJars$Trial;)V"⟩,
  ⟨"AyeJars$Choices", "weighQueue", "(II)V"⟩,
  ⟨"AyeJarsModel", "ripe", "(III)I"⟩,
  ⟨"AyeJarsModel", "openedLater", "(III)I"⟩,
  ⟨"AyeJarsModel", "isSet", "(I)Z"⟩,
  ⟨"AyeJars", "ripe", "(III)I"⟩,
  ⟨"AyeJars$Ahead", "ripestDays", "(II)I"⟩,
  ⟨"AyeJars$House", "hasSet", "(I)Z"⟩,
  ⟨"AyeJarsModel", "mean", "(III)I"⟩,
  ⟨"AyeJarsModel", "partOf", "(III)I"⟩,
  ⟨"AyeJarsModel", "divisor", "(II)I"⟩,
  ⟨"AyeJarsModel", "overParts", "(IIZ)I"⟩,
  ⟨"AyeJarsModel", "weightOf", "(II)I"⟩,
  ⟨"AyeJarsModel", "openedWith", "(II)I"⟩,
  ⟨"AyeJarsModel", "mayAll", "(III)Z"⟩,
  ⟨"AyeJarsModel", "mayVote", "(II)Z"⟩,
  ⟨"AyeJars", "mean", "(III)I"⟩,
  ⟨"AyeJars$Chances", "part", "(I)I"⟩,
  ⟨"AyeJars$Chances", "commonDivisor", "(JJ)J"⟩,
  ⟨"AyeJars$Chances", "weighMean", "(II)Z"⟩,
  ⟨"AyeJars$Chances", "weightOf", "(II)J"⟩,
  ⟨"AyeJars$Chances", "raise", "(JI)J"⟩,
  ⟨"java/lang/Integer", "bitCount", "(I)I"⟩,
  ⟨"AyeJars$Chances", "mayAllVote", "(III)Z"⟩,
  ⟨"AyeJars$Ahead", "votersFor", "(I)I"⟩,
  ⟨"AyeJarsModel", "odds", "(III)I"⟩,
  ⟨"AyeJars", "odds", "(III)I"⟩,
  ⟨"AyeJars$Chances", "weighOdds", "(II)Z"⟩,
  ⟨"AyeJarsModel", "law", "(I)I"⟩,
  ⟨"AyeJars", "law", "(I)I"⟩,
  ⟨"AyeJars$Ahead", "passingWithNeed", "(I)I"⟩,
  ⟨"AyeJarsModel", "joint", "(II)I"⟩,
  ⟨"AyeJars", "joint", "(II)I"⟩,
  ⟨"AyeJarsModel", "best", "(I)I"⟩,
  ⟨"AyeJars", "best", "(I)I"⟩,
  ⟨"AyeJars$Ahead", "bestShelf", "(I)I"⟩,
  ⟨"AyeJarsModel", "power", "(III)I"⟩,
  ⟨"AyeJarsModel", "factorial", "(I)I"⟩,
  ⟨"AyeJarsModel", "passesAlone", "(II)Z"⟩,
  ⟨"AyeJars", "power", "(III)I"⟩,
  ⟨"AyeJars$Chances", "weighPower", "(II)Z"⟩,
  ⟨"AyeJars$Chances", "factorial", "(I)J"⟩,
  ⟨"AyeJars$Chances", "passesFromEmpty", "(II)Z"⟩,
  ⟨"AyeJarsModel", "plan", "()I"⟩,
  ⟨"AyeJarsModel", "passedByChoice", "()I"⟩,
  ⟨"AyeJarsModel", "layChoice", "(I)I"⟩,
  ⟨"AyeJars", "plan", "()I"⟩,
  ⟨"AyeJars$Choices", "choosePlan", "()I"⟩,
  ⟨"AyeJars$Choices", "extendPlan", "(II)V"⟩,
  ⟨"AyeJars$Choices", "weighPlan", "(I)V"⟩,
  ⟨"AyeJars$Choices", "forcingSets", "(I)J"⟩,
  ⟨"AyeJarsModel", "latest", "(II)I"⟩,
  ⟨"AyeJars", "latest", "(II)I"⟩,
  ⟨"AyeJars$Ahead", "latestVote", "(II)I"⟩,
  ⟨"AyeJarsModel", "muster", "(II)I"⟩,
  ⟨"AyeJars", "muster", "(II)I"⟩,
  ⟨"AyeJars$Ahead", "fewestSaviours", "(I)I"⟩,
  ⟨"AyeJarsModel", "pass", "()I"⟩,
  ⟨"AyeJars", "pass", "()I"⟩,
  ⟨"AyeJars$Ahead", "passing", "()I"⟩,
  ⟨"AyeJarsModel", "dull", "(I)I"⟩,
  ⟨"AyeJars", "dull", "(I)I"⟩,
  ⟨"AyeJars$Ahead", "daysTillDull", "(I)I"⟩,
  ⟨"AyeJarsModel", "will", "(II)I"⟩,
  ⟨"AyeJars", "will", "(II)I"⟩,
  ⟨"AyeJars$Ahead", "volumeBehind", "(II)I"⟩,
  ⟨"AyeJarsModel", "redo", "()Z"⟩,
  ⟨"AyeJarsModel", "exchange", "()V"⟩,
  ⟨"AyeJars", "redo", "()Z"⟩,
  ⟨"AyeJars$Acts", "goOn", "(LAyeJars$Jars;)Z"⟩,
  ⟨"AyeJarsModel", "undo", "()Z"⟩,
  ⟨"AyeJars", "undo", "()Z"⟩,
  ⟨"AyeJars$Acts", "goBack", "(LAyeJars$Jars;)Z"⟩,
  ⟨"AyeJarsModel", "day", "()I"⟩,
  ⟨"AyeJarsModel", "keepAct", "()V"⟩,
  ⟨"AyeJars", "day", "()I"⟩,
  ⟨"AyeJars$Acts", "keep", "(LAyeJars$Jars;)V"⟩,
  ⟨"AyeJars$Jars", "put", "(III)V"⟩,
  ⟨"AyeJars$Trial", "putBack", "(LAyeJars$Jars;I)V"⟩,
  ⟨"AyeJarsModel", "join", "(II)I"⟩,
  ⟨"AyeJars", "join", "(II)I"⟩,
  ⟨"AyeJars$Jars", "empty", "(I)V"⟩,
  ⟨"AyeJarsModel", "shelve", "(II)I"⟩,
  ⟨"AyeJars", "shelve", "(II)I"⟩,
  ⟨"AyeJarsModel", "shake", "(I)I"⟩,
  ⟨"AyeJars", "shake", "(I)I"⟩,
  ⟨"AyeJarsModel", "vote", "(II)I"⟩,
  ⟨"AyeJars", "vote", "(II)I"⟩,
  ⟨"AyeJars$Ahead", "mayVote", "(II)Z"⟩,
  ⟨"AyeJarsModel", "bill", "(II)I"⟩,
  ⟨"AyeJarsModel", "fadesNow", "(I)I"⟩,
  ⟨"AyeJars", "bill", "(II)I"⟩,
  ⟨"AyeJars$Ahead", "fadingNow", "(I)I"⟩,
  ⟨"AyeJarsModel", "member", "(II)I"⟩,
  ⟨"AyeJarsModel", "breathedInto", "(I)I"⟩,
  ⟨"AyeJarsModel", "mayVoteFor", "(I)I"⟩,
  ⟨"AyeJars", "member", "(II)I"⟩,
  ⟨"AyeJars$Ahead", "billsHolding", "(I)I"⟩,
  ⟨"AyeJars$Ahead", "billsOpenTo", "(I)I"⟩,
  ⟨"AyeJarsModel", "fault", "(I)I"⟩,
  ⟨"AyeJars", "fault", "(I)I"⟩,
  ⟨"AyeJarsModel", "house", "()I"⟩,
  ⟨"AyeJarsModel", "startAnew", "()V"⟩,
  ⟨"AyeJarsModel", "isGood", "()Z"⟩,
  ⟨"AyeJarsModel", "readLine", "()V"⟩,
  ⟨"AyeJarsModel", "must", "(Z)V"⟩,
  ⟨"AyeJarsModel", "misplaced", "()V"⟩,
  ⟨"AyeJarsModel", "fails", "(II)V"⟩,
  ⟨"AyeJarsModel", "goOn", "()V"⟩,
  ⟨"AyeJarsModel", "isSign", "(I)Z"⟩,
  ⟨"AyeJarsModel", "sign", "(I)I"⟩,
  ⟨"AyeJarsModel", "isDigit", "(I)Z"⟩,
  ⟨"AyeJarsModel", "isKept", "(J)Z"⟩,
  ⟨"AyeJarsModel", "isSignHere", "(I)Z"⟩,
  ⟨"AyeJarsModel", "numeral", "(II)I"⟩,
  ⟨"AyeJarsModel", "readRule", "(I)V"⟩,
  ⟨"AyeJarsModel", "e", "()V"⟩,
  ⟨"AyeJarsModel", "behindUnit", "()Z"⟩,
  ⟨"AyeJarsModel", "pushE", "(II)V"⟩,
  ⟨"AyeJarsModel", "emit", "(II)V"⟩,
  ⟨"AyeJarsModel", "isCompared", "()Z"⟩,
  ⟨"AyeJarsModel", "rankHere", "()I"⟩,
  ⟨"AyeJarsModel", "isWord", "(J)Z"⟩,
  ⟨"AyeJarsModel", "unit", "()Z"⟩,
  ⟨"AyeJarsModel", "wordHere", "()I"⟩,
  ⟨"AyeJarsModel", "readBill", "()V"⟩,
  ⟨"AyeJarsModel", "perhaps", "(JI)I"⟩,
  ⟨"AyeJarsModel", "after", "(JII)I"⟩,
  ⟨"AyeJarsModel", "fresh", "(I)J"⟩,
  ⟨"AyeJarsModel", "here", "([JII)I"⟩,
  ⟨"AyeJarsModel", "readMember", "()V"⟩,
  ⟨"AyeJarsModel", "isFull", "()Z"⟩,
  ⟨"AyeJarsModel", "clearBank", "()V"⟩,
  ⟨"AyeJars", "house", "()I"⟩,
  ⟨"AyeJars$Nose", "forget", "()V"⟩,
  ⟨"AyeJars$Jars", "layOut", "(LAyeJars$House;)V"⟩,
  ⟨"AyeJars$House", "shelfOf", "(I)I"⟩,
  ⟨"AyeJars$House", "copyFrom", "(LAyeJars$House;)V"⟩,
  ⟨"AyeJars$Formula", "copyFrom", "(LAyeJars$Formula;)V"⟩,
  ⟨"AyeJars$Reader", "readHouse", "()Z"⟩,
  ⟨"AyeJars$Reader", "readToken", "(I)Z"⟩,
  ⟨"AyeJars$Tokens", "advance", "()V"⟩,
  ⟨"AyeJars$Tokens", "isSign", "(I)Z"⟩,
  ⟨"AyeJars$Tokens", "takeNumber", "()V"⟩,
  ⟨"AyeJars$Tokens", "isLetter", "(I)Z"⟩,
  ⟨"AyeJars$Tokens", "byteAt", "(I)I"⟩,
  ⟨"AyeJars$Tokens", "isDigit", "(I)Z"⟩,
  ⟨"AyeJars$Tokens", "takeWord", "()V"⟩,
  ⟨"AyeJars$Tokens", "tokenOf", "(J)I"⟩,
  ⟨"AyeJars$Reader", "refuse", "(I)Z"⟩,
  ⟨"AyeJars$Reader", "readDraw", "()Z"⟩,
  ⟨"AyeJars$Reader", "readPart", "(III)Z"⟩,
  ⟨"AyeJars$Reader", "readYawn", "()Z"⟩,
  ⟨"AyeJars$Reader", "readFade", "()Z"⟩,
  ⟨"AyeJars$Reader", "readEither", "(I)Z"⟩,
  ⟨"AyeJars$Reader", "write", "(I)Z"⟩,
  ⟨"AyeJars$Formula", "append", "(II)Z"⟩,
  ⟨"AyeJars$Reader", "readBoth", "(I)Z"⟩,
  ⟨"AyeJars$Reader", "readOne", "(I)Z"⟩,
  ⟨"AyeJars$Reader", "readSum", "(I)Z"⟩,
  ⟨"AyeJars$Reader", "readTerm", "(I)Z"⟩,
  ⟨"AyeJars$Reader", "readUnit", "(I)Z"⟩,
  ⟨"AyeJars$Reader", "readBill", "()Z"⟩,
  ⟨"AyeJars$Reader", "readName", "([JI)Z"⟩,
  ⟨"AyeJars$Reader", "readMember", "()Z"⟩,
  ⟨"AyeJars$Tokens", "start", "()V"⟩,
  ⟨"AyeJars$House", "clear", "()V"⟩,
  ⟨"AyeJars$Formula", "clear", "()V"⟩,
  ⟨"AyeJarsModel", "end", "(I)I"⟩,
  ⟨"AyeJars", "end", "(I)I"⟩,
  ⟨"AyeJarsModel", "feed", "(IIIII)I"⟩,
  ⟨"AyeJars", "feed", "(IIIII)I"⟩,
  ⟨"AyeJars$Tokens", "append", "(I)V"⟩,
  ⟨"AyeJars$Tokens", "hasRoom", "(I)Z"⟩,
  ⟨"AyeJarsModel", "<init>", "()V"⟩,
  ⟨"AyeJars", "<init>", "()V"⟩,
  ⟨"AyeJars$Nose", "<init>", "(LAyeJars$House;LAyeJars$Trial;)V"⟩,
  ⟨"AyeJars$Choices", "<init>", "(LAyeJars$House;LAyeJars$Jars;LAyeJars$Trial;LAyeJars$Ahead;)V"⟩,
  ⟨"AyeJars$Trial", "<init>", "(LAyeJars$House;)V"⟩,
  ⟨"AyeJars$Chances", "<init>", "(LAyeJars$House;LAyeJars$Jars;LAyeJars$Trial;LAyeJars$Ahead;)V"⟩,
  ⟨"AyeJars$Ahead", "<init>", "(LAyeJars$House;LAyeJars$Jars;LAyeJars$Trial;)V"⟩,
  ⟨"AyeJars$Acts", "<init>", "()V"⟩,
  ⟨"AyeJars$Jars", "<init>", "()V"⟩,
  ⟨"AyeJars$Reader", "<init>", "(LAyeJars$Tokens;LAyeJars$House;)V"⟩,
  ⟨"AyeJars$House", "<init>", "()V"⟩,
  ⟨"AyeJars$Formula", "<init>", "()V"⟩,
  ⟨"AyeJars$Tokens", "<init>", "()V"⟩]
def mL : rM := (13, code, i_L_law, 4, some .boolean, false, 600000, 7302250)
def oN (k : Nat) : String := match k with
  | 0 => "AyeJars$Acts"
  | 1 => "AyeJars$Ahead"
  | 2 => "AyeJars$Chances"
  | 3 => "AyeJars$Choices"
  | 4 => "AyeJars$Formula"
  | 5 => "AyeJars$House"
  | 6 => "AyeJars$Jars"
  | 7 => "AyeJars$Nose"
  | 8 => "AyeJars$Reader"
  | 9 => "AyeJars$Tokens"
  | 10 => "AyeJars$Trial"
  | 11 => "AyeJars"
  | 12 => "AyeJarsModel"
  | 13 => "AyeJarsLaw"
  | 14 => "java/lang/Math"
  | 15 => "java/lang/Integer"
  | 16 => "java/lang/Long"
  | _ => "java/util/Arrays"
end
section
/-! what the plain machine's states mean, and what is said of its steps -/
def TG : List Cond := lw_tbl.filter goodWord
def tys0 (cy : Nat → ClassId) : List (ClassId × FieldType) := [(cy 13, .byte), (cy 14, .int), (cy 15, .long), (cy 16, .boolean), (cy 17, .object "AyeJars$Jars"), (cy 18, .object "AyeJars$Trial"), (cy 19, .array .int)]
def nws : List (String × Nat × MethodName) := [("AyeJars", 9, ⟨"AyeJars$Tokens", "<init>", "()V"⟩), ("AyeJars", 18, ⟨"AyeJars$House", "<init>", "()V"⟩), ("AyeJars$House", 29, ⟨"AyeJars$Formula", "<init>", "()V"⟩), ("AyeJars", 37, ⟨"AyeJars$Jars", "<init>", "()V"⟩), ("AyeJars$Acts", 15, ⟨"AyeJars$Jars", "<init>", "()V"⟩)]
def aoW (U : State) : Prop := va_AO "AyeJars$Jars" U ∧ va_AO "AyeJars$Trial" U ∧ va_Nw (.arrayOver (.array .int)) U
/-- the class's string constant: the object, its bytes, what the statics of its class hold; all of it lies below B -/
def wordsS : String := "member breath keeps bill needs opens fade yawn draw or and not volume age loss shelf shaken day "
def STR (_ : Nat) (_ : State) : Prop := True
/-- what holds of the state with which a frame begins -/
def SF (dC : Nat → ClassId) (dI : Nat → Nat → Nat) (cy : Nat → ClassId) (b B : Nat) (L : List Nat) (xs : Nat → Int32) (U : State) : Prop := va_K (dC, dI) vwCl (tys0 cy) U ∧ aoW U ∧ (∀ q ∈ nws, va_Nw (.methodLinkNest q.1 q.2.1 q.2.2 "AyeJars") U) ∧ va_X b L.length xs U U.heap ∧ b < B ∧ B ≤ U.heap.size ∧ STR B U
def FF (p : Program) (s : State) (m : MethodId) (args : Array Value) (meth : Method) (c : Code) (cc : ByteArray) (nL own : Nat) (ini : Bool) (b B : Nat) (L : List Nat) (xs : Nat → Int32) (dC : Nat → ClassId) (dI : Nat → Nat → Nat) (cy : Nat → ClassId) : Prop := p.tables.exec = Jvm.exec ∧ c.code = cc ∧ c.maxLocals = nL ∧ s.vm.findClass (oN own) = some m.cls ∧ (∀ w ∈ TG, w.before args s = true) ∧ SF dC dI cy b B L xs s ∧ (ini = true → meth.name = "<init>")
def clv (sg : Nat → Int32) (b B : Nat) (lv : rK) : List (Nat × Value) := lv.map (fun q => (q.1, rv sg b B q.2))
def Wx (p : Program) (l : Launch) (e : Env) (R : Room) (s : State) (m : MethodId) (args : Array Value) (below : List Frame) (meth : Method) (c : Code) (Q : State → Prop) (sg : Nat → Int32) (b B : Nat) (cy : Nat → ClassId) (dC : Nat → ClassId) (dI : Nat → Nat → Nat) (nL : Nat) (x : rX) : Prop :=
  ∀ (aw : List rC) (H : Heap) (locs : List Loc) (ls : Array Slot), rep x.2.2.2.1 aw → va_P (dC, dI) vwCl (rW sg b B cy aw) H → H.size = B + aw.length → va_S (rG B) s.heap H locs → lv_has ls nL (clv sg b B x.2.1) → W p l e R s m args below meth c H locs x.2.2.2.2.1 x.2.2.2.2.2 Q (F0 m x.1 ls (x.2.2.1.map (rv sg b B)))
def SG (sg : Nat → Int32) (L : List Nat) (xs : Nat → Int32) : Prop := (∀ j, j < 8 → sg (j + 8) = sg j &&& 63) ∧ (∀ j t, j < 8 → t < 32 → sg (16 + (32 * j + t)) = sg j >>> (nI t &&& 31)) ∧ (∀ u, 16 ≤ u → u < 512 → sg (u + 512) = (sg u).toInt8.toInt32) ∧ (∀ j, j < L.length → L[j]? = some (cN (xs j))) ∧ L.length < 2147483648
def RetOK (cc : ByteArray) (ret : Option FieldType) (mc ms : Nat) (v : Option rV) (x : rX) : Prop := x.2.2.2.2.1 ≤ mc ∧ x.2.2.2.2.2 ≤ ms ∧ x.2.2.1 = v.toList ∧ ((v = none ∧ ret = none ∧ decode cc x.1 = .ok (.return_, 1)) ∨ (∃ n, v = some (.inl n) ∧ ok_rt ret (.inl n) = true ∧ decode cc x.1 = .ok (.ireturn, 1)) ∨ (∃ n, v = some (.inr (.inl n)) ∧ ok_rt ret (.inr (.inl n)) = true ∧ decode cc x.1 = .ok (.lreturn, 1)) ∨ (∃ n, v = some (.inr (.inr (some n))) ∧ ok_rt ret (.inr (.inr (some n))) = true ∧ decode cc x.1 = .ok (.areturn, 1)))
def CallOK (cc : ByteArray) (own mi : Nat) (As r : List rV) (x : rX) : Prop := csum r ≤ 8 ∧ ∃ (i k np rc : Nat), kf tA own i = some (k, mi, np, rc) ∧ ((k = 0 ∧ ∃ (j : Nat) (q : rC) (As' : List rV), As = .inr (.inr (some (j + 1))) :: As' ∧ x.2.2.1 = As'.reverse ++ .inr (.inr (some (j + 1))) :: r ∧ As'.length = np ∧ wget x.2.2.2.1 j = some q ∧ q.1 = rc ∧ decode cc x.1 = .ok (.invokevirtual i, 3)) ∨ (k = 1 ∧ x.2.2.1 = As.reverse ++ r ∧ As.length = np ∧ decode cc x.1 = .ok (.invokestatic i, 3)) ∨ (k ≠ 0 ∧ k ≠ 1 ∧ k ≠ 4 ∧ k ≠ 5 ∧ ∃ (j : Nat) (As' : List rV), As = .inr (.inr (some j)) :: As' ∧ x.2.2.1 = As'.reverse ++ .inr (.inr (some j)) :: r ∧ As'.length = np ∧ decode cc x.1 = .ok (.invokespecial i, 3)))
def Sem (p : Program) (l : Launch) (e : Env) (R : Room) (s : State) (m : MethodId) (args : Array Value) (below : List Frame) (meth : Method) (c : Code) (Q : State → Prop) (sg : Nat → Int32) (b B : Nat) (cy : Nat → ClassId) (dC : Nat → ClassId) (dI : Nat → Nat → Nat) (nL : Nat) (cc : ByteArray) (own : Nat) (ret : Option FieldType) (mc ms : Nat) (o : rO) (x : rX) : Prop := match o with
  | .inl x' => Wx p l e R s m args below meth c Q sg b B cy dC dI nL x' → Wx p l e R s m args below meth c Q sg b B cy dC dI nL x
  | .inr (.inl _) => True
  | .inr (.inr (.inl q)) => Wx p l e R s m args below meth c Q sg b B cy dC dI nL q.1 → Wx p l e R s m args below meth c Q sg b B cy dC dI nL q.2 → Wx p l e R s m args below meth c Q sg b B cy dC dI nL x
  | .inr (.inr (.inr (.inl v))) => RetOK cc ret mc ms v x
  | .inr (.inr (.inr (.inr q))) => CallOK cc own q.1 q.2.1 q.2.2 x
/-! what is to be known of the tables -/
def OKCl : Prop := ∀ (ci : Nat) (C : String) (T : u_T) (N : Nat), vwCl[ci]? = some (C, T, N) → (∀ w ∈ u_ws C T N, w ∈ TG) ∧ (∀ k, k < N → parseFieldDescriptor (T k).2.2.1 = some (fty ci k)) ∧ (∀ a, a < N → ∀ b, b < N → a ≠ b → (T a).2.1 ≠ (T b).2.1) ∧ Cond.instantiable C N ∈ TG ∧ Cond.initialized C ∈ TG ∧ N = fnn ci ∧ ci < 13 ∧ (∀ k, k < N → fk (fty ci k) ≠ 4)
def OKF : Prop := ∀ (own i ci k fi kd : Nat), ((own, i), (ci, k, fi, kd)) ∈ tF → ∃ (C : String) (T : u_T) (N : Nat), vwCl[ci]? = some (C, T, N) ∧ k < N ∧ Cond.fieldLink (oN own) i (T k).1 (T k).2.1 (T k).2.2.1 ∈ TG ∧ fk (fty ci k) = kd ∧ ((fi = 0 ∧ (T k).2.2.2 = false) ∨ (fi = 1 ∧ (T k).2.2.2 = true ∧ (T k).1 = oN own) ∨ fi = 2)
def OKC : Prop := ∀ (own i ci : Nat), ((own, i), ci) ∈ tC → (ci < 13 → ∃ (C : String) (T : u_T) (N : Nat), vwCl[ci]? = some (C, T, N) ∧ Cond.classLink (oN own) i C ∈ TG) ∧ (ci = 19 → Cond.classLink (oN own) i "[[I" ∈ TG)
def OKK : Prop := ∀ (own i n : Nat), ((own, i), n) ∈ tK → (own < 100 → Cond.constant (oN own) i (nI n) ∈ TG) ∧ (100 ≤ own → Cond.constantLong (oN (own - 100)) i (lN n) ∈ TG)
def OKA4 : Prop := ∀ (own i mi np rc : Nat), ((own, i), (4, mi, np, rc)) ∈ tA → Cond.methodLink (oN own) i Lib.objectInit ∈ TG
def OKA5 : Prop := ∀ (own i mi np rc : Nat), ((own, i), (5, mi, np, rc)) ∈ tA → Cond.methodLink (oN own) i arraycopyName ∈ TG
def OKW : Prop := Cond.instanceMethod Lib.objectInit ∈ TG ∧ Cond.code Lib.objectInit ⟨#[0xb1]⟩ 1 none ∈ TG ∧ Cond.native arraycopyName ∈ TG ∧ Cond.static arraycopyName ∈ TG ∧ Cond.initialized "java/lang/System" ∈ TG ∧ Cond.arrayClass .byte ∈ TG ∧ Cond.arrayClass .int ∈ TG ∧ Cond.arrayClass .long ∈ TG ∧ Cond.arrayClass .boolean ∈ TG
def OT : Prop := OKCl ∧ OKF ∧ OKC ∧ OKK ∧ OKA4 ∧ OKA5 ∧ OKW
/-! locals -/
theorem clv_mem {sg : Nat → Int32} {b B : Nat} {lv : rK} {i : Nat} {v : rV} (h : lget lv i = some v) : (i, rv sg b B v) ∈ clv sg b B lv := List.mem_map.mpr ⟨(i, v), lget_mem h, rfl⟩
theorem clv_at {sg : Nat → Int32} {b B : Nat} {lv : rK} {i nL : Nat} {v : rV} {ls : Array Slot} (hl : lv_has ls nL (clv sg b B lv)) (h : lget lv i = some v) : ls[i]? = some (.val (rv sg b B v)) := hl.2.2 (i, rv sg b B v) (clv_mem h)
theorem nbeq (a b : Nat) : (a == b) = Nat.beq a b := by
  cases h : Nat.beq a b with
  | true => rw [Nat.eq_of_beq_eq_true h]; exact beq_self_eq_true b
  | false =>
    cases h2 : (a == b) with
    | false => rfl
    | true =>
      have := eq_of_beq h2
      subst this
      rw [Nat.beq_refl] at h
      cases h
theorem clv_filter {sg : Nat → Int32} {b B : Nat} (lv : rK) (i : Nat) : (clv sg b B lv).filter (fun q => !(q.1 == i) && !(q.1 + 1 == i && q.2.category == 2)) = clv sg b B (lv.filter (fun q => !(Nat.beq q.1 i) && !(Nat.beq (Nat.succ q.1) i && Nat.beq (ct q.2) 2))) := by
  unfold clv
  rw [List.filter_map]
  congr 1
  apply List.filter_congr
  intro q _
  show (!(q.1 == i) && !(q.1 + 1 == i && (rv sg b B q.2).category == 2)) = _
  rw [ct_eq, nbeq, nbeq, nbeq]
theorem clv_filter2 {sg : Nat → Int32} {b B : Nat} (lv : rK) (i : Nat) : (clv sg b B lv).filter (fun q => !(q.1 == i) && (!(q.1 == i + 1) && !(q.1 + 1 == i && q.2.category == 2))) = clv sg b B (lv.filter (fun q => !(Nat.beq q.1 i) && (!(Nat.beq q.1 (Nat.succ i)) && !(Nat.beq (Nat.succ q.1) i && Nat.beq (ct q.2) 2)))) := by
  unfold clv
  rw [List.filter_map]
  congr 1
  apply List.filter_congr
  intro q _
  show (!(q.1 == i) && (!(q.1 == i + 1) && !(q.1 + 1 == i && (rv sg b B q.2).category == 2))) = _
  rw [ct_eq, nbeq, nbeq, nbeq, nbeq]
theorem lput_eq {β : Type} (lv : rK) (i : Nat) (v : rV) (k : rK → β) : lput lv i v k = k ((i, v) :: lv.filter (fun q => !(Nat.beq q.1 i) && !(Nat.beq (Nat.succ q.1) i && Nat.beq (ct q.2) 2))) := by
  unfold lput
  generalize hk : (fun t => k ((i, v) :: t)) = k'
  have : k ((i, v) :: lv.filter (fun q => !(Nat.beq q.1 i) && !(Nat.beq (Nat.succ q.1) i && Nat.beq (ct q.2) 2))) = k' (lv.filter (fun q => !(Nat.beq q.1 i) && !(Nat.beq (Nat.succ q.1) i && Nat.beq (ct q.2) 2))) := by rw [← hk]
  rw [this]
  clear this hk
  induction lv generalizing k' with
  | nil => rfl
  | cons q t ih =>
    rw [List.filter_cons]
    cases hb : (!(Nat.beq q.1 i) && !(Nat.beq (Nat.succ q.1) i && Nat.beq (ct q.2) 2)) with
    | true =>
      show (bif (!(Nat.beq q.1 i) && !(Nat.beq (Nat.succ q.1) i && Nat.beq (ct q.2) 2)) then _ else _) = _
      rw [hb]
      exact ih (fun t => k' (q :: t))
    | false =>
      show (bif (!(Nat.beq q.1 i) && !(Nat.beq (Nat.succ q.1) i && Nat.beq (ct q.2) 2)) then _ else _) = _
      rw [hb]
      exact ih k'
theorem lput2_eq {β : Type} (lv : rK) (i : Nat) (v : rV) (k : rK → β) : lput2 lv i v k = k ((i, v) :: lv.filter (fun q => !(Nat.beq q.1 i) && (!(Nat.beq q.1 (Nat.succ i)) && !(Nat.beq (Nat.succ q.1) i && Nat.beq (ct q.2) 2)))) := by
  unfold lput2
  generalize hk : (fun t => k ((i, v) :: t)) = k'
  have : k ((i, v) :: lv.filter (fun q => !(Nat.beq q.1 i) && (!(Nat.beq q.1 (Nat.succ i)) && !(Nat.beq (Nat.succ q.1) i && Nat.beq (ct q.2) 2)))) = k' (lv.filter (fun q => !(Nat.beq q.1 i) && (!(Nat.beq q.1 (Nat.succ i)) && !(Nat.beq (Nat.succ q.1) i && Nat.beq (ct q.2) 2)))) := by rw [← hk]
  rw [this]
  clear this hk
  induction lv generalizing k' with
  | nil => rfl
  | cons q t ih =>
    rw [List.filter_cons]
    cases hb : (!(Nat.beq q.1 i) && (!(Nat.beq q.1 (Nat.succ i)) && !(Nat.beq (Nat.succ q.1) i && Nat.beq (ct q.2) 2))) with
    | true =>
      show (bif (!(Nat.beq q.1 i) && (!(Nat.beq q.1 (Nat.succ i)) && !(Nat.beq (Nat.succ q.1) i && Nat.beq (ct q.2) 2))) then _ else _) = _
      rw [hb]
      exact ih (fun t => k' (q :: t))
    | false =>
      show (bif (!(Nat.beq q.1 i) && (!(Nat.beq q.1 (Nat.succ i)) && !(Nat.beq (Nat.succ q.1) i && Nat.beq (ct q.2) 2))) then _ else _) = _
      rw [hb]
      exact ih k'
end
section
/-! rules: locals, constants, the stack, arithmetic, branches -/
theorem s_ildI {p : Program} {l : Launch} {e : Env} {R : Room} {s : State} {m : MethodId} {args : Array Value} {below : List Frame} {meth : Method} {c : Code} {Q : State → Prop} {sg : Nat → Int32} {b B : Nat} {L : List Nat} {dC : Nat → ClassId} {dI : Nat → Nat → Nat} {cy : Nat → ClassId} {cc : ByteArray} {nL own : Nat} {ini : Bool} {ret : Option FieldType} {mc ms : Nat} {E : rE} {pc : Nat} {lv : rK} {st : List rV} {aw : rD} {cn z : Nat} {o : rO} {i w : Nat} (hrow : ∀ (x : Int32) (H : Heap) (locs : List Loc) (cn z : Nat) (ls : Array Slot) (rest : List Value), ls[i]? = some (.val (.int x)) → W p l e R s m args below meth c H locs cn z Q (F0 m (pc + w) ls (.int x :: rest)) → W p l e R s m args below meth c H locs cn z Q (F0 m pc ls rest)) (h : h_ildI i w tT own ret ini mc ms L E pc lv st aw cn z = some o) : Sem p l e R s m args below meth c Q sg b B cy dC dI nL cc own ret mc ms o (pc, lv, st, aw, cn, z) := by
  unfold h_ildI at h
  split at h
  · next v hv =>
    cases h
    intro k aw' H locs ls hr hP hH hS hl
    exact hrow _ H locs _ _ ls _ (clv_at hl hv) (k aw' H locs ls hr hP hH hS hl)
  · cases h
theorem s_ildA {p : Program} {l : Launch} {e : Env} {R : Room} {s : State} {m : MethodId} {args : Array Value} {below : List Frame} {meth : Method} {c : Code} {Q : State → Prop} {sg : Nat → Int32} {b B : Nat} {L : List Nat} {dC : Nat → ClassId} {dI : Nat → Nat → Nat} {cy : Nat → ClassId} {cc : ByteArray} {nL own : Nat} {ini : Bool} {ret : Option FieldType} {mc ms : Nat} {E : rE} {pc : Nat} {lv : rK} {st : List rV} {aw : rD} {cn z : Nat} {o : rO} {i w : Nat} (hrow : ∀ (x : Nat) (H : Heap) (locs : List Loc) (cn z : Nat) (ls : Array Slot) (rest : List Value), ls[i]? = some (.val (.ref x)) → W p l e R s m args below meth c H locs cn z Q (F0 m (pc + w) ls (.ref x :: rest)) → W p l e R s m args below meth c H locs cn z Q (F0 m pc ls rest)) (h : h_ildA i w tT own ret ini mc ms L E pc lv st aw cn z = some o) : Sem p l e R s m args below meth c Q sg b B cy dC dI nL cc own ret mc ms o (pc, lv, st, aw, cn, z) := by
  unfold h_ildA at h
  split at h
  · next v hv =>
    cases h
    intro k aw' H locs ls hr hP hH hS hl
    exact hrow _ H locs _ _ ls _ (clv_at hl hv) (k aw' H locs ls hr hP hH hS hl)
  · cases h
theorem s_ildL {p : Program} {l : Launch} {e : Env} {R : Room} {s : State} {m : MethodId} {args : Array Value} {below : List Frame} {meth : Method} {c : Code} {Q : State → Prop} {sg : Nat → Int32} {b B : Nat} {L : List Nat} {dC : Nat → ClassId} {dI : Nat → Nat → Nat} {cy : Nat → ClassId} {cc : ByteArray} {nL own : Nat} {ini : Bool} {ret : Option FieldType} {mc ms : Nat} {E : rE} {pc : Nat} {lv : rK} {st : List rV} {aw : rD} {cn z : Nat} {o : rO} {i w : Nat} (hrow : ∀ (x : Int64) (H : Heap) (locs : List Loc) (cn z : Nat) (ls : Array Slot) (rest : List Value), ls[i]? = some (.val (.long x)) → W p l e R s m args below meth c H locs cn z Q (F0 m (pc + w) ls (.long x :: rest)) → W p l e R s m args below meth c H locs cn z Q (F0 m pc ls rest)) (h : h_ildL i w tT own ret ini mc ms L E pc lv st aw cn z = some o) : Sem p l e R s m args below meth c Q sg b B cy dC dI nL cc own ret mc ms o (pc, lv, st, aw, cn, z) := by
  unfold h_ildL at h
  split at h
  · next v hv =>
    cases h
    intro k aw' H locs ls hr hP hH hS hl
    exact hrow _ H locs _ _ ls _ (clv_at hl hv) (k aw' H locs ls hr hP hH hS hl)
  · cases h
theorem s_istI {p : Program} {l : Launch} {e : Env} {R : Room} {s : State} {m : MethodId} {args : Array Value} {below : List Frame} {meth : Method} {c : Code} {Q : State → Prop} {sg : Nat → Int32} {b B : Nat} {L : List Nat} {dC : Nat → ClassId} {dI : Nat → Nat → Nat} {cy : Nat → ClassId} {cc : ByteArray} {nL own : Nat} {ini : Bool} {ret : Option FieldType} {mc ms : Nat} {E : rE} {pc : Nat} {lv : rK} {st : List rV} {aw : rD} {cn z : Nat} {o : rO} {i w : Nat} (hrow : ∀ (x : Int32) (H : Heap) (locs : List Loc) (cn z : Nat) (ls : Array Slot) (rest : List Value) (lv lv' : List (Nat × Value)), lv_has ls nL lv → (i, Value.int x) :: lv.filter (fun q => !(q.1 == i) && !(q.1 + 1 == i && q.2.category == 2)) = lv' → (∀ ls' : Array Slot, lv_has ls' nL lv' → W p l e R s m args below meth c H locs cn z Q (F0 m (pc + w) ls' rest)) → W p l e R s m args below meth c H locs cn z Q (F0 m pc ls (.int x :: rest))) (h : h_istI i w tT own ret ini mc ms L E pc lv st aw cn z = some o) : Sem p l e R s m args below meth c Q sg b B cy dC dI nL cc own ret mc ms o (pc, lv, st, aw, cn, z) := by
  unfold h_istI at h
  split at h
  · next v r =>
    rw [lput_eq] at h
    cases h
    intro k aw' H locs ls hr hP hH hS hl
    exact hrow _ H locs _ _ ls _ _ _ hl (by rw [clv_filter]; rfl) (fun ls' hl' => k aw' H locs ls' hr hP hH hS hl')
  · cases h
theorem s_istA {p : Program} {l : Launch} {e : Env} {R : Room} {s : State} {m : MethodId} {args : Array Value} {below : List Frame} {meth : Method} {c : Code} {Q : State → Prop} {sg : Nat → Int32} {b B : Nat} {L : List Nat} {dC : Nat → ClassId} {dI : Nat → Nat → Nat} {cy : Nat → ClassId} {cc : ByteArray} {nL own : Nat} {ini : Bool} {ret : Option FieldType} {mc ms : Nat} {E : rE} {pc : Nat} {lv : rK} {st : List rV} {aw : rD} {cn z : Nat} {o : rO} {i w : Nat} (hrow : ∀ (x : Nat) (H : Heap) (locs : List Loc) (cn z : Nat) (ls : Array Slot) (rest : List Value) (lv lv' : List (Nat × Value)), lv_has ls nL lv → (i, Value.ref x) :: lv.filter (fun q => !(q.1 == i) && !(q.1 + 1 == i && q.2.category == 2)) = lv' → (∀ ls' : Array Slot, lv_has ls' nL lv' → W p l e R s m args below meth c H locs cn z Q (F0 m (pc + w) ls' rest)) → W p l e R s m args below meth c H locs cn z Q (F0 m pc ls (.ref x :: rest))) (h : h_istA i w tT own ret ini mc ms L E pc lv st aw cn z = some o) : Sem p l e R s m args below meth c Q sg b B cy dC dI nL cc own ret mc ms o (pc, lv, st, aw, cn, z) := by
  unfold h_istA at h
  split at h
  · next v r =>
    rw [lput_eq] at h
    cases h
    intro k aw' H locs ls hr hP hH hS hl
    exact hrow _ H locs _ _ ls _ _ _ hl (by rw [clv_filter]; rfl) (fun ls' hl' => k aw' H locs ls' hr hP hH hS hl')
  · cases h
theorem s_istL {p : Program} {l : Launch} {e : Env} {R : Room} {s : State} {m : MethodId} {args : Array Value} {below : List Frame} {meth : Method} {c : Code} {Q : State → Prop} {sg : Nat → Int32} {b B : Nat} {L : List Nat} {dC : Nat → ClassId} {dI : Nat → Nat → Nat} {cy : Nat → ClassId} {cc : ByteArray} {nL own : Nat} {ini : Bool} {ret : Option FieldType} {mc ms : Nat} {E : rE} {pc : Nat} {lv : rK} {st : List rV} {aw : rD} {cn z : Nat} {o : rO} {i w : Nat} (hrow : ∀ (x : Int64) (H : Heap) (locs : List Loc) (cn z : Nat) (ls : Array Slot) (rest : List Value) (lv lv' : List (Nat × Value)), lv_has ls nL lv → (i, Value.long x) :: lv.filter (fun q => !(q.1 == i) && (!(q.1 == i + 1) && !(q.1 + 1 == i && q.2.category == 2))) = lv' → (∀ ls' : Array Slot, lv_has ls' nL lv' → W p l e R s m args below meth c H locs cn z Q (F0 m (pc + w) ls' rest)) → W p l e R s m args below meth c H locs cn z Q (F0 m pc ls (.long x :: rest))) (h : h_istL i w tT own ret ini mc ms L E pc lv st aw cn z = some o) : Sem p l e R s m args below meth c Q sg b B cy dC dI nL cc own ret mc ms o (pc, lv, st, aw, cn, z) := by
  unfold h_istL at h
  split at h
  · next v r =>
    rw [lput2_eq] at h
    cases h
    intro k aw' H locs ls hr hP hH hS hl
    exact hrow _ H locs _ _ ls _ _ _ hl (by rw [clv_filter2]; rfl) (fun ls' hl' => k aw' H locs ls' hr hP hH hS hl')
  · cases h
theorem s_con {p : Program} {l : Launch} {e : Env} {R : Room} {s : State} {m : MethodId} {args : Array Value} {below : List Frame} {meth : Method} {c : Code} {Q : State → Prop} {sg : Nat → Int32} {b B : Nat} {L : List Nat} {dC : Nat → ClassId} {dI : Nat → Nat → Nat} {cy : Nat → ClassId} {cc : ByteArray} {nL own : Nat} {ini : Bool} {ret : Option FieldType} {mc ms : Nat} {E : rE} {pc : Nat} {lv : rK} {st : List rV} {aw : rD} {cn z : Nat} {o : rO} {n w : Nat} {x : Int32} (hx : ri sg n = x) (hrow : ∀ (H : Heap) (locs : List Loc) (cn z : Nat) (ls : Array Slot) (rest : List Value), W p l e R s m args below meth c H locs cn z Q (F0 m (pc + w) ls (.int x :: rest)) → W p l e R s m args below meth c H locs cn z Q (F0 m pc ls rest)) (h : h_con n w tT own ret ini mc ms L E pc lv st aw cn z = some o) : Sem p l e R s m args below meth c Q sg b B cy dC dI nL cc own ret mc ms o (pc, lv, st, aw, cn, z) := by
  unfold h_con at h
  cases h
  intro k aw' H locs ls hr hP hH hS hl
  refine hrow H locs _ _ ls _ ?_
  have := k aw' H locs ls hr hP hH hS hl
  rw [← hx]
  exact this
theorem s_conL {p : Program} {l : Launch} {e : Env} {R : Room} {s : State} {m : MethodId} {args : Array Value} {below : List Frame} {meth : Method} {c : Code} {Q : State → Prop} {sg : Nat → Int32} {b B : Nat} {L : List Nat} {dC : Nat → ClassId} {dI : Nat → Nat → Nat} {cy : Nat → ClassId} {cc : ByteArray} {nL own : Nat} {ini : Bool} {ret : Option FieldType} {mc ms : Nat} {E : rE} {pc : Nat} {lv : rK} {st : List rV} {aw : rD} {cn z : Nat} {o : rO} {n w : Nat} {x : Int64} (hx : lN n = x) (hrow : ∀ (H : Heap) (locs : List Loc) (cn z : Nat) (ls : Array Slot) (rest : List Value), W p l e R s m args below meth c H locs cn z Q (F0 m (pc + w) ls (.long x :: rest)) → W p l e R s m args below meth c H locs cn z Q (F0 m pc ls rest)) (h : h_conL n w tT own ret ini mc ms L E pc lv st aw cn z = some o) : Sem p l e R s m args below meth c Q sg b B cy dC dI nL cc own ret mc ms o (pc, lv, st, aw, cn, z) := by
  unfold h_conL at h
  cases h
  intro k aw' H locs ls hr hP hH hS hl
  refine hrow H locs _ _ ls _ ?_
  have := k aw' H locs ls hr hP hH hS hl
  rw [← hx]
  exact this
theorem s_ldcw {p : Program} {l : Launch} {e : Env} {R : Room} {s : State} {m : MethodId} {args : Array Value} {below : List Frame} {meth : Method} {c : Code} {Q : State → Prop} {sg : Nat → Int32} {b B : Nat} {L : List Nat} {xs : Nat → Int32} {dC : Nat → ClassId} {dI : Nat → Nat → Nat} {cy : Nat → ClassId} {cc : ByteArray} {nL own : Nat} {ini : Bool} {ret : Option FieldType} {mc ms : Nat} {E : rE} {pc : Nat} {lv : rK} {st : List rV} {aw : rD} {cn z : Nat} {o : rO} {i : Nat} (F : FF p s m args meth c cc nL own ini b B L xs dC dI cy) (hO : OT) (hdg : decode cc pc = .ok (.ldc_w i, 3)) (hown : own < 100) (h : h_ldcw i tT own ret ini mc ms L E pc lv st aw cn z = some o) : Sem p l e R s m args below meth c Q sg b B cy dC dI nL cc own ret mc ms o (pc, lv, st, aw, cn, z) := by
  obtain ⟨hx, hb, hml, ho, hts, hsf, hin⟩ := F
  unfold h_ldcw at h
  split at h
  · next n hn =>
    cases hbb : Nat.ble n 4294967295 with
    | false => rw [hbb] at h; cases h
    | true =>
      rw [hbb, cond_true] at h
      cases h
      intro k aw' H locs ls hr hP hH hS hl
      refine lv_ldcw hx hb ho (hts _ ((hO.2.2.2.1 own i n (kf_mem hn)).1 hown)) hdg ?_
      have := k aw' H locs ls hr hP hH hS hl
      have e : ri sg n = nI n := ri_c (Nat.lt_succ_of_le (Nat.le_of_ble_eq_true hbb))
      rw [← e]
      exact this
  · cases h
theorem s_ldc2 {p : Program} {l : Launch} {e : Env} {R : Room} {s : State} {m : MethodId} {args : Array Value} {below : List Frame} {meth : Method} {c : Code} {Q : State → Prop} {sg : Nat → Int32} {b B : Nat} {L : List Nat} {xs : Nat → Int32} {dC : Nat → ClassId} {dI : Nat → Nat → Nat} {cy : Nat → ClassId} {cc : ByteArray} {nL own : Nat} {ini : Bool} {ret : Option FieldType} {mc ms : Nat} {E : rE} {pc : Nat} {lv : rK} {st : List rV} {aw : rD} {cn z : Nat} {o : rO} {i : Nat} (F : FF p s m args meth c cc nL own ini b B L xs dC dI cy) (hO : OT) (hdg : decode cc pc = .ok (.ldc2_w i, 3)) (h : h_ldc2 i tT own ret ini mc ms L E pc lv st aw cn z = some o) : Sem p l e R s m args below meth c Q sg b B cy dC dI nL cc own ret mc ms o (pc, lv, st, aw, cn, z) := by
  obtain ⟨hx, hb, hml, ho, hts, hsf, hin⟩ := F
  unfold h_ldc2 at h
  split at h
  · next n hn =>
    cases h
    intro k aw' H locs ls hr hP hH hS hl
    have h1 := (hO.2.2.2.1 (Nat.add 100 own) i n (kf_mem hn)).2 (Nat.le_add_right 100 own)
    have e : Nat.add 100 own - 100 = own := Nat.add_sub_cancel_left 100 own
    rw [e] at h1
    exact lv_ldc2 hx hb ho (hts _ h1) hdg (k aw' H locs ls hr hP hH hS hl)
  · cases h
theorem s_iinc {p : Program} {l : Launch} {e : Env} {R : Room} {s : State} {m : MethodId} {args : Array Value} {below : List Frame} {meth : Method} {c : Code} {Q : State → Prop} {sg : Nat → Int32} {b B : Nat} {L : List Nat} {xs : Nat → Int32} {dC : Nat → ClassId} {dI : Nat → Nat → Nat} {cy : Nat → ClassId} {cc : ByteArray} {nL own : Nat} {ini : Bool} {ret : Option FieldType} {mc ms : Nat} {E : rE} {pc : Nat} {lv : rK} {st : List rV} {aw : rD} {cn z : Nat} {o : rO} {i : Nat} {n : Int} (F : FF p s m args meth c cc nL own ini b B L xs dC dI cy) (hE : eOK sg E) (hdg : decode cc pc = .ok (.iinc i n, 3)) (hi : i < nL) (h : h_iinc i n tT own ret ini mc ms L E pc lv st aw cn z = some o) : Sem p l e R s m args below meth c Q sg b B cy dC dI nL cc own ret mc ms o (pc, lv, st, aw, cn, z) := by
  obtain ⟨hx, hb, hml, ho, hts, hsf, hin⟩ := F
  unfold h_iinc at h
  split at h
  · next v hv =>
    split at h
    · next a ha =>
      rw [fN_eq, lput_eq] at h
      cases h
      intro k aw' H locs ls hr hP hH hS hl
      have hmem := clv_mem (sg := sg) (b := b) (B := B) hv
      obtain ⟨q, hq⟩ := List.getElem?_of_mem hmem
      refine lv_iinc (v := nI a + Int32.ofInt n) hx hb hdg hl (k := q) hq ?_ hi (by rw [clv_filter]) (fun ls' hl' => k aw' H locs ls' hr hP hH hS ?_)
      · rw [(nd_ok hE ha).2]
      · have e : ri sg (cN (nI a + Int32.ofInt n)) = nI a + Int32.ofInt n := ri_cN _
        show lv_has ls' nL ((i, Value.int (ri sg (cN (nI a + Int32.ofInt n)))) :: _)
        rw [e]
        exact hl'
    · cases h
  · cases h
theorem tg_ok {pc t : Nat} {off : Int} (h : tg pc off = some t) : (pc : Int) + off = (t : Int) := by
  unfold tg at h
  split at h
  · next t' ht => cases h; exact ht
  · cases h
theorem s_goto {p : Program} {l : Launch} {e : Env} {R : Room} {s : State} {m : MethodId} {args : Array Value} {below : List Frame} {meth : Method} {c : Code} {Q : State → Prop} {sg : Nat → Int32} {b B : Nat} {L : List Nat} {xs : Nat → Int32} {dC : Nat → ClassId} {dI : Nat → Nat → Nat} {cy : Nat → ClassId} {cc : ByteArray} {nL own : Nat} {ini : Bool} {ret : Option FieldType} {mc ms : Nat} {E : rE} {pc : Nat} {lv : rK} {st : List rV} {aw : rD} {cn z : Nat} {o : rO} {off : Int} (F : FF p s m args meth c cc nL own ini b B L xs dC dI cy) (hdg : decode cc pc = .ok (.goto off, 3)) (h : h_goto off tT own ret ini mc ms L E pc lv st aw cn z = some o) : Sem p l e R s m args below meth c Q sg b B cy dC dI nL cc own ret mc ms o (pc, lv, st, aw, cn, z) := by
  obtain ⟨hx, hb, hml, ho, hts, hsf, hin⟩ := F
  unfold h_goto at h
  split at h
  · next t ht =>
    cases h
    intro k aw' H locs ls hr hP hH hS hl
    exact lv_goto hx hb hdg (tg_ok ht) (k aw' H locs ls hr hP hH hS hl)
  · cases h
theorem s_dup {p : Program} {l : Launch} {e : Env} {R : Room} {s : State} {m : MethodId} {args : Array Value} {below : List Frame} {meth : Method} {c : Code} {Q : State → Prop} {sg : Nat → Int32} {b B : Nat} {L : List Nat} {xs : Nat → Int32} {dC : Nat → ClassId} {dI : Nat → Nat → Nat} {cy : Nat → ClassId} {cc : ByteArray} {nL own : Nat} {ini : Bool} {ret : Option FieldType} {mc ms : Nat} {E : rE} {pc : Nat} {lv : rK} {st : List rV} {aw : rD} {cn z : Nat} {o : rO} (F : FF p s m args meth c cc nL own ini b B L xs dC dI cy) (hdg : decode cc pc = .ok (.dup, 1)) (h : h_dup tT own ret ini mc ms L E pc lv st aw cn z = some o) : Sem p l e R s m args below meth c Q sg b B cy dC dI nL cc own ret mc ms o (pc, lv, st, aw, cn, z) := by
  obtain ⟨hx, hb, hml, ho, hts, hsf, hin⟩ := F
  unfold h_dup at h
  split at h
  · next v r =>
    cases hc : Nat.beq (ct v) 1 with
    | false => rw [hc] at h; cases h
    | true =>
      rw [hc, cond_true] at h
      cases h
      intro k aw' H locs ls hr hP hH hS hl
      exact lv_dup hx hb hdg (by rw [ct_eq]; exact Nat.eq_of_beq_eq_true hc) (k aw' H locs ls hr hP hH hS hl)
  · cases h
theorem s_dup2 {p : Program} {l : Launch} {e : Env} {R : Room} {s : State} {m : MethodId} {args : Array Value} {below : List Frame} {meth : Method} {c : Code} {Q : State → Prop} {sg : Nat → Int32} {b B : Nat} {L : List Nat} {xs : Nat → Int32} {dC : Nat → ClassId} {dI : Nat → Nat → Nat} {cy : Nat → ClassId} {cc : ByteArray} {nL own : Nat} {ini : Bool} {ret : Option FieldType} {mc ms : Nat} {E : rE} {pc : Nat} {lv : rK} {st : List rV} {aw : rD} {cn z : Nat} {o : rO} (F : FF p s m args meth c cc nL own ini b B L xs dC dI cy) (hdg : decode cc pc = .ok (.dup2, 1)) (h : h_dup2 tT own ret ini mc ms L E pc lv st aw cn z = some o) : Sem p l e R s m args below meth c Q sg b B cy dC dI nL cc own ret mc ms o (pc, lv, st, aw, cn, z) := by
  obtain ⟨hx, hb, hml, ho, hts, hsf, hin⟩ := F
  unfold h_dup2 at h
  split at h
  · next v w r =>
    cases hc : (Nat.beq (ct v) 1 && Nat.beq (ct w) 1) with
    | false => rw [hc] at h; cases h
    | true =>
      rw [hc, cond_true] at h
      cases h
      rw [Bool.and_eq_true] at hc
      intro k aw' H locs ls hr hP hH hS hl
      exact lv_dup2_11 hx hb hdg (by rw [ct_eq]; exact Nat.eq_of_beq_eq_true hc.1) (by rw [ct_eq]; exact Nat.eq_of_beq_eq_true hc.2) (k aw' H locs ls hr hP hH hS hl)
  · cases h
/-! arithmetic -/
theorem shr0 (y : Int32) : (0 : Int32) >>> y = 0 := by
  apply Int32.toBitVec_inj.mp
  simp
theorem sp_ok {sg : Nat → Int32} {L : List Nat} {xs : Nat → Int32} (hs : SG sg L xs) {k x y n : Nat} (h : sp k x y = some n) : ri sg n = op k (ri sg x) (ri sg y) := by
  unfold sp at h
  split at h
  · cases h1 : Nat.beq x 0 with
    | true =>
      rw [h1, cond_true] at h
      cases h
      rw [Nat.eq_of_beq_eq_true h1]
      show ri sg y = nI 0 + ri sg y
      rw [nI_0]
      simp
    | false =>
      rw [h1, cond_false] at h
      cases h2 : Nat.beq y 0 with
      | false => rw [h2] at h; cases h
      | true =>
        rw [h2, cond_true] at h
        cases h
        rw [Nat.eq_of_beq_eq_true h2]
        show ri sg x = ri sg x + nI 0
        rw [nI_0]
        simp
  · cases h1 : (Nat.beq y 63 && (Nat.ble 4294967296 x && Nat.ble x 4294967303)) with
    | false => rw [h1] at h; cases h
    | true =>
      rw [h1, cond_true] at h
      cases h
      rw [Bool.and_eq_true, Bool.and_eq_true] at h1
      obtain ⟨h2, h3, h4⟩ := h1
      have h2 := Nat.eq_of_beq_eq_true h2
      have h3 := Nat.le_of_ble_eq_true h3
      have h4 := Nat.le_of_ble_eq_true h4
      obtain ⟨j, rfl⟩ : ∃ j, x = 4294967296 + j := ⟨x - 4294967296, by omega⟩
      subst h2
      have e : Nat.add (4294967296 + j) 8 = 4294967296 + (j + 8) := by show 4294967296 + j + 8 = _; omega
      rw [e, ri_u, ri_u, hs.1 j (by omega)]
      rfl
  · cases h1 : Nat.beq x 0 with
    | true =>
      rw [h1, cond_true] at h
      cases h
      rw [Nat.eq_of_beq_eq_true h1]
      show nI 0 = nI 0 >>> (ri sg y &&& 31)
      rw [nI_0, shr0]
    | false =>
      rw [h1, cond_false] at h
      cases h2 : (Nat.ble 4294967296 x && (Nat.ble x 4294967303 && Nat.ble y 31)) with
      | false => rw [h2] at h; cases h
      | true =>
        rw [h2, cond_true] at h
        cases h
        rw [Bool.and_eq_true, Bool.and_eq_true] at h2
        obtain ⟨h3, h4, h5⟩ := h2
        have h3 := Nat.le_of_ble_eq_true h3
        have h4 := Nat.le_of_ble_eq_true h4
        have h5 := Nat.le_of_ble_eq_true h5
        obtain ⟨j, rfl⟩ : ∃ j, x = 4294967296 + j := ⟨x - 4294967296, by omega⟩
        have e : Nat.add 4294967312 (Nat.add (Nat.mul 32 (Nat.sub (4294967296 + j) 4294967296)) y) = 4294967296 + (16 + (32 * j + y)) := by
          show 4294967312 + (32 * (4294967296 + j - 4294967296) + y) = _
          omega
        rw [e, ri_u, ri_u, hs.2.1 j y (by omega) (by omega)]
        show _ = sg j >>> (ri sg y &&& 31)
        rw [ri_c (by omega)]
  · cases h
theorem s_aop {p : Program} {l : Launch} {e : Env} {R : Room} {s : State} {m : MethodId} {args : Array Value} {below : List Frame} {meth : Method} {c : Code} {Q : State → Prop} {sg : Nat → Int32} {b B : Nat} {L : List Nat} {xs : Nat → Int32} {dC : Nat → ClassId} {dI : Nat → Nat → Nat} {cy : Nat → ClassId} {cc : ByteArray} {nL own : Nat} {ini : Bool} {ret : Option FieldType} {mc ms : Nat} {E : rE} {pc : Nat} {lv : rK} {st : List rV} {aw : rD} {cn z : Nat} {o : rO} {k : Nat} (hs : SG sg L xs) (hE : eOK sg E) (hrow : ∀ (x y : Int32) (H : Heap) (locs : List Loc) (cn z : Nat) (ls : Array Slot) (rest : List Value), (8 ≤ k → ¬ y = 0) → W p l e R s m args below meth c H locs cn z Q (F0 m (pc + 1) ls (.int (op k x y) :: rest)) → W p l e R s m args below meth c H locs cn z Q (F0 m pc ls (.int y :: .int x :: rest))) (hk : 8 ≤ k → ∀ x y, sp k x y = none) (h : h_aop k tT own ret ini mc ms L E pc lv st aw cn z = some o) : Sem p l e R s m args below meth c Q sg b B cy dC dI nL cc own ret mc ms o (pc, lv, st, aw, cn, z) := by
  unfold h_aop aop at h
  have fin : ∀ (x y n : Nat) (r : List rV), ri sg n = op k (ri sg x) (ri sg y) → (8 ≤ k → ¬ ri sg y = 0) → Wx p l e R s m args below meth c Q sg b B cy dC dI nL (Nat.add pc 1, lv, .inl n :: r, aw, cn, z) → Wx p l e R s m args below meth c Q sg b B cy dC dI nL (pc, lv, .inl y :: .inl x :: r, aw, cn, z) := by
    intro x y n r e h8 kk aw' H locs ls hr hP hH hS hl
    refine hrow (ri sg x) (ri sg y) H locs _ _ ls _ h8 ?_
    rw [← e]
    exact kk aw' H locs ls hr hP hH hS hl
  have spz : ∀ (x : Nat) (q : rO), spl E x = some q → Sem p l e R s m args below meth c Q sg b B cy dC dI nL cc own ret mc ms q (pc, lv, st, aw, cn, z) := by
    intro x q hq
    unfold spl at hq
    cases hb : (Nat.ble 4294967296 x && Nat.ble (Nat.sub (iv E x).2 (iv E x).1) 64) with
    | false => rw [hb] at hq; cases hq
    | true => rw [hb, cond_true] at hq; cases hq; exact True.intro
  split at h
  · next y x r =>
    split at h
    · next a ha =>
      split at h
      · next d hd =>
        cases hz : (Nat.ble 8 k && Nat.beq d 0) with
        | true => rw [hz] at h; cases h
        | false =>
          rw [hz, cond_false, fN_eq] at h
          cases h
          refine fin x y _ r ?_ ?_
          · rw [ri_cN, (nd_ok hE ha).2, (nd_ok hE hd).2]
          · intro h8 h0
            rw [Bool.and_eq_false_iff] at hz
            rcases hz with hz | hz
            · rw [Nat.ble_eq_true_of_le h8] at hz
              cases hz
            · rw [(nd_ok hE hd).2] at h0
              have e0 : nI d = nI 0 := h0
              have e1 := congrArg bz e0
              rw [bz_nI (nd_ok hE hd).1, bz_nI (by decide)] at e1
              have e2 := congrArg un e1
              rw [un_un (nd_ok hE hd).1, un_un (by decide)] at e2
              subst e2
              cases hz
      · split at h
        · next n hn =>
          cases h
          refine fin x y n r (sp_ok hs hn) (fun h8 => ?_)
          rw [hk h8] at hn
          cases hn
        · exact spz y o h
    · split at h
      · next n hn =>
        cases h
        refine fin x y n r (sp_ok hs hn) (fun h8 => ?_)
        rw [hk h8] at hn
        cases hn
      · exact spz x o h
  · cases h
theorem s_aopL {p : Program} {l : Launch} {e : Env} {R : Room} {s : State} {m : MethodId} {args : Array Value} {below : List Frame} {meth : Method} {c : Code} {Q : State → Prop} {sg : Nat → Int32} {b B : Nat} {L : List Nat} {dC : Nat → ClassId} {dI : Nat → Nat → Nat} {cy : Nat → ClassId} {cc : ByteArray} {nL own : Nat} {ini : Bool} {ret : Option FieldType} {mc ms : Nat} {E : rE} {pc : Nat} {lv : rK} {st : List rV} {aw : rD} {cn z : Nat} {o : rO} {k : Nat} (hrow : ∀ (x y : Int64) (H : Heap) (locs : List Loc) (cn z : Nat) (ls : Array Slot) (rest : List Value), W p l e R s m args below meth c H locs cn z Q (F0 m (pc + 1) ls (.long (opL k x y) :: rest)) → W p l e R s m args below meth c H locs cn z Q (F0 m pc ls (.long y :: .long x :: rest))) (h : h_aopL k tT own ret ini mc ms L E pc lv st aw cn z = some o) : Sem p l e R s m args below meth c Q sg b B cy dC dI nL cc own ret mc ms o (pc, lv, st, aw, cn, z) := by
  unfold h_aopL aopL at h
  split at h
  · next y x r =>
    rw [fN_eq] at h
    cases h
    intro kk aw' H locs ls hr hP hH hS hl
    refine hrow (lN x) (lN y) H locs _ _ ls _ ?_
    rw [← lN_cL (opL k (lN x) (lN y))]
    exact kk aw' H locs ls hr hP hH hS hl
  · cases h
theorem s_aopS {p : Program} {l : Launch} {e : Env} {R : Room} {s : State} {m : MethodId} {args : Array Value} {below : List Frame} {meth : Method} {c : Code} {Q : State → Prop} {sg : Nat → Int32} {b B : Nat} {L : List Nat} {dC : Nat → ClassId} {dI : Nat → Nat → Nat} {cy : Nat → ClassId} {cc : ByteArray} {nL own : Nat} {ini : Bool} {ret : Option FieldType} {mc ms : Nat} {E : rE} {pc : Nat} {lv : rK} {st : List rV} {aw : rD} {cn z : Nat} {o : rO} {k : Nat} (hE : eOK sg E) (hrow : ∀ (x : Int64) (y : Int32) (H : Heap) (locs : List Loc) (cn z : Nat) (ls : Array Slot) (rest : List Value), W p l e R s m args below meth c H locs cn z Q (F0 m (pc + 1) ls (.long (opS k x y) :: rest)) → W p l e R s m args below meth c H locs cn z Q (F0 m pc ls (.int y :: .long x :: rest))) (h : h_aopS k tT own ret ini mc ms L E pc lv st aw cn z = some o) : Sem p l e R s m args below meth c Q sg b B cy dC dI nL cc own ret mc ms o (pc, lv, st, aw, cn, z) := by
  unfold h_aopS aopS at h
  split at h
  · next y x r =>
    split at h
    · next d hd =>
      rw [fN_eq] at h
      cases h
      intro kk aw' H locs ls hr hP hH hS hl
      refine hrow (lN x) (ri sg y) H locs _ _ ls _ ?_
      rw [(nd_ok hE hd).2, ← lN_cL (opS k (lN x) (nI d))]
      exact kk aw' H locs ls hr hP hH hS hl
    · cases h
  · cases h
theorem s_lcmp {p : Program} {l : Launch} {e : Env} {R : Room} {s : State} {m : MethodId} {args : Array Value} {below : List Frame} {meth : Method} {c : Code} {Q : State → Prop} {sg : Nat → Int32} {b B : Nat} {L : List Nat} {xs : Nat → Int32} {dC : Nat → ClassId} {dI : Nat → Nat → Nat} {cy : Nat → ClassId} {cc : ByteArray} {nL own : Nat} {ini : Bool} {ret : Option FieldType} {mc ms : Nat} {E : rE} {pc : Nat} {lv : rK} {st : List rV} {aw : rD} {cn z : Nat} {o : rO} (F : FF p s m args meth c cc nL own ini b B L xs dC dI cy) (hdg : decode cc pc = .ok (.lcmp, 1)) (h : h_lcmp tT own ret ini mc ms L E pc lv st aw cn z = some o) : Sem p l e R s m args below meth c Q sg b B cy dC dI nL cc own ret mc ms o (pc, lv, st, aw, cn, z) := by
  obtain ⟨hx, hb, hml, ho, hts, hsf, hin⟩ := F
  unfold h_lcmp at h
  split at h
  · next y x r =>
    rw [fN_eq] at h
    cases h
    intro kk aw' H locs ls hr hP hH hS hl
    refine W.lcmp hx hb hdg ?_
    rw [← ri_cN (sg := sg) (lg_cmp (lN x) (lN y))]
    exact kk aw' H locs ls hr hP hH hS hl
  · cases h
theorem s_l2i {p : Program} {l : Launch} {e : Env} {R : Room} {s : State} {m : MethodId} {args : Array Value} {below : List Frame} {meth : Method} {c : Code} {Q : State → Prop} {sg : Nat → Int32} {b B : Nat} {L : List Nat} {xs : Nat → Int32} {dC : Nat → ClassId} {dI : Nat → Nat → Nat} {cy : Nat → ClassId} {cc : ByteArray} {nL own : Nat} {ini : Bool} {ret : Option FieldType} {mc ms : Nat} {E : rE} {pc : Nat} {lv : rK} {st : List rV} {aw : rD} {cn z : Nat} {o : rO} (F : FF p s m args meth c cc nL own ini b B L xs dC dI cy) (hdg : decode cc pc = .ok (.l2i, 1)) (h : h_l2i tT own ret ini mc ms L E pc lv st aw cn z = some o) : Sem p l e R s m args below meth c Q sg b B cy dC dI nL cc own ret mc ms o (pc, lv, st, aw, cn, z) := by
  obtain ⟨hx, hb, hml, ho, hts, hsf, hin⟩ := F
  unfold h_l2i at h
  split at h
  · next x r =>
    rw [fN_eq] at h
    cases h
    intro kk aw' H locs ls hr hP hH hS hl
    refine lv_l2i hx hb hdg rfl ?_
    rw [← ri_cN (sg := sg) ((lN x).toInt32)]
    exact kk aw' H locs ls hr hP hH hS hl
  · cases h
theorem s_i2b {p : Program} {l : Launch} {e : Env} {R : Room} {s : State} {m : MethodId} {args : Array Value} {below : List Frame} {meth : Method} {c : Code} {Q : State → Prop} {sg : Nat → Int32} {b B : Nat} {L : List Nat} {xs : Nat → Int32} {dC : Nat → ClassId} {dI : Nat → Nat → Nat} {cy : Nat → ClassId} {cc : ByteArray} {nL own : Nat} {ini : Bool} {ret : Option FieldType} {mc ms : Nat} {E : rE} {pc : Nat} {lv : rK} {st : List rV} {aw : rD} {cn z : Nat} {o : rO} (F : FF p s m args meth c cc nL own ini b B L xs dC dI cy) (hE : eOK sg E) (hdg : decode cc pc = .ok (.i2b, 1)) (h : h_i2b tT own ret ini mc ms L E pc lv st aw cn z = some o) : Sem p l e R s m args below meth c Q sg b B cy dC dI nL cc own ret mc ms o (pc, lv, st, aw, cn, z) := by
  obtain ⟨hx, hb, hml, ho, hts, hsf, hin⟩ := F
  unfold h_i2b at h
  split at h
  · next x r =>
    split at h
    · next a ha =>
      rw [fN_eq] at h
      cases h
      intro kk aw' H locs ls hr hP hH hS hl
      refine lv_i2b (x := ri sg x) hx hb hdg rfl ?_
      rw [(nd_ok hE ha).2, ← ri_cN (sg := sg) ((nI a).toInt8.toInt32)]
      exact kk aw' H locs ls hr hP hH hS hl
    · cases h
  · cases h
theorem s_i2l {p : Program} {l : Launch} {e : Env} {R : Room} {s : State} {m : MethodId} {args : Array Value} {below : List Frame} {meth : Method} {c : Code} {Q : State → Prop} {sg : Nat → Int32} {b B : Nat} {L : List Nat} {xs : Nat → Int32} {dC : Nat → ClassId} {dI : Nat → Nat → Nat} {cy : Nat → ClassId} {cc : ByteArray} {nL own : Nat} {ini : Bool} {ret : Option FieldType} {mc ms : Nat} {E : rE} {pc : Nat} {lv : rK} {st : List rV} {aw : rD} {cn z : Nat} {o : rO} (F : FF p s m args meth c cc nL own ini b B L xs dC dI cy) (hE : eOK sg E) (hdg : decode cc pc = .ok (.i2l, 1)) (h : h_i2l tT own ret ini mc ms L E pc lv st aw cn z = some o) : Sem p l e R s m args below meth c Q sg b B cy dC dI nL cc own ret mc ms o (pc, lv, st, aw, cn, z) := by
  obtain ⟨hx, hb, hml, ho, hts, hsf, hin⟩ := F
  unfold h_i2l at h
  split at h
  · next x r =>
    split at h
    · next a ha =>
      rw [fN_eq] at h
      cases h
      intro kk aw' H locs ls hr hP hH hS hl
      refine lv_i2l (x := ri sg x) hx hb hdg rfl ?_
      rw [(nd_ok hE ha).2, ← lN_cL ((nI a).toInt64)]
      exact kk aw' H locs ls hr hP hH hS hl
    · cases h
  · cases h
theorem s_ush {p : Program} {l : Launch} {e : Env} {R : Room} {s : State} {m : MethodId} {args : Array Value} {below : List Frame} {meth : Method} {c : Code} {Q : State → Prop} {sg : Nat → Int32} {b B : Nat} {L : List Nat} {xs : Nat → Int32} {dC : Nat → ClassId} {dI : Nat → Nat → Nat} {cy : Nat → ClassId} {cc : ByteArray} {nL own : Nat} {ini : Bool} {ret : Option FieldType} {mc ms : Nat} {E : rE} {pc : Nat} {lv : rK} {st : List rV} {aw : rD} {cn z : Nat} {o : rO} (F : FF p s m args meth c cc nL own ini b B L xs dC dI cy) (hE : eOK sg E) (hdg : decode cc pc = .ok (.iushr, 1)) (h : h_ush tT own ret ini mc ms L E pc lv st aw cn z = some o) : Sem p l e R s m args below meth c Q sg b B cy dC dI nL cc own ret mc ms o (pc, lv, st, aw, cn, z) := by
  obtain ⟨hx, hb, hml, ho, hts, hsf, hin⟩ := F
  unfold h_ush at h
  split at h
  · next y x r =>
    split at h
    · next a ha =>
      split at h
      · next d hd =>
        rw [fN_eq] at h
        cases h
        intro kk aw' H locs ls hr hP hH hS hl
        refine lv_iushr (x := ri sg x) (y := ri sg y) hx hb hdg rfl ?_
        rw [(nd_ok hE ha).2, (nd_ok hE hd).2]
        show W p l e R s m args below meth c H locs cn z Q (F0 m (pc + 1) ls (.int (opU (nI a) (nI d)) :: r.map (rv sg b B)))
        rw [← ri_cN (sg := sg) (opU (nI a) (nI d))]
        exact kk aw' H locs ls hr hP hH hS hl
      · cases h
    · cases h
  · cases h
theorem cL_0 {y : Int64} (h : Nat.beq (cL y) 0 = false) : ¬ y = 0 := by
  intro e
  subst e
  exact absurd h (by decide)
theorem s_aopD {p : Program} {l : Launch} {e : Env} {R : Room} {s : State} {m : MethodId} {args : Array Value} {below : List Frame} {meth : Method} {c : Code} {Q : State → Prop} {sg : Nat → Int32} {b B : Nat} {L : List Nat} {dC : Nat → ClassId} {dI : Nat → Nat → Nat} {cy : Nat → ClassId} {cc : ByteArray} {nL own : Nat} {ini : Bool} {ret : Option FieldType} {mc ms : Nat} {E : rE} {pc : Nat} {lv : rK} {st : List rV} {aw : rD} {cn z : Nat} {o : rO} {k : Nat} (hrow : ∀ (x y : Int64) (H : Heap) (locs : List Loc) (cn z : Nat) (ls : Array Slot) (rest : List Value), ¬ y = 0 → W p l e R s m args below meth c H locs cn z Q (F0 m (pc + 1) ls (.long (opD k x y) :: rest)) → W p l e R s m args below meth c H locs cn z Q (F0 m pc ls (.long y :: .long x :: rest))) (h : h_aopD k tT own ret ini mc ms L E pc lv st aw cn z = some o) : Sem p l e R s m args below meth c Q sg b B cy dC dI nL cc own ret mc ms o (pc, lv, st, aw, cn, z) := by
  unfold h_aopD at h
  split at h
  · next y x r =>
    cases hb0 : Nat.beq (cL (lN y)) 0 with
    | true => rw [hb0] at h; cases h
    | false =>
      rw [hb0, cond_false, fN_eq] at h
      cases h
      intro kk aw' H locs ls hr hP hH hS hl
      refine hrow (lN x) (lN y) H locs _ _ ls _ (cL_0 hb0) ?_
      rw [← lN_cL (opD k (lN x) (lN y))]
      exact kk aw' H locs ls hr hP hH hS hl
  · cases h
theorem s_pop {p : Program} {l : Launch} {e : Env} {R : Room} {s : State} {m : MethodId} {args : Array Value} {below : List Frame} {meth : Method} {c : Code} {Q : State → Prop} {sg : Nat → Int32} {b B : Nat} {L : List Nat} {xs : Nat → Int32} {dC : Nat → ClassId} {dI : Nat → Nat → Nat} {cy : Nat → ClassId} {cc : ByteArray} {nL own : Nat} {ini : Bool} {ret : Option FieldType} {mc ms : Nat} {E : rE} {pc : Nat} {lv : rK} {st : List rV} {aw : rD} {cn z : Nat} {o : rO} (F : FF p s m args meth c cc nL own ini b B L xs dC dI cy) (hdg : decode cc pc = .ok (.pop, 1)) (h : h_pop tT own ret ini mc ms L E pc lv st aw cn z = some o) : Sem p l e R s m args below meth c Q sg b B cy dC dI nL cc own ret mc ms o (pc, lv, st, aw, cn, z) := by
  obtain ⟨hx, hb, hml, ho, hts, hsf, hin⟩ := F
  unfold h_pop at h
  split at h
  · next v r =>
    cases h1 : Nat.beq (ct v) 1 with
    | false => rw [h1] at h; cases h
    | true =>
      rw [h1, cond_true] at h
      cases h
      intro kk aw' H locs ls hr hP hH hS hl
      exact lv_pop hx hb hdg (by rw [ct_eq]; exact Nat.eq_of_beq_eq_true h1) (kk aw' H locs ls hr hP hH hS hl)
  · cases h
end
section
/-! rules: branches, switches, the ends -/
theorem ltD_ok {sg : Nat → Int32} {E : rE} (hE : eOK sg E) {x y : Nat} {w : Bool} (h : ltD E x y = some (.inl w)) : (ri sg x < ri sg y ↔ w = true) := by
  have h1 := iv_ok hE x
  have h2 := iv_ok hE y
  rw [bz_lt]
  unfold ltD at h
  cases c1 : Nat.blt (iv E x).2 (iv E y).1 with
  | true =>
    rw [c1, cond_true] at h
    cases h
    have : (iv E x).2 < (iv E y).1 := Nat.le_of_ble_eq_true c1
    exact ⟨fun _ => rfl, fun _ => by omega⟩
  | false =>
    rw [c1, cond_false] at h
    cases c2 : Nat.ble (iv E y).2 (iv E x).1 with
    | true =>
      rw [c2, cond_true] at h
      cases h
      have : (iv E y).2 ≤ (iv E x).1 := Nat.le_of_ble_eq_true c2
      exact ⟨fun q => by omega, fun q => by cases q⟩
    | false =>
      rw [c2, cond_false] at h
      cases c3 : (Nat.beq (iv E y).1 (iv E y).2 && Nat.ble 4294967296 x) with
      | true => rw [c3, cond_true] at h; cases h
      | false =>
        rw [c3, cond_false] at h
        cases c4 : (Nat.beq (iv E x).1 (iv E x).2 && Nat.ble 4294967296 y) with
        | true => rw [c4, cond_true] at h; cases h
        | false => rw [c4, cond_false] at h; cases h
theorem eqD_ok {sg : Nat → Int32} {E : rE} (hE : eOK sg E) {x y : Nat} {w : Bool} (h : eqD E x y = some (.inl w)) : (ri sg x = ri sg y ↔ w = true) := by
  have h1 := iv_ok hE x
  have h2 := iv_ok hE y
  unfold eqD at h
  cases c0 : Nat.beq x y with
  | true =>
    rw [c0, cond_true] at h
    cases h
    have e0 := Nat.eq_of_beq_eq_true c0
    subst e0
    exact ⟨fun _ => rfl, fun _ => rfl⟩
  | false =>
  rw [bz_eq]
  rw [c0, cond_false] at h
  cases c1 : Nat.blt (iv E x).2 (iv E y).1 with
  | true =>
    rw [c1, cond_true] at h
    cases h
    have : (iv E x).2 < (iv E y).1 := Nat.le_of_ble_eq_true c1
    exact ⟨fun q => by omega, fun q => by cases q⟩
  | false =>
    rw [c1, cond_false] at h
    cases c2 : Nat.blt (iv E y).2 (iv E x).1 with
    | true =>
      rw [c2, cond_true] at h
      cases h
      have : (iv E y).2 < (iv E x).1 := Nat.le_of_ble_eq_true c2
      exact ⟨fun q => by omega, fun q => by cases q⟩
    | false =>
      rw [c2, cond_false] at h
      cases c5 : (Nat.ble (iv E x).2 (iv E y).1 && Nat.ble (iv E y).2 (iv E x).1) with
      | true =>
        rw [c5, cond_true] at h
        cases h
        rw [Bool.and_eq_true] at c5
        have g1 := Nat.le_of_ble_eq_true c5.1
        have g2 := Nat.le_of_ble_eq_true c5.2
        exact ⟨fun _ => rfl, fun _ => by omega⟩
      | false =>
        rw [c5, cond_false] at h
        cases c3 : (Nat.beq (iv E y).1 (iv E y).2 && Nat.ble 4294967296 x) with
        | true => rw [c3, cond_true] at h; cases h
        | false =>
          rw [c3, cond_false] at h
          cases c4 : (Nat.beq (iv E x).1 (iv E x).2 && Nat.ble 4294967296 y) with
          | true => rw [c4, cond_true] at h; cases h
          | false => rw [c4, cond_false] at h; cases h
/-- the condition of a branch -/
def cnd (q : ClassFile.Cond) (x y : Int32) : Prop := match q with
  | .eq => x = y
  | .ne => ¬ x = y
  | .lt => x < y
  | .ge => ¬ x < y
  | .gt => y < x
  | .le => ¬ y < x
theorem cmpD_ok {sg : Nat → Int32} {E : rE} (hE : eOK sg E) {q : ClassFile.Cond} {x y : Nat} {w : Bool} (h : cmpD E q x y = some (.inl w)) : (cnd q (ri sg x) (ri sg y) ↔ Bool.xor w (neg q) = true) := by
  cases q with
  | eq => rw [show cnd .eq (ri sg x) (ri sg y) = (ri sg x = ri sg y) from rfl, eqD_ok hE h]; simp [neg]
  | ne => rw [show cnd .ne (ri sg x) (ri sg y) = (¬ ri sg x = ri sg y) from rfl, eqD_ok hE h]; simp [neg]
  | lt => rw [show cnd .lt (ri sg x) (ri sg y) = (ri sg x < ri sg y) from rfl, ltD_ok hE h]; simp [neg]
  | ge => rw [show cnd .ge (ri sg x) (ri sg y) = (¬ ri sg x < ri sg y) from rfl, ltD_ok hE h]; simp [neg]
  | gt => rw [show cnd .gt (ri sg x) (ri sg y) = (ri sg y < ri sg x) from rfl, ltD_ok hE h]; simp [neg]
  | le => rw [show cnd .le (ri sg x) (ri sg y) = (¬ ri sg y < ri sg x) from rfl, ltD_ok hE h]; simp [neg]
theorem nlt_le {x y : Int32} : (¬ x < y) ↔ y ≤ x := by
  rw [bz_lt, bz_le]
  omega
theorem r_icmp {p : Program} {l : Launch} {e : Env} {R : Room} {s : State} {m : MethodId} {args : Array Value} {below : List Frame} {meth : Method} {c : Code} {Q : State → Prop} {cc : ByteArray} {pc : Nat} {q : ClassFile.Cond} {off : Int} {tgt : Nat} (hx : p.tables.exec = Jvm.exec) (hb : c.code = cc) (hdg : decode cc pc = .ok (.if_icmp q off, 3)) (ht : (pc : Int) + off = (tgt : Int)) {x y : Int32} {H : Heap} {locs : List Loc} {cn z : Nat} {ls : Array Slot} {rest : List Value} (kt : cnd q x y → W p l e R s m args below meth c H locs cn z Q (F0 m tgt ls rest)) (kf : ¬ cnd q x y → W p l e R s m args below meth c H locs cn z Q (F0 m (pc + 3) ls rest)) : W p l e R s m args below meth c H locs cn z Q (F0 m pc ls (.int y :: .int x :: rest)) := by
  cases q with
  | eq => exact lv_icmp_eq hx hb hdg ht (fun h => kt h) (fun h => kf h)
  | ne => exact lv_icmp_ne hx hb hdg ht (fun h => kt h) (fun h => kf (fun g => g h))
  | lt => exact lv_icmp_lt hx hb hdg ht (fun h => kt h) (fun h => kf h)
  | ge => exact lv_icmp_ge hx hb hdg ht (fun h => kt (nlt_le.mpr h)) (fun h => kf (fun g => h (nlt_le.mp g)))
  | gt => exact lv_icmp_gt hx hb hdg ht (fun h => kt h) (fun h => kf h)
  | le => exact lv_icmp_le hx hb hdg ht (fun h => kt (nlt_le.mpr h)) (fun h => kf (fun g => h (nlt_le.mp g)))
theorem r_if {p : Program} {l : Launch} {e : Env} {R : Room} {s : State} {m : MethodId} {args : Array Value} {below : List Frame} {meth : Method} {c : Code} {Q : State → Prop} {cc : ByteArray} {pc : Nat} {q : ClassFile.Cond} {off : Int} {tgt : Nat} (hx : p.tables.exec = Jvm.exec) (hb : c.code = cc) (hdg : decode cc pc = .ok (.ifCond q off, 3)) (ht : (pc : Int) + off = (tgt : Int)) {x : Int32} {H : Heap} {locs : List Loc} {cn z : Nat} {ls : Array Slot} {rest : List Value} (kt : cnd q x 0 → W p l e R s m args below meth c H locs cn z Q (F0 m tgt ls rest)) (kf : ¬ cnd q x 0 → W p l e R s m args below meth c H locs cn z Q (F0 m (pc + 3) ls rest)) : W p l e R s m args below meth c H locs cn z Q (F0 m pc ls (.int x :: rest)) := by
  cases q with
  | eq => exact lv_if_eq hx hb hdg ht (fun h => kt h) (fun h => kf h)
  | ne => exact lv_if_ne hx hb hdg ht (fun h => kt h) (fun h => kf (fun g => g h))
  | lt => exact lv_if_lt hx hb hdg ht (fun h => kt h) (fun h => kf h)
  | ge => exact lv_if_ge hx hb hdg ht (fun h => kt (nlt_le.mpr h)) (fun h => kf (fun g => h (nlt_le.mp g)))
  | gt => exact lv_if_gt hx hb hdg ht (fun h => kt h) (fun h => kf h)
  | le => exact lv_if_le hx hb hdg ht (fun h => kt (nlt_le.mpr h)) (fun h => kf (fun g => h (nlt_le.mp g)))
theorem s_abr {p : Program} {l : Launch} {e : Env} {R : Room} {s : State} {m : MethodId} {args : Array Value} {below : List Frame} {meth : Method} {c : Code} {Q : State → Prop} {sg : Nat → Int32} {b B : Nat} {dC : Nat → ClassId} {dI : Nat → Nat → Nat} {cy : Nat → ClassId} {cc : ByteArray} {nL own : Nat} {ret : Option FieldType} {mc ms : Nat} {E : rE} {pc : Nat} {lv : rK} {aw : rD} {cn z : Nat} {o : rO} {q : ClassFile.Cond} {off : Int} {x y : Nat} {r st0 : List rV} (hE : eOK sg E) (hrow : ∀ (tgt : Nat) (H : Heap) (locs : List Loc) (ls : Array Slot), (pc : Int) + off = (tgt : Int) → (cnd q (ri sg x) (ri sg y) → W p l e R s m args below meth c H locs cn z Q (F0 m tgt ls (r.map (rv sg b B)))) → (¬ cnd q (ri sg x) (ri sg y) → W p l e R s m args below meth c H locs cn z Q (F0 m (pc + 3) ls (r.map (rv sg b B)))) → W p l e R s m args below meth c H locs cn z Q (F0 m pc ls (st0.map (rv sg b B)))) (h : abr E q x y off pc lv r aw cn z = some o) : Sem p l e R s m args below meth c Q sg b B cy dC dI nL cc own ret mc ms o (pc, lv, st0, aw, cn, z) := by
  unfold abr at h
  split at h
  · cases h
  · next t ht =>
    split at h
    · next w hw =>
      have hc := cmpD_ok hE hw
      cases hz : Bool.xor w (neg q) with
      | true =>
        rw [hz, cond_true] at h
        cases h
        intro k aw' H locs ls hr hP hH hS hl
        exact hrow t H locs ls (tg_ok ht) (fun _ => k aw' H locs ls hr hP hH hS hl) (fun g => absurd (hc.mpr hz) g)
      | false =>
        rw [hz, cond_false] at h
        cases h
        intro k aw' H locs ls hr hP hH hS hl
        exact hrow t H locs ls (tg_ok ht) (fun g => absurd (hc.mp g) (by rw [hz]; decide)) (fun _ => k aw' H locs ls hr hP hH hS hl)
    · next s' _ => cases h; exact True.intro
    · cases h
      intro k1 k2 aw' H locs ls hr hP hH hS hl
      exact hrow t H locs ls (tg_ok ht) (fun _ => k1 aw' H locs ls hr hP hH hS hl) (fun _ => k2 aw' H locs ls hr hP hH hS hl)
theorem s_if2 {p : Program} {l : Launch} {e : Env} {R : Room} {s : State} {m : MethodId} {args : Array Value} {below : List Frame} {meth : Method} {c : Code} {Q : State → Prop} {sg : Nat → Int32} {b B : Nat} {L : List Nat} {xs : Nat → Int32} {dC : Nat → ClassId} {dI : Nat → Nat → Nat} {cy : Nat → ClassId} {cc : ByteArray} {nL own : Nat} {ini : Bool} {ret : Option FieldType} {mc ms : Nat} {E : rE} {pc : Nat} {lv : rK} {st : List rV} {aw : rD} {cn z : Nat} {o : rO} {q : ClassFile.Cond} {off : Int} (F : FF p s m args meth c cc nL own ini b B L xs dC dI cy) (hE : eOK sg E) (hdg : decode cc pc = .ok (.if_icmp q off, 3)) (h : h_if2 q off tT own ret ini mc ms L E pc lv st aw cn z = some o) : Sem p l e R s m args below meth c Q sg b B cy dC dI nL cc own ret mc ms o (pc, lv, st, aw, cn, z) := by
  obtain ⟨hx, hb, hml, ho, hts, hsf, hin⟩ := F
  unfold h_if2 at h
  split at h
  · next y x r => exact s_abr hE (fun tgt H locs ls ht kt kf => r_icmp hx hb hdg ht kt kf) h
  · cases h
theorem s_if1 {p : Program} {l : Launch} {e : Env} {R : Room} {s : State} {m : MethodId} {args : Array Value} {below : List Frame} {meth : Method} {c : Code} {Q : State → Prop} {sg : Nat → Int32} {b B : Nat} {L : List Nat} {xs : Nat → Int32} {dC : Nat → ClassId} {dI : Nat → Nat → Nat} {cy : Nat → ClassId} {cc : ByteArray} {nL own : Nat} {ini : Bool} {ret : Option FieldType} {mc ms : Nat} {E : rE} {pc : Nat} {lv : rK} {st : List rV} {aw : rD} {cn z : Nat} {o : rO} {q : ClassFile.Cond} {off : Int} (F : FF p s m args meth c cc nL own ini b B L xs dC dI cy) (hE : eOK sg E) (hdg : decode cc pc = .ok (.ifCond q off, 3)) (h : h_if1 q off tT own ret ini mc ms L E pc lv st aw cn z = some o) : Sem p l e R s m args below meth c Q sg b B cy dC dI nL cc own ret mc ms o (pc, lv, st, aw, cn, z) := by
  obtain ⟨hx, hb, hml, ho, hts, hsf, hin⟩ := F
  unfold h_if1 at h
  split at h
  · next x r => exact s_abr (x := x) (y := 0) hE (fun tgt H locs ls ht kt kf => r_if hx hb hdg ht kt kf) h
  · cases h
theorem spl_ok {p : Program} {l : Launch} {e : Env} {R : Room} {s : State} {m : MethodId} {args : Array Value} {below : List Frame} {meth : Method} {c : Code} {Q : State → Prop} {sg : Nat → Int32} {b B : Nat} {dC : Nat → ClassId} {dI : Nat → Nat → Nat} {cy : Nat → ClassId} {cc : ByteArray} {nL own : Nat} {ret : Option FieldType} {mc ms : Nat} {E : rE} {pc : Nat} {lv : rK} {st : List rV} {aw : rD} {cn z : Nat} {o : rO} {n : Nat} (h : spl E n = some o) : Sem p l e R s m args below meth c Q sg b B cy dC dI nL cc own ret mc ms o (pc, lv, st, aw, cn, z) := by
  unfold spl at h
  cases hb : (Nat.ble 4294967296 n && Nat.ble (Nat.sub (iv E n).2 (iv E n).1) 64) with
  | false => rw [hb] at h; cases h
  | true => rw [hb, cond_true] at h; cases h; exact True.intro
theorem s_tsw {p : Program} {l : Launch} {e : Env} {R : Room} {s : State} {m : MethodId} {args : Array Value} {below : List Frame} {meth : Method} {c : Code} {Q : State → Prop} {sg : Nat → Int32} {b B : Nat} {L : List Nat} {xs : Nat → Int32} {dC : Nat → ClassId} {dI : Nat → Nat → Nat} {cy : Nat → ClassId} {cc : ByteArray} {nL own : Nat} {ini : Bool} {ret : Option FieldType} {mc ms : Nat} {E : rE} {pc : Nat} {lv : rK} {st : List rV} {aw : rD} {cn z : Nat} {o : rO} {d lo hi : Int} {offs : Array Int} {len : Nat} (F : FF p s m args meth c cc nL own ini b B L xs dC dI cy) (hE : eOK sg E) (hdg : decode cc pc = .ok (.tableswitch d lo hi offs, len)) (h : h_tsw d lo hi offs tT own ret ini mc ms L E pc lv st aw cn z = some o) : Sem p l e R s m args below meth c Q sg b B cy dC dI nL cc own ret mc ms o (pc, lv, st, aw, cn, z) := by
  obtain ⟨hx, hb, hml, ho, hts, hsf, hin⟩ := F
  unfold h_tsw at h
  split at h
  · next x r =>
    have hv := iv_ok hE x
    cases h1 : (Nat.blt (iv E x).2 (bz (Int32.ofInt lo)) || Nat.blt (bz (Int32.ofInt hi)) (iv E x).1) with
    | true =>
      rw [h1, cond_true] at h
      split at h
      · next t ht =>
        cases h2 : (decide ((Int32.ofInt lo).toInt = lo) && decide ((Int32.ofInt hi).toInt = hi)) with
        | false => rw [h2] at h; cases h
        | true =>
          rw [h2, cond_true] at h
          cases h
          rw [Bool.and_eq_true, decide_eq_true_eq, decide_eq_true_eq] at h2
          intro k aw' H locs ls hr hP hH hS hl
          refine lv_tableOut hx hb hdg ?_ (tg_ok ht) (k aw' H locs ls hr hP hH hS hl)
          have b1 := bz_in (ri sg x)
          have b2 := bz_in (Int32.ofInt lo)
          have b3 := bz_in (Int32.ofInt hi)
          rw [Bool.or_eq_true] at h1
          rcases h1 with h1 | h1
          · have : (iv E x).2 < bz (Int32.ofInt lo) := Nat.le_of_ble_eq_true h1
            exact Or.inl (by omega)
          · have : bz (Int32.ofInt hi) < (iv E x).1 := Nat.le_of_ble_eq_true h1
            exact Or.inr (by omega)
      · cases h
    | false =>
      rw [h1, cond_false] at h
      split at h
      · next n hn =>
        split at h
        · next off hoff =>
          split at h
          · next t ht =>
            cases h2 : (decide (lo ≤ (nI n).toInt) && decide ((nI n).toInt ≤ hi)) with
            | false => rw [h2] at h; cases h
            | true =>
              rw [h2, cond_true] at h
              cases h
              rw [Bool.and_eq_true, decide_eq_true_eq, decide_eq_true_eq] at h2
              intro k aw' H locs ls hr hP hH hS hl
              have e := (nd_ok hE hn).2
              refine lv_tableIn (x := ri sg x) hx hb hdg (by rw [e]; omega) (by rw [e]; omega) (by rw [e]; exact hoff) (tg_ok ht) (k aw' H locs ls hr hP hH hS hl)
          · cases h
        · cases h
      · cases h3 : Nat.blt (iv E x).1 (bz (Int32.ofInt lo)) with
        | true => rw [h3, cond_true] at h; cases h; exact True.intro
        | false =>
          rw [h3, cond_false] at h
          cases h4 : Nat.blt (bz (Int32.ofInt hi)) (iv E x).2 with
          | true => rw [h4, cond_true] at h; cases h; exact True.intro
          | false => rw [h4, cond_false] at h; exact spl_ok h
  · cases h
theorem lkS_none {E : rE} {x : Nat} {ps : List (Int × Int)} (h : lkS E x ps = none) : ∀ q ∈ ps, ¬ ((iv E x).1 ≤ bz (Int32.ofInt q.1) ∧ bz (Int32.ofInt q.1) ≤ (iv E x).2) := by
  induction ps with
  | nil => intro q hq; cases hq
  | cons a t ih =>
    have h' : (bif (Nat.ble (iv E x).1 (bz (Int32.ofInt a.1)) && Nat.ble (bz (Int32.ofInt a.1)) (iv E x).2) then some (Nat.sub x 4294967296, bif Nat.blt (iv E x).1 (bz (Int32.ofInt a.1)) then bz (Int32.ofInt a.1) else Nat.succ (iv E x).1) else lkS E x t) = none := h
    cases hb : (Nat.ble (iv E x).1 (bz (Int32.ofInt a.1)) && Nat.ble (bz (Int32.ofInt a.1)) (iv E x).2) with
    | true => rw [hb] at h'; cases h'
    | false =>
      rw [hb, cond_false] at h'
      intro q hq
      rcases List.mem_cons.mp hq with rfl | hq
      · rintro ⟨g1, g2⟩
        rw [Nat.ble_eq_true_of_le g1, Nat.ble_eq_true_of_le g2] at hb
        cases hb
      · exact ih h' q hq
theorem lk_dflt {ps : List (Int × Int)} {d v : Int} (h : ∀ q ∈ ps, q.1 ≠ v) : Op.lookupswitch.offset ps d v = d := by
  induction ps with
  | nil => rfl
  | cons a t ih =>
    obtain ⟨a1, a2⟩ := a
    show (if a1 = v then a2 else Op.lookupswitch.offset t d v) = d
    rw [if_neg (h (a1, a2) List.mem_cons_self)]
    exact ih (fun q hq => h q (List.mem_cons_of_mem _ hq))
theorem s_lsw {p : Program} {l : Launch} {e : Env} {R : Room} {s : State} {m : MethodId} {args : Array Value} {below : List Frame} {meth : Method} {c : Code} {Q : State → Prop} {sg : Nat → Int32} {b B : Nat} {L : List Nat} {xs : Nat → Int32} {dC : Nat → ClassId} {dI : Nat → Nat → Nat} {cy : Nat → ClassId} {cc : ByteArray} {nL own : Nat} {ini : Bool} {ret : Option FieldType} {mc ms : Nat} {E : rE} {pc : Nat} {lv : rK} {st : List rV} {aw : rD} {cn z : Nat} {o : rO} {d : Int} {ps : Array (Int × Int)} {len : Nat} (F : FF p s m args meth c cc nL own ini b B L xs dC dI cy) (hE : eOK sg E) (hdg : decode cc pc = .ok (.lookupswitch d ps, len)) (h : h_lsw d ps tT own ret ini mc ms L E pc lv st aw cn z = some o) : Sem p l e R s m args below meth c Q sg b B cy dC dI nL cc own ret mc ms o (pc, lv, st, aw, cn, z) := by
  obtain ⟨hx, hb, hml, ho, hts, hsf, hin⟩ := F
  unfold h_lsw at h
  split at h
  · next x r =>
    have hv := iv_ok hE x
    cases h1 : ((ps.toList.zip (ps.toList.drop 1)).all (fun (a, next) => a.1 < next.1)) with
    | false => rw [h1] at h; cases h
    | true =>
      rw [h1, cond_true] at h
      split at h
      · next n hn =>
        split at h
        · next t ht =>
          cases h
          intro k aw' H locs ls hr hP hH hS hl
          exact lv_lookup (x := ri sg x) hx hb hdg h1 (by rw [(nd_ok hE hn).2]) (tg_ok ht) (k aw' H locs ls hr hP hH hS hl)
        · cases h
      · split at h
        · cases h; exact True.intro
        · next hno =>
          cases h2 : (ps.toList.all (fun q => decide ((Int32.ofInt q.1).toInt = q.1))) with
          | false => rw [h2] at h; cases h
          | true =>
            rw [h2, cond_true] at h
            split at h
            · next t ht =>
              cases h
              intro k aw' H locs ls hr hP hH hS hl
              refine lv_lookup (x := ri sg x) hx hb hdg h1 (lk_dflt (fun q hq e => ?_)) (tg_ok ht) (k aw' H locs ls hr hP hH hS hl)
              have g1 := lkS_none hno q hq
              have g2 := List.all_eq_true.mp h2 q hq
              rw [decide_eq_true_eq] at g2
              have b1 := bz_in (ri sg x)
              have b2 := bz_in (Int32.ofInt q.1)
              exact g1 ⟨by omega, by omega⟩
            · cases h
  · cases h
theorem s_retI {p : Program} {l : Launch} {e : Env} {R : Room} {s : State} {m : MethodId} {args : Array Value} {below : List Frame} {meth : Method} {c : Code} {Q : State → Prop} {sg : Nat → Int32} {b B : Nat} {L : List Nat} {dC : Nat → ClassId} {dI : Nat → Nat → Nat} {cy : Nat → ClassId} {cc : ByteArray} {nL own : Nat} {ini : Bool} {ret : Option FieldType} {mc ms : Nat} {E : rE} {pc : Nat} {lv : rK} {st : List rV} {aw : rD} {cn z : Nat} {o : rO} (hdg : decode cc pc = .ok (.ireturn, 1)) (h : h_retI tT own ret ini mc ms L E pc lv st aw cn z = some o) : Sem p l e R s m args below meth c Q sg b B cy dC dI nL cc own ret mc ms o (pc, lv, st, aw, cn, z) := by
  unfold h_retI at h
  split at h
  · next v =>
    cases hb : (ok_rt ret (.inl v) && (Nat.ble cn mc && Nat.ble z ms)) with
    | false => rw [hb] at h; cases h
    | true =>
      rw [hb, cond_true] at h
      cases h
      rw [Bool.and_eq_true, Bool.and_eq_true] at hb
      exact ⟨Nat.le_of_ble_eq_true hb.2.1, Nat.le_of_ble_eq_true hb.2.2, rfl, Or.inr (Or.inl ⟨v, rfl, hb.1, hdg⟩)⟩
  · cases h
theorem s_retL {p : Program} {l : Launch} {e : Env} {R : Room} {s : State} {m : MethodId} {args : Array Value} {below : List Frame} {meth : Method} {c : Code} {Q : State → Prop} {sg : Nat → Int32} {b B : Nat} {L : List Nat} {dC : Nat → ClassId} {dI : Nat → Nat → Nat} {cy : Nat → ClassId} {cc : ByteArray} {nL own : Nat} {ini : Bool} {ret : Option FieldType} {mc ms : Nat} {E : rE} {pc : Nat} {lv : rK} {st : List rV} {aw : rD} {cn z : Nat} {o : rO} (hdg : decode cc pc = .ok (.lreturn, 1)) (h : h_retL tT own ret ini mc ms L E pc lv st aw cn z = some o) : Sem p l e R s m args below meth c Q sg b B cy dC dI nL cc own ret mc ms o (pc, lv, st, aw, cn, z) := by
  unfold h_retL at h
  split at h
  · next v =>
    cases hb : (ok_rt ret (.inr (.inl v)) && (Nat.ble cn mc && Nat.ble z ms)) with
    | false => rw [hb] at h; cases h
    | true =>
      rw [hb, cond_true] at h
      cases h
      rw [Bool.and_eq_true, Bool.and_eq_true] at hb
      exact ⟨Nat.le_of_ble_eq_true hb.2.1, Nat.le_of_ble_eq_true hb.2.2, rfl, Or.inr (Or.inr (Or.inl ⟨v, rfl, hb.1, hdg⟩))⟩
  · cases h
theorem s_retA {p : Program} {l : Launch} {e : Env} {R : Room} {s : State} {m : MethodId} {args : Array Value} {below : List Frame} {meth : Method} {c : Code} {Q : State → Prop} {sg : Nat → Int32} {b B : Nat} {L : List Nat} {dC : Nat → ClassId} {dI : Nat → Nat → Nat} {cy : Nat → ClassId} {cc : ByteArray} {nL own : Nat} {ini : Bool} {ret : Option FieldType} {mc ms : Nat} {E : rE} {pc : Nat} {lv : rK} {st : List rV} {aw : rD} {cn z : Nat} {o : rO} (hdg : decode cc pc = .ok (.areturn, 1)) (h : h_retA tT own ret ini mc ms L E pc lv st aw cn z = some o) : Sem p l e R s m args below meth c Q sg b B cy dC dI nL cc own ret mc ms o (pc, lv, st, aw, cn, z) := by
  unfold h_retA at h
  split at h
  · next v =>
    cases hb : (ok_rt ret (.inr (.inr (some v))) && (Nat.ble cn mc && Nat.ble z ms)) with
    | false => rw [hb] at h; cases h
    | true =>
      rw [hb, cond_true] at h
      cases h
      rw [Bool.and_eq_true, Bool.and_eq_true] at hb
      exact ⟨Nat.le_of_ble_eq_true hb.2.1, Nat.le_of_ble_eq_true hb.2.2, rfl, Or.inr (Or.inr (Or.inr ⟨v, rfl, hb.1, hdg⟩))⟩
  · cases h
theorem s_retV {p : Program} {l : Launch} {e : Env} {R : Room} {s : State} {m : MethodId} {args : Array Value} {below : List Frame} {meth : Method} {c : Code} {Q : State → Prop} {sg : Nat → Int32} {b B : Nat} {L : List Nat} {dC : Nat → ClassId} {dI : Nat → Nat → Nat} {cy : Nat → ClassId} {cc : ByteArray} {nL own : Nat} {ini : Bool} {ret : Option FieldType} {mc ms : Nat} {E : rE} {pc : Nat} {lv : rK} {st : List rV} {aw : rD} {cn z : Nat} {o : rO} (hdg : decode cc pc = .ok (.return_, 1)) (h : h_retV tT own ret ini mc ms L E pc lv st aw cn z = some o) : Sem p l e R s m args below meth c Q sg b B cy dC dI nL cc own ret mc ms o (pc, lv, st, aw, cn, z) := by
  unfold h_retV at h
  split at h
  · cases hb : (no_rt ret && (Nat.ble cn mc && Nat.ble z ms)) with
    | false => rw [hb] at h; cases h
    | true =>
      rw [hb, cond_true] at h
      cases h
      rw [Bool.and_eq_true, Bool.and_eq_true] at hb
      refine ⟨Nat.le_of_ble_eq_true hb.2.1, Nat.le_of_ble_eq_true hb.2.2, rfl, Or.inl ⟨rfl, ?_, hdg⟩⟩
      cases ret with
      | none => rfl
      | some t => cases hb.1
  · cases h
end
section
/-! rules: fields and arrays -/
def aV (sg : Nat → Int32) (b B t : Nat) (v : rV) : Value := if t = 15 then .long (rL v) else if t < 17 then .int (rI sg v) else va_rf (rR b B v)
theorem rA_cell {sg : Nat → Int32} {b B : Nat} (cA : ClassId) (t : Nat) (l : List rV) : vp_cell cA (rA sg b B t l) = arrV cA l.length (fun j => aV sg b B t (l.getD j rd)) := by
  unfold rA aV
  by_cases h1 : t = 15
  · simp only [h1, if_true]; rfl
  · by_cases h2 : t < 17
    · simp only [h1, h2, if_true, if_false]; rfl
    · simp only [h1, h2, if_false]; rfl
theorem rce_arr {sg : Nat → Int32} {b B : Nat} {cy : Nat → ClassId} {q : rC} (h : 13 ≤ q.1) : rce sg b B cy q = .inl (cy q.1, rA sg b B q.1 q.2) := if_neg (Nat.not_lt.mpr h)
theorem rce_obj {sg : Nat → Int32} {b B : Nat} {cy : Nat → ClassId} {q : rC} (h : q.1 < 13) : rce sg b B cy q = .inr (q.1, q.2.map (rv sg b B)) := if_pos h
theorem at_arr {sg : Nat → Int32} {b B : Nat} {cy : Nat → ClassId} {D : va_G} {aw : List rC} {H : Heap} {k : Nat} {q : rC} (hP : va_P D vwCl (rW sg b B cy aw) H) (hk : aw[k]? = some q) (h : 13 ≤ q.1) : H[B + k]? = some (arrV (cy q.1) q.2.length (fun j => aV sg b B q.1 (q.2.getD j rd))) := by
  have h1 := hP k _ (rW_get hk)
  rw [rce_arr h] at h1
  have h2 : H[B + k]? = some (vp_cell (cy q.1) (rA sg b B q.1 q.2)) := h1
  rw [rA_cell] at h2
  exact h2
theorem vt_ok {sg : Nat → Int32} {b B t : Nat} {v : rV} (h13 : 13 ≤ t) (h : vt t v = true) : aV sg b B t v = rv sg b B v := by
  unfold aV
  match v, h with
  | .inl n, h =>
    have h' : (Nat.ble t 14 || Nat.beq t 16) = true := h
    rw [Bool.or_eq_true] at h'
    have : t ≠ 15 ∧ t < 17 := by
      rcases h' with g | g
      · have := Nat.le_of_ble_eq_true g; omega
      · have := Nat.eq_of_beq_eq_true g; omega
    rw [if_neg this.1, if_pos this.2]
    rfl
  | .inr (.inl n), h =>
    have := Nat.eq_of_beq_eq_true (show Nat.beq t 15 = true from h)
    rw [if_pos this]
    rfl
  | .inr (.inr none), h =>
    have := Nat.le_of_ble_eq_true (show Nat.ble 17 t = true from h)
    rw [if_neg (by omega), if_neg (by omega)]
    rfl
  | .inr (.inr (some n)), h =>
    have := Nat.le_of_ble_eq_true (show Nat.ble 17 t = true from h)
    rw [if_neg (by omega), if_neg (by omega)]
    rfl
theorem ix_ok {n N : Nat} (h : n < N) (h2 : n ≤ 2147483647) : ¬ (nI n < 0 ∨ N ≤ (nI n).toNatClampNeg) := by
  rintro (g | g)
  · exact nI_pos (by omega) g
  · rw [nI_clamp (by omega)] at g
    omega
def tyA (t : Nat) : FieldType := match t with
  | 13 => .byte
  | 14 => .int
  | 15 => .long
  | 16 => .boolean
  | 17 => .object "AyeJars$Jars"
  | 18 => .object "AyeJars$Trial"
  | _ => .array .int
theorem tyA_at {cy : Nat → ClassId} {t : Nat} (h1 : 13 ≤ t) (h2 : t ≤ 19) : (tys0 cy)[t - 13]? = some (cy t, tyA t) := by
  have : t = 13 ∨ t = 14 ∨ t = 15 ∨ t = 16 ∨ t = 17 ∨ t = 18 ∨ t = 19 := by omega
  rcases this with rfl | rfl | rfl | rfl | rfl | rfl | rfl <;> rfl
theorem isA {dC : Nat → ClassId} {dI : Nat → Nat → Nat} {cy : Nat → ClassId} {s : State} (hK : va_K (dC, dI) vwCl (tys0 cy) s) {t : Nat} (h1 : 13 ≤ t) (h2 : t ≤ 19) (n : Nat) (f : Nat → Value) : s.isArrayOf (arrV (cy t) n f) (tyA t) := (hK.2 (t - 13) _ (tyA_at h1 h2)).1 n f
/-- a cell is written -/
theorem fin_st {sg : Nat → Int32} {b B : Nat} {cy : Nat → ClassId} {D : va_G} {aw : List rC} {H H1 H0 : Heap} {locs : List Loc} {k i : Nat} {q q' : rC} (hP : va_P D vwCl (rW sg b B cy aw) H) (hH : H.size = B + aw.length) (hS : va_S (rG B) H0 H locs) (hk : aw[k]? = some q) (he : va_at D vwCl (B + k, rce sg b B cy q') H1) (z : H1.size = H.size) (oq : ∀ q : Nat, q ≠ B + k → H1[q]? = H[q]?) : va_P D vwCl (rW sg b B cy (aw.set k q')) H1 ∧ H1.size = B + (aw.set k q').length ∧ va_S (rG B) H0 H1 (locs ++ [⟨B + k, i⟩]) := by
  refine ⟨?_, by rw [List.length_set, z, hH], hS.put z oq (Nat.le_add_right B k)⟩
  rw [← rW_set]
  exact hP.set (rW_D aw) (rW_get hk) he oq
theorem at_st {sg : Nat → Int32} {b B : Nat} {cy : Nat → ClassId} {D : va_G} {H1 : Heap} {k n t : Nat} {l : List rV} {v : rV} {w : Value} (h13 : 13 ≤ t) (hn : n < l.length) (hw : w = aV sg b B t v) (e : H1[B + k]? = some ((arrV (cy t) l.length (fun j => aV sg b B t (l.getD j rd))).setSlot n w)) : va_at D vwCl (B + k, rce sg b B cy (t, l.set n v)) H1 := by
  rw [rce_arr (q := (t, l.set n v)) h13]
  show H1[B + k]? = some (vp_cell (cy t) (rA sg b B t (l.set n v)))
  rw [rA_cell, e, arrV_store, List.length_set]
  congr 2
  funext j
  unfold updV
  by_cases hj : j = n
  · subst hj
    rw [if_pos rfl, hw]
    simp [List.getD_eq_getElem?_getD, hn]
  · rw [if_neg hj]
    simp [List.getD_eq_getElem?_getD, List.getElem?_set, Ne.symm hj]
theorem wset_k {β : Type} (v : rC) (D : rD) (k : Nat) (K : rD → β) : wset v D k K = K (wset v D k (fun d => d)) := by
  unfold wset
  split
  · rw [rset_eq, rset_eq, rset_eq, rset_eq]
  · rfl
theorem wset_rep {D : rD} {aw : List rC} (h : rep D aw) {k : Nat} {q : rC} (hk : aw[k]? = some q) (v : rC) : rep (wset v D k (fun d => d)) (aw.set k v) := by
  obtain ⟨D', h1, h2⟩ := rep_set (β := rD) h (List.getElem?_eq_some_iff.mp hk).1 v
  rw [h2]
  exact h1
theorem s_ald {p : Program} {l : Launch} {e : Env} {R : Room} {s : State} {m : MethodId} {args : Array Value} {below : List Frame} {meth : Method} {c : Code} {Q : State → Prop} {sg : Nat → Int32} {b B : Nat} {L : List Nat} {xs : Nat → Int32} {dC : Nat → ClassId} {dI : Nat → Nat → Nat} {cy : Nat → ClassId} {cc : ByteArray} {nL own : Nat} {ini : Bool} {ret : Option FieldType} {mc ms : Nat} {E : rE} {pc : Nat} {lv : rK} {st : List rV} {aw : rD} {cn z : Nat} {o : rO} {t1 t2 : Nat} (F : FF p s m args meth c cc nL own ini b B L xs dC dI cy) (hs : SG sg L xs) (hE : eOK sg E) (hsc : t1 = 14 → decode cc pc = .ok (.iaload, 1)) (h13 : 13 ≤ t1 ∧ t1 ≤ 19 ∧ 13 ≤ t2 ∧ t2 ≤ 19) (hrow : ∀ (t k n : Nat) (la : List rV) (v : Value) (H : Heap) (locs : List Loc) (ls : Array Slot) (rest : List Value), (t = t1 ∨ t = t2) → H[B + k]? = some (arrV (cy t) la.length (fun j => aV sg b B t (la.getD j rd))) → ¬ (nI n < 0 ∨ la.length ≤ (nI n).toNatClampNeg) → (arrV (cy t) la.length (fun j => aV sg b B t (la.getD j rd))).slots[(nI n).toNatClampNeg]? = some v → W p l e R s m args below meth c H locs cn z Q (F0 m (pc + 1) ls (v :: rest)) → W p l e R s m args below meth c H locs cn z Q (F0 m pc ls (.int (nI n) :: .ref (B + k) :: rest))) (h : ald t1 t2 L E pc lv st aw cn z = some o) : Sem p l e R s m args below meth c Q sg b B cy dC dI nL cc own ret mc ms o (pc, lv, st, aw, cn, z) := by
  obtain ⟨hx, hb, hml, ho, hts, hsf, hin⟩ := F
  unfold ald at h
  split at h
  · next i k r =>
    split at h
    · next n hn =>
      have en := nd_ok hE hn
      split at h
      · next =>
        split at h
        · next v hv =>
          cases h1 : (Nat.beq t1 14 && (Nat.ble n 2147483647 && Nat.ble v 4294967295)) with
          | false => rw [h1] at h; cases h
          | true =>
            rw [h1, cond_true] at h
            cases h
            rw [Bool.and_eq_true, Bool.and_eq_true] at h1
            have g1 := Nat.eq_of_beq_eq_true h1.1
            have g3 := Nat.le_of_ble_eq_true h1.2.1
            have g4 := Nat.le_of_ble_eq_true h1.2.2
            rw [rget_eq] at hv
            have g2 : n < L.length := (List.getElem?_eq_some_iff.mp hv).1
            intro kk aw' H locs ls hr hP hH hS hl
            have hX := hsf.2.2.2.1
            have hbB := hsf.2.2.2.2.1
            have hBs := hsf.2.2.2.2.2.1
            refine va_sld (i := ri sg i) hx hb hX (by omega) (show ¬ B ≤ b by omega) hS ?_ (hsc g1) ?_
            · rw [en.2]
              exact ix_ok g2 (by omega)
            · have e1 : xs (ri sg i).toNatClampNeg = ri sg v := by
                have e2 := hs.2.2.2.1 n g2
                rw [hv] at e2
                rw [en.2, nI_clamp (by omega), Option.some.inj e2, ri_cN]
              rw [e1]
              exact kk aw' H locs ls hr hP hH hS hl
        · cases h
      · next k =>
        split at h
        · next q hq =>
          cases h2 : (Nat.beq q.1 t1 || Nat.beq q.1 t2) with
          | false => rw [h2] at h; cases h
          | true =>
            rw [h2, cond_true] at h
            split at h
            · next v hv =>
              cases h3 : (Nat.ble n 2147483647 && vt q.1 v) with
              | false => rw [h3] at h; cases h
              | true =>
                rw [h3, cond_true] at h
                cases h
                rw [Bool.and_eq_true] at h3
                rw [Bool.or_eq_true] at h2
                have ht : q.1 = t1 ∨ q.1 = t2 := h2.imp Nat.eq_of_beq_eq_true Nat.eq_of_beq_eq_true
                have ht13 : 13 ≤ q.1 ∧ q.1 ≤ 19 := by omega
                rw [rget_eq] at hv
                have hlt : n < q.2.length := (List.getElem?_eq_some_iff.mp hv).1
                have hn31 := Nat.le_of_ble_eq_true h3.1
                intro kk aw' H locs ls hr hP hH hS hl
                have hq' := rep_get hr hq
                have hc := at_arr hP hq' ht13.1
                have key := hrow q.1 k n q.2 (rv sg b B v) H locs ls (r.map (rv sg b B)) ht hc (ix_ok hlt hn31) (by
                  rw [nI_clamp (by omega), arrV_read _ _ hlt]
                  rw [List.getD_eq_getElem?_getD, hv]
                  exact congrArg some (vt_ok ht13.1 h3.2)) (kk aw' H locs ls hr hP hH hS hl)
                rw [← en.2] at key
                exact key
            · cases h
        · cases h
    · exact spl_ok h
  · cases h
theorem cyq {cy : Nat → ClassId} {sg : Nat → Int32} {b B t : Nat} {l : List rV} : (arrV (cy t) l.length (fun j => aV sg b B t (l.getD j rd))).vm ≠ .unknown := fun q => by cases q
theorem s_iald {p : Program} {l : Launch} {e : Env} {R : Room} {s : State} {m : MethodId} {args : Array Value} {below : List Frame} {meth : Method} {c : Code} {Q : State → Prop} {sg : Nat → Int32} {b B : Nat} {L : List Nat} {xs : Nat → Int32} {dC : Nat → ClassId} {dI : Nat → Nat → Nat} {cy : Nat → ClassId} {cc : ByteArray} {nL own : Nat} {ini : Bool} {ret : Option FieldType} {mc ms : Nat} {E : rE} {pc : Nat} {lv : rK} {st : List rV} {aw : rD} {cn z : Nat} {o : rO} (F : FF p s m args meth c cc nL own ini b B L xs dC dI cy) (hs : SG sg L xs) (hE : eOK sg E) (hdg : decode cc pc = .ok (.iaload, 1)) (h : h_ald 14 14 tT own ret ini mc ms L E pc lv st aw cn z = some o) : Sem p l e R s m args below meth c Q sg b B cy dC dI nL cc own ret mc ms o (pc, lv, st, aw, cn, z) := by
  refine s_ald F hs hE (fun _ => hdg) (by decide) ?_ h
  intro t k n l v H locs ls rest ht hc hin hv kk
  obtain ⟨hx, hb, hml, ho, hts, hsf, -⟩ := F
  have e : t = 14 := by omega
  subst e
  exact W.iald hx hb hc (isA hsf.1 (by decide) (by decide) _ _) cyq (by rw [arrV_size]; exact hin) hv rfl rfl hdg kk
theorem s_lald {p : Program} {l : Launch} {e : Env} {R : Room} {s : State} {m : MethodId} {args : Array Value} {below : List Frame} {meth : Method} {c : Code} {Q : State → Prop} {sg : Nat → Int32} {b B : Nat} {L : List Nat} {xs : Nat → Int32} {dC : Nat → ClassId} {dI : Nat → Nat → Nat} {cy : Nat → ClassId} {cc : ByteArray} {nL own : Nat} {ini : Bool} {ret : Option FieldType} {mc ms : Nat} {E : rE} {pc : Nat} {lv : rK} {st : List rV} {aw : rD} {cn z : Nat} {o : rO} (F : FF p s m args meth c cc nL own ini b B L xs dC dI cy) (hs : SG sg L xs) (hE : eOK sg E) (hdg : decode cc pc = .ok (.laload, 1)) (h : h_ald 15 15 tT own ret ini mc ms L E pc lv st aw cn z = some o) : Sem p l e R s m args below meth c Q sg b B cy dC dI nL cc own ret mc ms o (pc, lv, st, aw, cn, z) := by
  refine s_ald F hs hE (fun q => by cases q) (by decide) ?_ h
  intro t k n l v H locs ls rest ht hc hin hv kk
  obtain ⟨hx, hb, hml, ho, hts, hsf, -⟩ := F
  have e : t = 15 := by omega
  subst e
  exact W.lald hx hb hc (isA hsf.1 (by decide) (by decide) _ _) cyq (by rw [arrV_size]; exact hin) hv rfl rfl hdg kk
theorem s_bald {p : Program} {l : Launch} {e : Env} {R : Room} {s : State} {m : MethodId} {args : Array Value} {below : List Frame} {meth : Method} {c : Code} {Q : State → Prop} {sg : Nat → Int32} {b B : Nat} {L : List Nat} {xs : Nat → Int32} {dC : Nat → ClassId} {dI : Nat → Nat → Nat} {cy : Nat → ClassId} {cc : ByteArray} {nL own : Nat} {ini : Bool} {ret : Option FieldType} {mc ms : Nat} {E : rE} {pc : Nat} {lv : rK} {st : List rV} {aw : rD} {cn z : Nat} {o : rO} (F : FF p s m args meth c cc nL own ini b B L xs dC dI cy) (hs : SG sg L xs) (hE : eOK sg E) (hdg : decode cc pc = .ok (.baload, 1)) (h : h_ald 13 16 tT own ret ini mc ms L E pc lv st aw cn z = some o) : Sem p l e R s m args below meth c Q sg b B cy dC dI nL cc own ret mc ms o (pc, lv, st, aw, cn, z) := by
  refine s_ald F hs hE (fun q => by cases q) (by decide) ?_ h
  intro t k n l v H locs ls rest ht hc hin hv kk
  obtain ⟨hx, hb, hml, ho, hts, hsf, -⟩ := F
  rcases ht with rfl | rfl
  · exact W.bald hx hb hc (isA hsf.1 (by decide) (by decide) _ _) cyq (by rw [arrV_size]; exact hin) hv rfl rfl hdg kk
  · exact W.zald hx hb hc (isA hsf.1 (by decide) (by decide) _ _) cyq (by rw [arrV_size]; exact hin) hv rfl rfl hdg kk
theorem s_aald {p : Program} {l : Launch} {e : Env} {R : Room} {s : State} {m : MethodId} {args : Array Value} {below : List Frame} {meth : Method} {c : Code} {Q : State → Prop} {sg : Nat → Int32} {b B : Nat} {L : List Nat} {xs : Nat → Int32} {dC : Nat → ClassId} {dI : Nat → Nat → Nat} {cy : Nat → ClassId} {cc : ByteArray} {nL own : Nat} {ini : Bool} {ret : Option FieldType} {mc ms : Nat} {E : rE} {pc : Nat} {lv : rK} {st : List rV} {aw : rD} {cn z : Nat} {o : rO} (F : FF p s m args meth c cc nL own ini b B L xs dC dI cy) (hs : SG sg L xs) (hE : eOK sg E) (hdg : decode cc pc = .ok (.aaload, 1)) (h : h_aald tT own ret ini mc ms L E pc lv st aw cn z = some o) : Sem p l e R s m args below meth c Q sg b B cy dC dI nL cc own ret mc ms o (pc, lv, st, aw, cn, z) := by
  have main : ∀ o', ald 17 19 L E pc lv st aw cn z = some o' → Sem p l e R s m args below meth c Q sg b B cy dC dI nL cc own ret mc ms o' (pc, lv, st, aw, cn, z) := by
    intro o' h'
    refine s_ald F hs hE (fun q => by cases q) (by decide) ?_ h'
    intro t k n l v H locs ls rest ht hc hin hv kk
    obtain ⟨hx, hb, hml, ho, hts, hsf, -⟩ := F
    rcases ht with rfl | rfl
    · exact W.aald hx hb hc (isA hsf.1 (by decide) (by decide) _ _) rfl cyq (by rw [arrV_size]; exact hin) hv rfl rfl hdg kk
    · exact W.aald hx hb hc (isA hsf.1 (by decide) (by decide) _ _) rfl cyq (by rw [arrV_size]; exact hin) hv rfl rfl hdg kk
  have main2 : ∀ o', ald 18 18 L E pc lv st aw cn z = some o' → Sem p l e R s m args below meth c Q sg b B cy dC dI nL cc own ret mc ms o' (pc, lv, st, aw, cn, z) := by
    intro o' h'
    refine s_ald F hs hE (fun q => by cases q) (by decide) ?_ h'
    intro t k n l v H locs ls rest ht hc hin hv kk
    obtain ⟨hx, hb, hml, ho, hts, hsf, -⟩ := F
    rcases ht with rfl | rfl
    · exact W.aald hx hb hc (isA hsf.1 (by decide) (by decide) _ _) rfl cyq (by rw [arrV_size]; exact hin) hv rfl rfl hdg kk
    · exact W.aald hx hb hc (isA hsf.1 (by decide) (by decide) _ _) rfl cyq (by rw [arrV_size]; exact hin) hv rfl rfl hdg kk
  have main3 : ∀ o', (match ald 17 19 L E pc lv st aw cn z with | some o => some o | none => ald 18 18 L E pc lv st aw cn z) = some o' → Sem p l e R s m args below meth c Q sg b B cy dC dI nL cc own ret mc ms o' (pc, lv, st, aw, cn, z) := by
    intro o' h'
    split at h'
    · next o1 h1 => cases h'; exact main _ h1
    · exact main2 _ h'
  unfold h_aald at h
  split at h
  · next h' => cases h; exact main3 _ h'
  · next h' => cases h; exact main3 _ h'
  · cases h
theorem el_ok {sg : Nat → Int32} {L : List Nat} {xs : Nat → Int32} (hs : SG sg L xs) {b B n : Nat} {t : Nat} (h : ok_el t (.inl n) = true) : (t = 14 ∨ (t = 16 ∧ narrow .boolean (.int (ri sg n)) = .int (ri sg n)) ∨ (t = 13 ∧ narrow .byte (.int (ri sg n)) = .int (ri sg n))) := by
  have h' : (Nat.beq t 14 || (Nat.beq t 16 && Nat.ble n 1) || (Nat.beq t 13 && (Nat.ble n 127 || (Nat.ble 4294967168 n && Nat.ble n 4294967295)))) = true := h
  rw [Bool.or_eq_true, Bool.or_eq_true, Bool.and_eq_true, Bool.and_eq_true, Bool.or_eq_true, Bool.and_eq_true] at h'
  rcases h' with (g | ⟨g1, g2⟩) | ⟨g1, g2⟩
  · exact Or.inl (Nat.eq_of_beq_eq_true g)
  · refine Or.inr (Or.inl ⟨Nat.eq_of_beq_eq_true g1, ?_⟩)
    have g2 := Nat.le_of_ble_eq_true g2
    have : n = 0 ∨ n = 1 := by omega
    rcases this with rfl | rfl
    · rw [ri_c (by decide)]; decide
    · rw [ri_c (by decide)]; decide
  · refine Or.inr (Or.inr ⟨Nat.eq_of_beq_eq_true g1, ?_⟩)
    have key : ∃ y : Int32, ri sg n = y.toInt8.toInt32 := by
      refine ⟨nI n, ?_⟩
      have hn : n < 4294967296 := by
        rcases g2 with g | g
        · have := Nat.le_of_ble_eq_true g; omega
        · have := Nat.le_of_ble_eq_true g.2; omega
      rw [ri_c hn]
      apply Int32.toInt_inj.mp
      rw [Int8.toInt_toInt32, Int32.toInt_toInt8, nI_int]
      rcases g2 with g | g
      · have := Nat.le_of_ble_eq_true g
        rw [Int.bmod_def, Int.bmod_def]
        omega
      · have g3 := Nat.le_of_ble_eq_true g.1
        have g4 := Nat.le_of_ble_eq_true g.2
        rw [Int.bmod_def, Int.bmod_def]
        omega
    obtain ⟨y, hy⟩ := key
    rw [hy]
    exact pk_nb _
end
section
/-! rules: writes, fields, new cells -/
theorem ast_inv {t1 t2 : Nat} {E : rE} {pc : Nat} {lv : rK} {st : List rV} {aw : rD} {cn z : Nat} {o : rO} (h : ast t1 t2 E pc lv st aw cn z = some o) : (∃ s', o = .inr (.inl s')) ∨ ∃ (v : rV) (i k n : Nat) (r : List rV) (q : rC), st = v :: .inl i :: .inr (.inr (some (k + 1))) :: r ∧ nd E i = some n ∧ wget aw k = some q ∧ (q.1 = t1 ∨ q.1 = t2) ∧ ok_el q.1 v = true ∧ n < q.2.length ∧ n ≤ 2147483647 ∧ o = .inl (Nat.add pc 1, lv, r, wset (q.1, q.2.set n v) aw k (fun d => d), cn, z) := by
  unfold ast at h
  split at h
  · next v i k r =>
    split at h
    · next n hn =>
      split at h
      · next q hq =>
        cases h1 : ((Nat.beq q.1 t1 || Nat.beq q.1 t2) && (ok_el q.1 v && (Nat.blt n q.2.length && Nat.ble n 2147483647))) with
        | false => rw [h1] at h; cases h
        | true =>
          rw [h1, cond_true, rset_eq, wset_k] at h
          cases h
          rw [Bool.and_eq_true, Bool.and_eq_true, Bool.and_eq_true, Bool.or_eq_true] at h1
          exact Or.inr ⟨v, i, k, n, r, q, rfl, hn, hq, h1.1.imp Nat.eq_of_beq_eq_true Nat.eq_of_beq_eq_true, h1.2.1, Nat.le_of_ble_eq_true h1.2.2.1, Nat.le_of_ble_eq_true h1.2.2.2, rfl⟩
      · cases h
    · unfold spl at h
      cases hb : (Nat.ble 4294967296 i && Nat.ble (Nat.sub (iv E i).2 (iv E i).1) 64) with
      | false => rw [hb] at h; cases h
      | true => rw [hb, cond_true] at h; cases h; exact Or.inl ⟨_, rfl⟩
  · cases h
theorem s_ast {p : Program} {l : Launch} {e : Env} {R : Room} {s : State} {m : MethodId} {args : Array Value} {below : List Frame} {meth : Method} {c : Code} {Q : State → Prop} {sg : Nat → Int32} {b B : Nat} {L : List Nat} {xs : Nat → Int32} {dC : Nat → ClassId} {dI : Nat → Nat → Nat} {cy : Nat → ClassId} {cc : ByteArray} {nL own : Nat} {ini : Bool} {ret : Option FieldType} {mc ms : Nat} {E : rE} {pc : Nat} {lv : rK} {st : List rV} {aw : rD} {cn z : Nat} {o : rO} {t1 t2 : Nat} (F : FF p s m args meth c cc nL own ini b B L xs dC dI cy) (hE : eOK sg E) (h13 : 13 ≤ t1 ∧ t1 ≤ 19 ∧ 13 ≤ t2 ∧ t2 ≤ 19) (hrow : ∀ (t k n : Nat) (la : List rV) (v : rV) (H : Heap) (locs : List Loc) (ls : Array Slot) (rest : List Value), (t = t1 ∨ t = t2) → ok_el t v = true → H[B + k]? = some (arrV (cy t) la.length (fun j => aV sg b B t (la.getD j rd))) → ¬ (nI n < 0 ∨ la.length ≤ (nI n).toNatClampNeg) → (∀ (H1 : Heap) (w : Value), w = aV sg b B t v → H1[B + k]? = some ((arrV (cy t) la.length (fun j => aV sg b B t (la.getD j rd))).setSlot (nI n).toNatClampNeg w) → H1.size = H.size → (∀ q, q ≠ B + k → H1[q]? = H[q]?) → W p l e R s m args below meth c H1 (locs ++ [⟨B + k, (nI n).toNatClampNeg⟩]) cn z Q (F0 m (pc + 1) ls rest)) → W p l e R s m args below meth c H locs cn z Q (F0 m pc ls (rv sg b B v :: .int (nI n) :: .ref (B + k) :: rest))) (h : ast t1 t2 E pc lv st aw cn z = some o) : Sem p l e R s m args below meth c Q sg b B cy dC dI nL cc own ret mc ms o (pc, lv, st, aw, cn, z) := by
  obtain ⟨hx, hb, hml, ho, hts, hsf, hin⟩ := F
  rcases ast_inv h with ⟨s', rfl⟩ | ⟨v, i, k, n, r, q, rfl, hn, hq, ht, hv, hlt, hn31, rfl⟩
  · exact True.intro
  · have en := nd_ok hE hn
    have ht13 : 13 ≤ q.1 ∧ q.1 ≤ 19 := by omega
    intro kk aw' H locs ls hr hP hH hS hl
    have hq' := rep_get hr hq
    have hc := at_arr hP hq' ht13.1
    have key := hrow q.1 k n q.2 v H locs ls (r.map (rv sg b B)) ht hv hc (ix_ok hlt hn31) (fun H1 w hw e z' oq => by
      rw [nI_clamp (by omega)] at e ⊢
      obtain ⟨p1, p2, p3⟩ := fin_st (i := n) hP hH hS hq' (at_st ht13.1 hlt hw e) z' oq
      exact kk (aw'.set k (q.1, q.2.set n v)) H1 _ ls (wset_rep hr hq' _) p1 p2 p3 hl)
    rw [← en.2] at key
    exact key
theorem s_iast {p : Program} {l : Launch} {e : Env} {R : Room} {s : State} {m : MethodId} {args : Array Value} {below : List Frame} {meth : Method} {c : Code} {Q : State → Prop} {sg : Nat → Int32} {b B : Nat} {L : List Nat} {xs : Nat → Int32} {dC : Nat → ClassId} {dI : Nat → Nat → Nat} {cy : Nat → ClassId} {cc : ByteArray} {nL own : Nat} {ini : Bool} {ret : Option FieldType} {mc ms : Nat} {E : rE} {pc : Nat} {lv : rK} {st : List rV} {aw : rD} {cn z : Nat} {o : rO} (F : FF p s m args meth c cc nL own ini b B L xs dC dI cy) (hs : SG sg L xs) (hE : eOK sg E) (hdg : decode cc pc = .ok (.iastore, 1)) (h : h_ast 14 14 tT own ret ini mc ms L E pc lv st aw cn z = some o) : Sem p l e R s m args below meth c Q sg b B cy dC dI nL cc own ret mc ms o (pc, lv, st, aw, cn, z) := by
  refine s_ast F hE (by decide) ?_ h
  intro t k n la v H locs ls rest ht hv hc hin kk
  obtain ⟨hx, hb, hml, ho, hts, hsf, -⟩ := F
  have e : t = 14 := by omega
  subst e
  match v, hv with
  | .inl a, hv => exact W.iast hx hb hc (isA hsf.1 (by decide) (by decide) _ _) cyq (by rw [arrV_size]; exact hin) rfl rfl hdg (fun H1 e z' oq => kk H1 _ rfl e z' oq)
  | .inr (.inl a), hv => cases hv
  | .inr (.inr a), hv => cases hv
theorem s_last {p : Program} {l : Launch} {e : Env} {R : Room} {s : State} {m : MethodId} {args : Array Value} {below : List Frame} {meth : Method} {c : Code} {Q : State → Prop} {sg : Nat → Int32} {b B : Nat} {L : List Nat} {xs : Nat → Int32} {dC : Nat → ClassId} {dI : Nat → Nat → Nat} {cy : Nat → ClassId} {cc : ByteArray} {nL own : Nat} {ini : Bool} {ret : Option FieldType} {mc ms : Nat} {E : rE} {pc : Nat} {lv : rK} {st : List rV} {aw : rD} {cn z : Nat} {o : rO} (F : FF p s m args meth c cc nL own ini b B L xs dC dI cy) (hs : SG sg L xs) (hE : eOK sg E) (hdg : decode cc pc = .ok (.lastore, 1)) (h : h_ast 15 15 tT own ret ini mc ms L E pc lv st aw cn z = some o) : Sem p l e R s m args below meth c Q sg b B cy dC dI nL cc own ret mc ms o (pc, lv, st, aw, cn, z) := by
  refine s_ast F hE (by decide) ?_ h
  intro t k n la v H locs ls rest ht hv hc hin kk
  obtain ⟨hx, hb, hml, ho, hts, hsf, -⟩ := F
  have e : t = 15 := by omega
  subst e
  match v, hv with
  | .inl a, hv => exact absurd (el_ok (b := b) (B := B) hs hv) (by omega)
  | .inr (.inl a), hv => exact W.last hx hb hc (isA hsf.1 (by decide) (by decide) _ _) cyq (by rw [arrV_size]; exact hin) rfl rfl hdg (fun H1 e z' oq => kk H1 _ rfl e z' oq)
  | .inr (.inr a), hv => cases hv
theorem s_bast {p : Program} {l : Launch} {e : Env} {R : Room} {s : State} {m : MethodId} {args : Array Value} {below : List Frame} {meth : Method} {c : Code} {Q : State → Prop} {sg : Nat → Int32} {b B : Nat} {L : List Nat} {xs : Nat → Int32} {dC : Nat → ClassId} {dI : Nat → Nat → Nat} {cy : Nat → ClassId} {cc : ByteArray} {nL own : Nat} {ini : Bool} {ret : Option FieldType} {mc ms : Nat} {E : rE} {pc : Nat} {lv : rK} {st : List rV} {aw : rD} {cn z : Nat} {o : rO} (F : FF p s m args meth c cc nL own ini b B L xs dC dI cy) (hs : SG sg L xs) (hE : eOK sg E) (hdg : decode cc pc = .ok (.bastore, 1)) (h : h_ast 13 16 tT own ret ini mc ms L E pc lv st aw cn z = some o) : Sem p l e R s m args below meth c Q sg b B cy dC dI nL cc own ret mc ms o (pc, lv, st, aw, cn, z) := by
  refine s_ast F hE (by decide) ?_ h
  intro t k n la v H locs ls rest ht hv hc hin kk
  obtain ⟨hx, hb, hml, ho, hts, hsf, -⟩ := F
  match v, hv with
  | .inl a, hv =>
    rcases el_ok (b := b) (B := B) hs hv with g | ⟨g, hg⟩ | ⟨g, hg⟩
    · omega
    · subst g
      exact W.zast hx hb hc (isA hsf.1 (by decide) (by decide) _ _) cyq (by rw [arrV_size]; exact hin) rfl rfl hdg (fun H1 e z' oq => kk H1 _ hg e z' oq)
    · subst g
      exact W.bast hx hb hc (isA hsf.1 (by decide) (by decide) _ _) cyq (by rw [arrV_size]; exact hin) rfl rfl hdg (fun H1 e z' oq => kk H1 _ hg e z' oq)
  | .inr (.inl a), hv =>
    have := Nat.eq_of_beq_eq_true (show Nat.beq t 15 = true from hv)
    omega
  | .inr (.inr a), hv => cases hv
theorem s_aasr {p : Program} {l : Launch} {e : Env} {R : Room} {s : State} {m : MethodId} {args : Array Value} {below : List Frame} {meth : Method} {c : Code} {Q : State → Prop} {sg : Nat → Int32} {b B : Nat} {L : List Nat} {xs : Nat → Int32} {dC : Nat → ClassId} {dI : Nat → Nat → Nat} {cy : Nat → ClassId} {cc : ByteArray} {nL own : Nat} {ini : Bool} {ret : Option FieldType} {mc ms : Nat} {E : rE} {pc : Nat} {lv : rK} {st : List rV} {aw : rD} {cn z : Nat} {o : rO} (F : FF p s m args meth c cc nL own ini b B L xs dC dI cy) (hE : eOK sg E) (hdg : decode cc pc = .ok (.aastore, 1)) (h : h_aasr tT own ret ini mc ms L E pc lv st aw cn z = some o) : Sem p l e R s m args below meth c Q sg b B cy dC dI nL cc own ret mc ms o (pc, lv, st, aw, cn, z) := by
  obtain ⟨hx, hb, hml, ho, hts, hsf, hin⟩ := F
  unfold h_aasr aasr at h
  split at h
  · next j i k r =>
    split at h
    · next n hn =>
      split at h
      · next q hq =>
        split at h
        · next w hw =>
          cases h1 : (((Nat.beq q.1 17 && Nat.beq w.1 6) || (Nat.beq q.1 18 && Nat.beq w.1 10)) && (Nat.blt n q.2.length && Nat.ble n 2147483647)) with
          | false => rw [h1] at h; cases h
          | true =>
            rw [h1, cond_true, rset_eq, wset_k] at h
            cases h
            rw [Bool.and_eq_true, Bool.and_eq_true, Bool.or_eq_true, Bool.and_eq_true, Bool.and_eq_true] at h1
            have hlt : n < q.2.length := Nat.le_of_ble_eq_true h1.2.1
            have hn31 := Nat.le_of_ble_eq_true h1.2.2
            have en := nd_ok hE hn
            obtain ⟨C, T, N, ht13, ht18, hc, hty⟩ : ∃ (C : String) (T : u_T) (N : Nat), 13 ≤ q.1 ∧ (q.1 = 17 ∨ q.1 = 18) ∧ vwCl[w.1]? = some (C, T, N) ∧ tyA q.1 = .object C := by
              rcases h1.1 with ⟨g1, g2⟩ | ⟨g1, g2⟩
              · have g1 := Nat.eq_of_beq_eq_true g1
                have g2 := Nat.eq_of_beq_eq_true g2
                rw [g1, g2]
                exact ⟨_, _, _, by decide, Or.inl rfl, rfl, rfl⟩
              · have g1 := Nat.eq_of_beq_eq_true g1
                have g2 := Nat.eq_of_beq_eq_true g2
                rw [g1, g2]
                exact ⟨_, _, _, by decide, Or.inr rfl, rfl, rfl⟩
            have hw13 : w.1 < 13 := by
              rcases h1.1 with ⟨g1, g2⟩ | ⟨g1, g2⟩
              · have g2 := Nat.eq_of_beq_eq_true g2; omega
              · have g2 := Nat.eq_of_beq_eq_true g2; omega
            intro kk aw' H locs ls hr hP hH hS hl
            have hq' := rep_get hr hq
            have hw' := rep_get hr hw
            have hcell := at_arr hP hq' ht13
            have hobj := hP j _ (rW_get hw')
            rw [rce_obj hw13] at hobj
            obtain ⟨r', hr', cellV, g1, g2, g3, -⟩ := hobj
            have hcls := (hsf.1.1 w.1 _ hc).2
            have hRA := (hsf.1.2 (q.1 - 13) _ (tyA_at ht13 (by omega))).2
            rw [hty] at hRA
            obtain ⟨kA, comp, k1, k2, k3, -⟩ := hRA
            have hcomp : comp = dC w.1 := Option.some.inj (k3.symm.trans hcls.1)
            subst hcomp
            obtain ⟨kC, hkC, -⟩ := hcls.2
            have key : W p l e R s m args below meth c H locs cn z Q (F0 m pc ls (.ref (B + j) :: .int (nI n) :: .ref (B + k) :: r.map (rv sg b B))) := by
              refine W.aast hx hb hcell (fun q h => by cases h) (fun h => by cases h) k1 k2 rfl hkC ⟨nI_pos (by omega), by rw [arrV_size, nI_clamp (by omega)]; exact hlt⟩ g1 (fun q h => by rw [g3] at h; cases h) (by rw [g2]; exact hkC) (by rw [g2]; exact va_assign hcls) rfl rfl hdg fun H1 e z' oq => ?_
              rw [nI_clamp (by omega)] at e ⊢
              obtain ⟨p1, p2, p3⟩ := fin_st (i := n) (q' := (q.1, q.2.set n (.inr (.inr (some (j + 1)))))) hP hH hS hq' (at_st ht13 hlt (by
                unfold aV
                rw [if_neg (by omega), if_neg (by omega)]
                rfl) e) z' oq
              exact kk _ H1 _ ls (wset_rep hr hq' _) p1 p2 p3 hl
            rw [← en.2] at key
            exact key
        · cases h
      · cases h
    · exact spl_ok h
  · cases h
theorem s_alen {p : Program} {l : Launch} {e : Env} {R : Room} {s : State} {m : MethodId} {args : Array Value} {below : List Frame} {meth : Method} {c : Code} {Q : State → Prop} {sg : Nat → Int32} {b B : Nat} {L : List Nat} {xs : Nat → Int32} {dC : Nat → ClassId} {dI : Nat → Nat → Nat} {cy : Nat → ClassId} {cc : ByteArray} {nL own : Nat} {ini : Bool} {ret : Option FieldType} {mc ms : Nat} {E : rE} {pc : Nat} {lv : rK} {st : List rV} {aw : rD} {cn z : Nat} {o : rO} (F : FF p s m args meth c cc nL own ini b B L xs dC dI cy) (hs : SG sg L xs) (hdg : decode cc pc = .ok (.arraylength, 1)) (h : h_alen tT own ret ini mc ms L E pc lv st aw cn z = some o) : Sem p l e R s m args below meth c Q sg b B cy dC dI nL cc own ret mc ms o (pc, lv, st, aw, cn, z) := by
  obtain ⟨hx, hb, hml, ho, hts, hsf, hin⟩ := F
  unfold h_alen at h
  split at h
  · next k r =>
    split at h
    · rw [fN_eq] at h
      cases h
      intro kk aw' H locs ls hr hP hH hS hl
      have hbB := hsf.2.2.2.2.1
      have hBs := hsf.2.2.2.2.2.1
      refine va_slen (b := b) hx hb hsf.2.2.2.1 (by omega) (show ¬ B ≤ b by omega) hS hdg ?_
      have e : ri sg L.length = Int32.ofNat L.length := ri_c (Nat.lt_trans hs.2.2.2.2 (by decide))
      rw [← e]
      exact kk aw' H locs ls hr hP hH hS hl
    · next k =>
      split at h
      · next q hq =>
        cases h1 : (Nat.ble 13 q.1 && (Nat.ble q.1 19 && Nat.ble q.2.length 4294967295)) with
        | false => rw [h1] at h; cases h
        | true =>
          rw [h1, cond_true, fN_eq] at h
          cases h
          rw [Bool.and_eq_true, Bool.and_eq_true] at h1
          have g1 := Nat.le_of_ble_eq_true h1.1
          have g2 := Nat.le_of_ble_eq_true h1.2.1
          have g3 := Nat.le_of_ble_eq_true h1.2.2
          intro kk aw' H locs ls hr hP hH hS hl
          have hq' := rep_get hr hq
          refine W.alen (n := nI q.2.length) hx hb (at_arr hP hq' g1) (isA hsf.1 g1 g2 _ _) (by rw [arrV_size]; rfl) rfl rfl hdg ?_
          have e : ri sg q.2.length = nI q.2.length := ri_c (Nat.lt_succ_of_le g3)
          rw [← e]
          exact kk aw' H locs ls hr hP hH hS hl
      · cases h
  · cases h
theorem s_getf {p : Program} {l : Launch} {e : Env} {R : Room} {s : State} {m : MethodId} {args : Array Value} {below : List Frame} {meth : Method} {c : Code} {Q : State → Prop} {sg : Nat → Int32} {b B : Nat} {L : List Nat} {xs : Nat → Int32} {dC : Nat → ClassId} {dI : Nat → Nat → Nat} {cy : Nat → ClassId} {cc : ByteArray} {nL own : Nat} {ini : Bool} {ret : Option FieldType} {mc ms : Nat} {E : rE} {pc : Nat} {lv : rK} {st : List rV} {aw : rD} {cn z : Nat} {o : rO} {i : Nat} (F : FF p s m args meth c cc nL own ini b B L xs dC dI cy) (hO : OT) (hdg : decode cc pc = .ok (.getfield i, 3)) (h : h_getf i tT own ret ini mc ms L E pc lv st aw cn z = some o) : Sem p l e R s m args below meth c Q sg b B cy dC dI nL cc own ret mc ms o (pc, lv, st, aw, cn, z) := by
  obtain ⟨hx, hb, hml, ho, hts, hsf, hin⟩ := F
  unfold h_getf at h
  split at h
  · next j r =>
    split at h
    · next ci k w hk =>
      split at h
      · next q hq =>
        cases h1 : Nat.beq q.1 ci with
        | false => rw [h1] at h; cases h
        | true =>
          rw [h1, cond_true] at h
          split at h
          · next v hv =>
            cases h
            have g1 := Nat.eq_of_beq_eq_true h1
            obtain ⟨fi, kd⟩ := w
            obtain ⟨C, T, N, hc, hkN, hlink, hkd, hfin⟩ := hO.2.1 own i ci k fi kd (kf_mem hk)
            obtain ⟨c1, c2, c3, c4, c5, c6, c7, c8⟩ := hO.1 ci C T N hc
            intro kk aw' H locs ls hr hP hH hS hl
            have hq' := rep_get hr hq
            have he := rW_get (sg := sg) (b := b) (B := B) (cy := cy) hq'
            rw [rce_obj (by rw [g1]; exact c7), g1] at he
            rw [rget_eq] at hv
            exact va_get (v := rv sg b B v) hx hb hts c1 ho hsf.1 hP j he hc k hkN (hts _ hlink) (fun _ h9 => h9) (by rw [List.getElem?_map, hv]; rfl) hdg (kk aw' H locs ls hr hP hH hS hl)
          · cases h
      · cases h
    · cases h
  · cases h
theorem fi_ok {sg : Nat → Int32} {b B kd : Nat} {ty : FieldType} {v : rV} (hk : fk ty = kd) (h : ok_fi kd v = true) : narrow ty (rv sg b B v) = rv sg b B v ∧ fits ty (rv sg b B v) = true := by
  subst hk
  match v, h with
  | .inl n, h =>
    have h' : (Nat.beq (fk ty) 0 || (Nat.beq (fk ty) 1 && Nat.ble n 1)) = true := h
    rw [Bool.or_eq_true, Bool.and_eq_true] at h'
    rcases h' with g | ⟨g1, g2⟩
    · have g := Nat.eq_of_beq_eq_true g
      cases ty <;> first | exact ⟨rfl, rfl⟩ | cases g
    · have g1 := Nat.eq_of_beq_eq_true g1
      have g2 := Nat.le_of_ble_eq_true g2
      cases ty <;> first | (cases g1; done) | skip
      have : n = 0 ∨ n = 1 := by omega
      show narrow .boolean (.int (ri sg n)) = .int (ri sg n) ∧ fits .boolean (.int (ri sg n)) = true
      rcases this with rfl | rfl
      · rw [ri_c (by decide)]; decide
      · rw [ri_c (by decide)]; decide
  | .inr (.inl n), h =>
    have g := Nat.eq_of_beq_eq_true (show Nat.beq (fk ty) 2 = true from h)
    cases ty <;> first | exact ⟨rfl, rfl⟩ | cases g
  | .inr (.inr (some n)), h =>
    have g := Nat.eq_of_beq_eq_true (show Nat.beq (fk ty) 3 = true from h)
    cases ty <;> first | exact ⟨rfl, rfl⟩ | cases g
  | .inr (.inr none), h => cases h
theorem s_putf {p : Program} {l : Launch} {e : Env} {R : Room} {s : State} {m : MethodId} {args : Array Value} {below : List Frame} {meth : Method} {c : Code} {Q : State → Prop} {sg : Nat → Int32} {b B : Nat} {L : List Nat} {xs : Nat → Int32} {dC : Nat → ClassId} {dI : Nat → Nat → Nat} {cy : Nat → ClassId} {cc : ByteArray} {nL own : Nat} {ini : Bool} {ret : Option FieldType} {mc ms : Nat} {E : rE} {pc : Nat} {lv : rK} {st : List rV} {aw : rD} {cn z : Nat} {o : rO} {i : Nat} (F : FF p s m args meth c cc nL own ini b B L xs dC dI cy) (hO : OT) (hdg : decode cc pc = .ok (.putfield i, 3)) (h : h_putf i tT own ret ini mc ms L E pc lv st aw cn z = some o) : Sem p l e R s m args below meth c Q sg b B cy dC dI nL cc own ret mc ms o (pc, lv, st, aw, cn, z) := by
  obtain ⟨hx, hb, hml, ho, hts, hsf, hini⟩ := F
  unfold h_putf at h
  split at h
  · next v j r =>
    split at h
    · next ci k fi kd hk =>
      split at h
      · next q hq =>
        cases h1 : (Nat.beq q.1 ci && (ok_fi kd v && (Nat.blt k q.2.length && (Nat.beq fi 0 || (Nat.beq fi 1 && ini))))) with
        | false => rw [h1] at h; cases h
        | true =>
          rw [h1, cond_true, rset_eq, wset_k] at h
          cases h
          rw [Bool.and_eq_true, Bool.and_eq_true, Bool.and_eq_true, Bool.or_eq_true, Bool.and_eq_true] at h1
          have g1 := Nat.eq_of_beq_eq_true h1.1
          have g2 := h1.2.1
          have hl0 : k < q.2.length := Nat.le_of_ble_eq_true h1.2.2.1
          obtain ⟨C, T, N, hc, hkN, hlink, hkd, hfin⟩ := hO.2.1 own i ci k fi kd (kf_mem hk)
          obtain ⟨c1, c2, c3, c4, c5, c6, c7, c8⟩ := hO.1 ci C T N hc
          have hvf := fi_ok (sg := sg) (b := b) (B := B) hkd g2
          intro kk aw' H locs ls hr hP hH hS hl
          have hq' := rep_get hr hq
          have he := rW_get (sg := sg) (b := b) (B := B) (cy := cy) hq'
          rw [rce_obj (by rw [g1]; exact c7), g1] at he
          have hap := va_apart (own := oN own) hts c1 (fty ci) c2 c3 hsf.1 hc
          obtain ⟨r0, hr0, cell, q1, q2, q3, q4⟩ := hP j _ he
          have hr1 : r0 = (C, T, N) := Option.some.inj (hr0.symm.trans hc)
          subst hr1
          obtain ⟨hSl, hfc, kC, hkC, hkind⟩ := hsf.1.1 ci _ hc
          obtain ⟨cf, kf0, fi0, f, hi, hsl⟩ := hSl k hkN
          have hst := (u_facts hfc hkC (u_lays hts c1 hkN) hi).1
          have hlay := hts _ (c1 _ (u_in_lay hkN))
          unfold u_lay at hlay
          have fin : ∀ H' : Heap, H'[B + j]? = some (cell.setSlot f.slot (rv sg b B v)) → H'.size = H.size → (∀ q, q ≠ B + j → H'[q]? = H[q]?) → W p l e R s m args below meth c H' (locs ++ [⟨B + j, f.slot⟩]) cn z Q (F0 m (pc + 3) ls (r.map (rv sg b B))) := by
            intro H' e1 e2 e3
            rw [hsl] at e1 ⊢
            obtain ⟨p1, p2, p3⟩ := fin_st (i := dI ci k) (q' := (q.1, q.2.set k v)) hP hH hS hq' (by
              rw [rce_obj (q := (q.1, q.2.set k v)) (by rw [g1]; exact c7)]
              show va_at (dC, dI) vwCl (B + j, .inr (q.1, (q.2.set k v).map (rv sg b B))) H'
              rw [g1, List.map_set]
              exact ⟨_, hc, t_OB.to (V := updV (vp_V (q.2.map (rv sg b B))) k (rv sg b B v)) ⟨_, e1, q2, q3, t_set q4 hap hkN _⟩ (fun j' _ => vp_updV_set (by rw [List.length_map]; exact hl0) _ j')⟩) e2 e3
            exact kk _ H' _ ls (wset_rep hr hq' _) p1 p2 p3 hl
          rcases hfin with ⟨f0, f1⟩ | ⟨f0, f1, f2⟩ | f0
          · rw [if_neg (by rw [f1]; decide)] at hlay
            have h6 := u_store hfc hkC hkind hlay hi (c2 k hkN) hvf.1 hvf.2
            exact W.putK hx hb (f := f) ⟨ho, hts _ hlink, ⟨_, _, _, hi⟩, hst⟩ (by rw [q2]; exact h6) q1 q3 (by rw [hsl]; exact k2_hasslot (q4 k hkN)) rfl rfl hdg fin
          · rw [if_pos f1] at hlay
            have hi1 : ini = true := by
              rcases h1.2.2.2 with g | g
              · rw [f0] at g; cases g
              · exact g.2
            have hcf : m.cls = cf := by
              obtain ⟨_, _, c', _, _, _, -, -, hf', -, -, -, hown2, -⟩ := Cond.laysFinal_spec hlay
              have e1 : c' = cf := by have := hi.symm.trans hf'; simp at this; exact this.1.symm
              rw [f2] at hown2
              rw [← e1]; exact Option.some.inj (ho.symm.trans hown2)
            have h6 := u_fits hfc hkC hkind (Or.inr hlay) hi (c2 k hkN) hvf.1 hvf.2
            exact W.putFinK hx hb ho (hts _ hlink) hi hst hcf (hini hi1) (by rw [q2]; exact h6) q1 q3 (by rw [hsl]; exact k2_hasslot (q4 k hkN)) rfl rfl hdg fin
          · rcases h1.2.2.2 with g | g
            · rw [f0] at g; cases g
            · rw [f0] at g; cases g.1
      · cases h
    · cases h
  · cases h
end
section
/-! rules: new cells, copies, Object's constructor -/
theorem wsnoc_k {β : Type} (v : rC) (D : rD) (K : rD → β) : wsnoc v D K = K (wsnoc v D (fun d => d)) := by
  unfold wsnoc
  rw [fN_eq, fN_eq]
  split
  · rw [rsnoc_eq, rset_eq, rsnoc_eq, rset_eq]
  · rw [rsnoc_eq, rsnoc_eq]
theorem wsnoc_rep {D : rD} {aw : List rC} (h : rep D aw) (v : rC) : rep (wsnoc v D (fun d => d)) (aw ++ [v]) := by
  obtain ⟨D', h1, h2⟩ := rep_snoc (β := rD) h v
  rw [h2]
  exact h1
/-- a cell is made -/
theorem fin_new {sg : Nat → Int32} {b B : Nat} {cy : Nat → ClassId} {D : va_G} {aw : List rC} {H H1 H0 : Heap} {locs : List Loc} {q' : rC} (hP : va_P D vwCl (rW sg b B cy aw) H) (hH : H.size = B + aw.length) (hS : va_S (rG B) H0 H locs) (he : va_at D vwCl (B + aw.length, rce sg b B cy q') H1) (z : H1.size = H.size + 1) (oq : ∀ q : Nat, q < H.size → H1[q]? = H[q]?) : va_P D vwCl (rW sg b B cy (aw ++ [q'])) H1 ∧ H1.size = B + (aw ++ [q']).length ∧ va_S (rG B) H0 H1 locs := by
  refine ⟨?_, by rw [List.length_append, z, hH]; rfl, ⟨Nat.le_trans hS.1 (by omega), fun x h1 h2 => (oq x (Nat.lt_of_lt_of_le h1 hS.1)).trans (hS.2.1 x h1 h2), hS.2.2⟩⟩
  rw [rW_app]
  refine va_P.app (hP.kept (fun k x hx => oq x.1 ((hP k x hx).lt))) (fun k x hx => ?_)
  have hz : k < 1 := (List.getElem?_eq_some_iff.mp hx).1
  rw [show k = 0 by omega] at hx
  cases hx
  exact he
theorem fd_ok {sg : Nat → Int32} {b B : Nat} {ty : FieldType} (h : fk ty ≠ 4) : defaultValue ty = rv sg b B (fd (fk ty)) := by
  cases ty <;> first | rfl | exact absurd rfl h
theorem s_new {p : Program} {l : Launch} {e : Env} {R : Room} {s : State} {m : MethodId} {args : Array Value} {below : List Frame} {meth : Method} {c : Code} {Q : State → Prop} {sg : Nat → Int32} {b B : Nat} {L : List Nat} {xs : Nat → Int32} {dC : Nat → ClassId} {dI : Nat → Nat → Nat} {cy : Nat → ClassId} {cc : ByteArray} {nL own : Nat} {ini : Bool} {ret : Option FieldType} {mc ms : Nat} {E : rE} {pc : Nat} {lv : rK} {st : List rV} {aw : rD} {cn z : Nat} {o : rO} {i : Nat} (hR : R.cells = mc ∧ R.slots = ms) (F : FF p s m args meth c cc nL own ini b B L xs dC dI cy) (hO : OT) (hdg : decode cc pc = .ok (.new i, 3)) (h : h_new i tT own ret ini mc ms L E pc lv st aw cn z = some o) : Sem p l e R s m args below meth c Q sg b B cy dC dI nL cc own ret mc ms o (pc, lv, st, aw, cn, z) := by
  obtain ⟨hx, hb, hml, ho, hts, hsf, hini⟩ := F
  unfold h_new at h
  split at h
  · next ci hk =>
    cases h1 : (Nat.blt ci 13 && (Nat.ble (Nat.add cn 1) mc && Nat.ble (Nat.add z (fnn ci)) ms)) with
    | false => rw [h1] at h; cases h
    | true =>
      rw [h1, cond_true, wsnoc_k] at h
      cases h
      rw [Bool.and_eq_true, Bool.and_eq_true] at h1
      have g1 : ci < 13 := Nat.le_of_ble_eq_true h1.1
      have g2 : cn + 1 ≤ mc := Nat.le_of_ble_eq_true h1.2.1
      have g3 : z + fnn ci ≤ ms := Nat.le_of_ble_eq_true h1.2.2
      obtain ⟨C, T, N, hc, hlink⟩ := (hO.2.2.1 own i ci (kf_mem hk)).1 g1
      obtain ⟨c1, c2, c3, c4, c5, c6, c7, c8⟩ := hO.1 ci C T N hc
      intro kk aw' H locs ls hr hP hH hS hl
      have hKn := hsf.1.1 ci _ hc
      refine W.newcK hx hb ho (hts _ hlink) (hts _ c4) (hts _ c5) rfl hdg (by rw [hR.1]; exact g2) (by rw [hR.2, c6]; exact g3) hKn.2.1 rfl fun H1 kC hkC e1 z1 o1 => ?_
      have hat : va_at (dC, dI) vwCl (B + aw'.length, rce sg b B cy (ci, blank_ ci)) H1 := by
        rw [rce_obj (q := (ci, blank_ ci)) c7, ← hH]
        refine ⟨_, hc, (u_born (fty ci) hts c1 hKn hkC e1 c2).to (fun j hj => ?_)⟩
        show defaultValue (fty ci j) = ((blank_ ci).map (rv sg b B)).getD j .null
        unfold blank_
        rw [List.getD_eq_getElem?_getD, List.getElem?_map, List.getElem?_map, ← c6, List.getElem?_range hj]
        exact fd_ok (c8 j hj)
      obtain ⟨p1, p2, p3⟩ := fin_new hP hH hS hat z1 o1
      have key := kk (aw' ++ [(ci, blank_ ci)]) H1 locs ls (wsnoc_rep hr _) p1 p2 p3 hl
      have er : rv sg b B (.inr (.inr (some (Nat.succ aw.1)))) = .ref H.size := by
        show Value.ref (B + aw.1) = _
        rw [hH]
        congr 2
        exact hr.1
      rw [c6]
      rw [← er]
      exact key
  · cases h
theorem z_def {sg : Nat → Int32} {b B : Nat} {t : ArrayType} (h : 13 ≤ ztag t) : newarray.typeOf t = tyA (ztag t) ∧ ztag t ≤ 19 ∧ aV sg b B (ztag t) (zval (ztag t)) = defaultValue (newarray.typeOf t) ∧ componentBytes (newarray.typeOf t) ≤ 8 := by
  cases t <;> first | exact ⟨rfl, by decide, rfl, by decide⟩ | (exfalso; revert h; decide)
theorem s_newa {p : Program} {l : Launch} {e : Env} {R : Room} {s : State} {m : MethodId} {args : Array Value} {below : List Frame} {meth : Method} {c : Code} {Q : State → Prop} {sg : Nat → Int32} {b B : Nat} {L : List Nat} {xs : Nat → Int32} {dC : Nat → ClassId} {dI : Nat → Nat → Nat} {cy : Nat → ClassId} {cc : ByteArray} {nL own : Nat} {ini : Bool} {ret : Option FieldType} {mc ms : Nat} {E : rE} {pc : Nat} {lv : rK} {st : List rV} {aw : rD} {cn z : Nat} {o : rO} {t : ArrayType} (hR : R.cells = mc ∧ R.slots = ms) (F : FF p s m args meth c cc nL own ini b B L xs dC dI cy) (hO : OT) (hE : eOK sg E) (hdg : decode cc pc = .ok (.newarray t, 2)) (h : h_newa t tT own ret ini mc ms L E pc lv st aw cn z = some o) : Sem p l e R s m args below meth c Q sg b B cy dC dI nL cc own ret mc ms o (pc, lv, st, aw, cn, z) := by
  obtain ⟨hx, hb, hml, ho, hts, hsf, hini⟩ := F
  unfold h_newa at h
  split at h
  · next x r =>
    split at h
    · next n hn =>
      cases h1 : (Nat.ble 13 (ztag t) && (Nat.ble n 100000 && (Nat.ble (Nat.add cn 1) mc && Nat.ble (Nat.add z n) ms))) with
      | false => rw [h1] at h; cases h
      | true =>
        rw [h1, cond_true, wsnoc_k] at h
        cases h
        rw [Bool.and_eq_true, Bool.and_eq_true, Bool.and_eq_true] at h1
        have g0 := Nat.le_of_ble_eq_true h1.1
        have g1 := Nat.le_of_ble_eq_true h1.2.1
        have g2 : cn + 1 ≤ mc := Nat.le_of_ble_eq_true h1.2.2.1
        have g3 : z + n ≤ ms := Nat.le_of_ble_eq_true h1.2.2.2
        obtain ⟨z1, z2, z3, z4⟩ := z_def (sg := sg) (b := b) (B := B) g0
        have en := nd_ok hE hn
        have harr : (Cond.arrayClass (newarray.typeOf t)).before args s = true := by
          obtain ⟨-, -, -, -, -, -, -, -, -, -, -, a1, a2, a3, a4⟩ := hO
          cases t <;> first | exact hts _ a1 | exact hts _ a2 | exact hts _ a3 | exact hts _ a4 | (exfalso; revert g0; decide)
        intro kk aw' H locs ls hr hP hH hS hl
        have key : W p l e R s m args below meth c H locs cn z Q (F0 m pc ls (.int (nI n) :: r.map (rv sg b B))) := by
          have hbytes : n * componentBytes (newarray.typeOf t) ≤ 536870912 := Nat.le_trans (Nat.mul_le_mul g1 z4) (by decide)
          refine va_newaK hx hb harr rfl hdg rfl (nI_pos (by omega)) (nI_clamp (by omega)) hbytes (by rw [hR.1]; exact g2) (by rw [hR.2]; exact g3) rfl fun H1 cA e1 z1' o1 hAr hNm => ?_
          have hcA : cA = cy (ztag t) := by
            have hRA := (hsf.1.2 (ztag t - 13) _ (tyA_at g0 z2)).2
            have : s.vm.findClass ("[" ++ (tyA (ztag t)).toString) = some (cy (ztag t)) := by
              cases t <;> first | exact hRA | (exfalso; revert g0; decide)
            rw [← z1] at this
            exact Option.some.inj (hNm.symm.trans this)
          subst hcA
          have hat : va_at (dC, dI) vwCl (B + aw'.length, rce sg b B cy (ztag t, List.replicate n (zval (ztag t)))) H1 := by
            rw [rce_arr (q := (ztag t, List.replicate n (zval (ztag t)))) g0]
            show H1[B + aw'.length]? = some (vp_cell _ _)
            rw [rA_cell, ← hH, e1, List.length_replicate]
            have hcong : ∀ f g : Nat → Value, (∀ j, j < n → f j = g j) → arrV (cy (ztag t)) n f = arrV (cy (ztag t)) n g := by
              intro f g hfg
              unfold arrV
              congr 2
              funext j
              exact hfg j.1 j.2
            congr 1
            apply hcong
            intro j hj
            rw [List.getD_eq_getElem?_getD, List.getElem?_replicate, if_pos hj]
            exact z3.symm
          obtain ⟨p1, p2, p3⟩ := fin_new hP hH hS hat z1' o1
          have key := kk (aw' ++ [(ztag t, List.replicate n (zval (ztag t)))]) H1 locs ls (wsnoc_rep hr _) p1 p2 p3 hl
          have er : rv sg b B (.inr (.inr (some (Nat.succ aw.1)))) = .ref H.size := by
            show Value.ref (B + aw.1) = _
            rw [hH]
            congr 2
            exact hr.1
          rw [← er]
          exact key
        rw [← en.2] at key
        exact key
    · cases h
  · cases h
theorem arr_cong {cA : ClassId} {n : Nat} (f g : Nat → Value) (hfg : ∀ j, j < n → f j = g j) : arrV cA n f = arrV cA n g := by
  unfold arrV
  congr 2
  funext j
  exact hfg j.1 j.2
theorem s_anew {p : Program} {l : Launch} {e : Env} {R : Room} {s : State} {m : MethodId} {args : Array Value} {below : List Frame} {meth : Method} {c : Code} {Q : State → Prop} {sg : Nat → Int32} {b B : Nat} {L : List Nat} {xs : Nat → Int32} {dC : Nat → ClassId} {dI : Nat → Nat → Nat} {cy : Nat → ClassId} {cc : ByteArray} {nL own : Nat} {ini : Bool} {ret : Option FieldType} {mc ms : Nat} {E : rE} {pc : Nat} {lv : rK} {st : List rV} {aw : rD} {cn z : Nat} {o : rO} {i : Nat} (hR : R.cells = mc ∧ R.slots = ms) (F : FF p s m args meth c cc nL own ini b B L xs dC dI cy) (hO : OT) (hE : eOK sg E) (hdg : decode cc pc = .ok (.anewarray i, 3)) (h : h_anew i tT own ret ini mc ms L E pc lv st aw cn z = some o) : Sem p l e R s m args below meth c Q sg b B cy dC dI nL cc own ret mc ms o (pc, lv, st, aw, cn, z) := by
  obtain ⟨hx, hb, hml, ho, hts, hsf, hini⟩ := F
  unfold h_anew at h
  split at h
  · next x r =>
    split at h
    · next ci hk =>
      split at h
      · next n hn =>
        cases h1 : ((Nat.beq ci 6 || Nat.beq ci 10) && (Nat.ble n 100000 && (Nat.ble (Nat.add cn 1) mc && Nat.ble (Nat.add z n) ms))) with
        | false => rw [h1] at h; cases h
        | true =>
          rw [h1, cond_true, wsnoc_k] at h
          cases h
          rw [Bool.and_eq_true, Bool.and_eq_true, Bool.and_eq_true, Bool.or_eq_true] at h1
          have g1 := Nat.le_of_ble_eq_true h1.2.1
          have g2 : cn + 1 ≤ mc := Nat.le_of_ble_eq_true h1.2.2.1
          have g3 : z + n ≤ ms := Nat.le_of_ble_eq_true h1.2.2.2
          have en := nd_ok hE hn
          obtain ⟨t, C, ht, ht13, ht19, htc, hlink, hao⟩ : ∃ (t : Nat) (C : String), (bif Nat.beq ci 6 then 17 else 18) = t ∧ 17 ≤ t ∧ t ≤ 18 ∧ tyA t = .object C ∧ (Cond.classLink (oN own) i C ∈ TG) ∧ va_AO C s := by
            rcases h1.1 with g | g
            · have g' := Nat.eq_of_beq_eq_true g
              subst g'
              obtain ⟨C, T, N, hc, hlink⟩ := (hO.2.2.1 own i 6 (kf_mem hk)).1 (by decide)
              have hc' : (RX6, TX6, 4) = (C, T, N) := Option.some.inj hc
              cases hc'
              exact ⟨17, "AyeJars$Jars", rfl, by decide, by decide, rfl, hlink, hsf.2.1.1⟩
            · have g' := Nat.eq_of_beq_eq_true g
              subst g'
              obtain ⟨C, T, N, hc, hlink⟩ := (hO.2.2.1 own i 10 (kf_mem hk)).1 (by decide)
              have hc' : (RX10, TX10, 7) = (C, T, N) := Option.some.inj hc
              cases hc'
              exact ⟨18, "AyeJars$Trial", rfl, by decide, by decide, rfl, hlink, hsf.2.1.2.1⟩
          rw [ht]
          intro kk aw' H locs ls hr hP hH hS hl
          have key : W p l e R s m args below meth c H locs cn z Q (F0 m pc ls (.int (nI n) :: r.map (rv sg b B))) := by
            refine W.anew hx hb ho (hts _ hlink) (va_AO.use hao) rfl hdg rfl (nI_pos (by omega)) (by rw [nI_clamp (by omega)]; omega) (by rw [hR.1]; exact g2) (by rw [hR.2, nI_clamp (by omega)]; exact g3) fun cA kA comp f1 f2 f3 f4 => ?_
            rw [nI_clamp (by omega)]
            generalize hH1 : H.push ({ cls := cA, slots := Array.replicate n .null, vm := .none } : Cell) = H1
            have z1 : H1.size = H.size + 1 := by rw [← hH1, Array.size_push]
            have e1 : H1[H.size]? = some (arrV cA n (fun _ => .null)) := by rw [← hH1, Array.getElem?_push_size, ← arrV_new]
            have o1 : ∀ q : Nat, q < H.size → H1[q]? = H[q]? := fun q hq => by rw [← hH1, Array.getElem?_push, if_neg (Nat.ne_of_lt hq)]
            have hcA : cA = cy t := by
              have hRA := (hsf.1.2 (t - 13) _ (tyA_at (by omega) (by omega))).2
              rw [htc] at hRA
              obtain ⟨-, -, -, -, -, h4⟩ := hRA
              exact Option.some.inj (f1.symm.trans h4)
            subst hcA
            have hat : va_at (dC, dI) vwCl (B + aw'.length, rce sg b B cy (t, List.replicate n (.inr (.inr none)))) H1 := by
              rw [rce_arr (q := (t, List.replicate n (.inr (.inr none)))) (by show 13 ≤ t; omega)]
              show H1[B + aw'.length]? = some (vp_cell _ _)
              rw [rA_cell, ← hH, e1, List.length_replicate]
              congr 1
              apply arr_cong
              intro j hj
              rw [List.getD_eq_getElem?_getD, List.getElem?_replicate, if_pos hj]
              unfold aV
              rw [if_neg (by omega), if_neg (by omega)]
              rfl
            obtain ⟨p1, p2, p3⟩ := fin_new hP hH hS hat z1 o1
            have key := kk (aw' ++ [(t, List.replicate n (.inr (.inr none)))]) H1 locs ls (wsnoc_rep hr _) p1 p2 p3 hl
            have er : rv sg b B (.inr (.inr (some (Nat.succ aw.1)))) = .ref H.size := by
              show Value.ref (B + aw.1) = _
              rw [hH]
              congr 2
              exact hr.1
            rw [← er]
            exact key
          rw [← en.2] at key
          exact key
      · cases h
    · cases h
  · cases h
end
section
/-! rules: arrays of arrays, copies, calls -/
theorem wsn_k {β : Type} (v : rC) (K : rD → β) : ∀ (n : Nat) (D : rD), wsn n v D K = K (wsn n v D (fun d => d)) := by
  intro n
  induction n with
  | zero => intro D; rfl
  | succ n ih =>
    intro D
    show wsnoc v D (fun D => wsn n v D K) = K (wsnoc v D (fun D => wsn n v D (fun d => d)))
    rw [wsnoc_k, wsnoc_k v D (fun D => wsn n v D (fun d => d))]
    exact ih _
theorem wsn_rep (v : rC) : ∀ (n : Nat) {D : rD} {aw : List rC}, rep D aw → rep (wsn n v D (fun d => d)) (aw ++ List.replicate n v) := by
  intro n
  induction n with
  | zero => intro D aw h; rw [List.replicate_zero, List.append_nil]; exact h
  | succ n ih =>
    intro D aw h
    have h1 := ih (wsnoc_rep h v)
    rw [List.append_assoc, List.singleton_append, ← List.replicate_succ] at h1
    have e : wsn (n + 1) v D (fun d => d) = wsn n v (wsnoc v D (fun d => d)) (fun d => d) := by
      show wsnoc v D (fun D => wsn n v D (fun d => d)) = _
      rw [wsnoc_k]
    rw [e]
    exact h1
theorem out_arr (c : ClassId) (N h0 : Nat) : ∀ i : Nat, Jvm.Free.Multi.outerC c N h0 i = arrV c N (fun j => va_rf (if j < i then some (h0 + 1 + j) else none))
  | 0 => by
    show ({ cls := c, slots := Array.replicate N .null, vm := .none } : Cell) = _
    rw [arrV_new]
    exact arr_cong _ _ (fun j _ => by simp [va_rf])
  | i + 1 => by
    show (Jvm.Free.Multi.outerC c N h0 i).setSlot i (.ref (h0 + 1 + i)) = _
    rw [out_arr c N h0 i, arrV_store]
    refine arr_cong _ _ (fun j _ => ?_)
    unfold updV
    by_cases e : j = i
    · subst e
      simp [va_rf]
    · by_cases h : j < i
      · simp [e, h, Nat.lt_succ_of_lt h]
      · simp [e, h, show ¬ j < i + 1 by omega]
theorem s_mnew {p : Program} {l : Launch} {e : Env} {R : Room} {s : State} {m : MethodId} {args : Array Value} {below : List Frame} {meth : Method} {c : Code} {Q : State → Prop} {sg : Nat → Int32} {b B : Nat} {L : List Nat} {xs : Nat → Int32} {dC : Nat → ClassId} {dI : Nat → Nat → Nat} {cy : Nat → ClassId} {cc : ByteArray} {nL own : Nat} {ini : Bool} {ret : Option FieldType} {mc ms : Nat} {E : rE} {pc : Nat} {lv : rK} {st : List rV} {aw : rD} {cn z : Nat} {o : rO} {i d : Nat} (hR : R.cells = mc ∧ R.slots = ms) (F : FF p s m args meth c cc nL own ini b B L xs dC dI cy) (hO : OT) (hE : eOK sg E) (hdg : decode cc pc = .ok (.multianewarray i d, 4)) (h : h_mnew i d tT own ret ini mc ms L E pc lv st aw cn z = some o) : Sem p l e R s m args below meth c Q sg b B cy dC dI nL cc own ret mc ms o (pc, lv, st, aw, cn, z) := by
  obtain ⟨hx, hb, hml, ho, hts, hsf, hini⟩ := F
  unfold h_mnew at h
  split at h
  · next y x r =>
    split at h
    · next ci hk =>
      split at h
      · next n hn =>
        split at h
        · next k hkk =>
          cases h1 : (Nat.beq d 2 && (Nat.beq ci 19 && (Nat.ble n 1000 && (Nat.ble k 1000 && (Nat.ble (Nat.add cn (Nat.add 1 n)) mc && Nat.ble (Nat.add z (Nat.add n (Nat.mul n k))) ms))))) with
          | false => rw [h1] at h; cases h
          | true =>
            rw [h1, cond_true, wsnoc_k, wsn_k] at h
            cases h
            rw [Bool.and_eq_true, Bool.and_eq_true, Bool.and_eq_true, Bool.and_eq_true, Bool.and_eq_true] at h1
            have g0 := Nat.eq_of_beq_eq_true h1.1
            have g1 := Nat.eq_of_beq_eq_true h1.2.1
            have g2 := Nat.le_of_ble_eq_true h1.2.2.1
            have g3 := Nat.le_of_ble_eq_true h1.2.2.2.1
            have g4 : cn + (1 + n) ≤ mc := Nat.le_of_ble_eq_true h1.2.2.2.2.1
            have g5 : z + (n + n * k) ≤ ms := Nat.le_of_ble_eq_true h1.2.2.2.2.2
            subst g0
            subst g1
            have en := nd_ok hE hn
            have ek := nd_ok hE hkk
            have hlink := (hO.2.2.1 own i 19 (kf_mem hk)).2 rfl
            have hint := hO.2.2.2.2.2.2.2.2.2.2.2.2.1
            intro kk aw' H locs ls hr hP hH hS hl
            have key : W p l e R s m args below meth c H locs cn z Q (F0 m pc ls (.int (nI k) :: .int (nI n) :: r.map (rv sg b B))) := by
              intro T hT Xs
              have cn31 : (nI n).toNatClampNeg = n := nI_clamp (by omega)
              have ck31 : (nI k).toNatClampNeg = k := nI_clamp (by omega)
              obtain ⟨vm₁, cA, comp, -, fA, fC, -, -, X', step⟩ := Xs.multianewarray2F hx (ty := .int) ho (hts _ hlink) (show (Cond.arrayOver (.array .int)).before args s = true from hsf.2.1.2.2) (hts _ hint) (g := F0 m pc ls (.int (nI k) :: .int (nI n) :: r.map (rv sg b B))) rfl (by rw [hb]; exact hdg) rfl (nI_pos (by omega)) (nI_pos (by omega)) (by rw [cn31]; omega) (by rw [ck31]; show k * 4 ≤ _; omega) (by rw [ck31]; omega) rfl rfl (by rw [cn31, hR.1]; exact g4) (by rw [cn31, ck31, hR.2]; exact g5)
              rw [cn31, ck31] at X' step
              have hcA : cA = cy 19 := Option.some.inj (fA.symm.trans (hsf.1.2 6 _ rfl).2)
              have hcomp : comp = cy 14 := Option.some.inj (fC.symm.trans (hsf.1.2 1 _ rfl).2)
              subst hcA
              subst hcomp
              have hTh : (T.setVm vm₁).heap = H := hT
              obtain ⟨f1, f2, -, -⟩ := Jvm.Free.Multi.fill_facts (T.setVm vm₁) (cy 19) (cy 14) n k (defaultValue .int) n
              have hold : ∀ a : Nat, a < H.size → (Jvm.Free.Multi.fill (T.setVm vm₁) (cy 19) (cy 14) n k (defaultValue .int) n).heap[a]? = H[a]? := fun a ha => by
                have := Jvm.Free.Multi.fill_old (T.setVm vm₁) (cy 19) (cy 14) n k (defaultValue .int) (a := a) (by rw [hTh]; exact ha) n
                rw [hTh] at this
                exact this
              have hinn : ∀ j : Nat, j < n → (Jvm.Free.Multi.fill (T.setVm vm₁) (cy 19) (cy 14) n k (defaultValue .int) n).heap[H.size + 1 + j]? = some (arrV (cy 14) k (fun _ => .int 0)) := fun j hj => by
                have := Jvm.Free.Multi.fill_inner (T.setVm vm₁) (cy 19) (cy 14) n k (defaultValue .int) n j hj
                rw [hTh] at this
                rw [this]
                exact congrArg some (arrV_new (cy 14) k (.int 0))
              rw [hTh] at f1 f2
              rw [out_arr] at f2
              generalize (Jvm.Free.Multi.fill (T.setVm vm₁) (cy 19) (cy 14) n k (defaultValue .int) n) = F at X' step f1 f2 hold hinn
              have hawl : aw.1 = aw'.length := hr.1
              have hP1 : va_P (dC, dI) vwCl (rW sg b B cy ((aw' ++ [(19, (List.range n).map (fun j => .inr (.inr (some (Nat.add aw.1 (Nat.add 2 j))))))]) ++ List.replicate n (14, List.replicate k (.inl 0)))) F.heap := by
                intro i' q hq
                rw [rW_at] at hq
                cases hc : ((aw' ++ [(19, (List.range n).map (fun j => .inr (.inr (some (Nat.add aw.1 (Nat.add 2 j))))))]) ++ List.replicate n (14, List.replicate k (.inl 0)))[i']? with
                | none => rw [hc] at hq; cases hq
                | some cl =>
                  rw [hc] at hq
                  cases hq
                  rcases Nat.lt_trichotomy i' aw'.length with q1 | q1 | q1
                  · rw [List.append_assoc, List.getElem?_append_left q1] at hc
                    have hat := hP i' _ (rW_get hc)
                    exact hat.kept (hold _ (by show B + i' < H.size; omega))
                  · subst q1
                    rw [List.append_assoc, List.getElem?_append_right (Nat.le_refl _), Nat.sub_self] at hc
                    cases hc
                    show va_at (dC, dI) vwCl (B + aw'.length, rce sg b B cy (19, (List.range n).map (fun j => .inr (.inr (some (Nat.add aw.1 (Nat.add 2 j))))))) F.heap
                    rw [rce_arr (q := (19, (List.range n).map (fun j => .inr (.inr (some (Nat.add aw.1 (Nat.add 2 j))))))) (show 13 ≤ 19 by decide)]
                    show F.heap[B + aw'.length]? = some (vp_cell _ _)
                    rw [rA_cell, ← hH, f2, List.length_map, List.length_range]
                    congr 1
                    refine arr_cong _ _ (fun j hj => ?_)
                    rw [if_pos hj, List.getD_eq_getElem?_getD, List.getElem?_map, List.getElem?_range hj]
                    show va_rf (some (H.size + 1 + j)) = va_rf (some (ra b B (Nat.add aw.1 (Nat.add 2 j))))
                    rw [show Nat.add aw.1 (Nat.add 2 j) = (aw.1 + 1 + j) + 1 by show aw.1 + (2 + j) = _; omega]
                    show va_rf (some (H.size + 1 + j)) = va_rf (some (B + (aw.1 + 1 + j)))
                    rw [hH, hawl]
                    congr 2
                    omega
                  · rw [List.append_assoc, List.getElem?_append_right (by omega), List.singleton_append] at hc
                    obtain ⟨j, hj⟩ : ∃ j, i' = aw'.length + 1 + j := ⟨i' - aw'.length - 1, by omega⟩
                    subst hj
                    rw [show aw'.length + 1 + j - aw'.length = j + 1 by omega, List.getElem?_cons_succ, List.getElem?_replicate] at hc
                    by_cases hjn : j < n
                    · rw [if_pos hjn] at hc
                      cases hc
                      show va_at (dC, dI) vwCl (B + (aw'.length + 1 + j), rce sg b B cy (14, List.replicate k (.inl 0))) F.heap
                      rw [rce_arr (q := (14, List.replicate k (.inl 0))) (show 13 ≤ 14 by decide)]
                      show F.heap[B + (aw'.length + 1 + j)]? = some (vp_cell _ _)
                      rw [rA_cell, show B + (aw'.length + 1 + j) = H.size + 1 + j by omega, hinn j hjn, List.length_replicate]
                      congr 1
                      refine arr_cong _ _ (fun a ha => ?_)
                      rw [List.getD_eq_getElem?_getD, List.getElem?_replicate, if_pos ha]
                      rfl
                    · rw [if_neg hjn] at hc
                      cases hc
              have hsz : F.heap.size = B + ((aw' ++ [(19, (List.range n).map (fun j => .inr (.inr (some (Nat.add aw.1 (Nat.add 2 j))))))]) ++ List.replicate n (14, List.replicate k (.inl 0)) : List rC).length := by
                rw [List.length_append, List.length_append, List.length_replicate, f1, hH]
                show B + aw'.length + 1 + n = B + (aw'.length + 1 + n)
                omega
              obtain ⟨t, a1, b1⟩ := kk _ F.heap locs ls (wsn_rep _ n (wsnoc_rep hr _)) hP1 hsz ⟨Nat.le_trans hS.1 (by rw [f1]; omega), fun q g1 g2 => (hold q (Nat.lt_of_lt_of_le g1 hS.1)).trans (hS.2.1 q g1 g2), hS.2.2⟩ hl F rfl X'
              refine ⟨t, step t ?_, b1⟩
              have er : rv sg b B (.inr (.inr (some (Nat.succ aw.1)))) = .ref T.heap.size := by
                show Value.ref (B + aw.1) = _
                rw [hT, hH, hawl]
              rw [← er]
              exact a1
            rw [← en.2, ← ek.2] at key
            exact key
        · cases h
      · cases h
    · cases h
  · cases h
theorem acopy_inv {E : rE} {pc : Nat} {lv : rK} {st : List rV} {aw : rD} {cn z : Nat} {o : rO} (h : acopy E pc lv st aw cn z = some o) : ∃ (n dp sp n' : Nat) (k j : Nat) (r : List rV) (q w : rC), st = .inl n :: .inl dp :: .inr (.inr (some (k + 1))) :: .inl sp :: .inr (.inr (some (j + 1))) :: r ∧ nd E n = some n' ∧ nd E dp = some 0 ∧ nd E sp = some 0 ∧ wget aw k = some q ∧ wget aw j = some w ∧ q.1 = 14 ∧ w.1 = 14 ∧ n' = q.2.length ∧ n' = w.2.length ∧ n' ≤ 2147483647 ∧ csum r ≤ 8 ∧ o = .inl (Nat.add pc 3, lv, r, wset (14, w.2) aw k (fun d => d), cn, z) := by
  unfold acopy at h
  split at h
  · next n dp k sp j r =>
    split at h
    · next n' hn =>
      split at h
      · next dp' hdp =>
        split at h
        · next sp' hsp =>
          split at h
          · next q hq =>
            split at h
            · next w hw =>
              cases h1 : (Nat.beq q.1 14 && Nat.beq w.1 14 && Nat.beq sp' 0 && Nat.beq dp' 0 && Nat.beq n' q.2.length && Nat.beq n' w.2.length && Nat.ble n' 2147483647 && Nat.ble (csum r) 8) with
              | false => rw [h1] at h; cases h
              | true =>
                rw [h1, cond_true, wset_k] at h
                cases h
                simp only [Bool.and_eq_true] at h1
                obtain ⟨⟨⟨⟨⟨⟨⟨a1, a2⟩, a3⟩, a4⟩, a5⟩, a6⟩, a7⟩, a8⟩ := h1
                have a3 := Nat.eq_of_beq_eq_true a3
                have a4 := Nat.eq_of_beq_eq_true a4
                subst a3
                subst a4
                exact ⟨n, dp, sp, n', k, j, r, q, w, rfl, hn, hdp, hsp, hq, hw, Nat.eq_of_beq_eq_true a1, Nat.eq_of_beq_eq_true a2, Nat.eq_of_beq_eq_true a5, Nat.eq_of_beq_eq_true a6, Nat.le_of_ble_eq_true a7, Nat.le_of_ble_eq_true a8, rfl⟩
            · cases h
          · cases h
        · cases h
      · cases h
    · cases h
  · cases h
theorem csum_eq {sg : Nat → Int32} {b B : Nat} (r : List rV) : ((r.map (rv sg b B)).map fun v => v.category).sum = csum r := by
  unfold csum
  rw [List.map_map]
  congr 1
  apply List.map_congr_left
  intro v _
  exact ct_eq v
theorem nn0 {n : Nat} (h : n ≤ 2147483647) : (nI n).toInt = (n : Int) := nI_toInt (by omega)
theorem s_acopy {p : Program} {l : Launch} {e : Env} {R : Room} {s : State} {m : MethodId} {args : Array Value} {below : List Frame} {meth : Method} {c : Code} {Q : State → Prop} {sg : Nat → Int32} {b B : Nat} {L : List Nat} {xs : Nat → Int32} {dC : Nat → ClassId} {dI : Nat → Nat → Nat} {cy : Nat → ClassId} {cc : ByteArray} {nL own : Nat} {ini : Bool} {ret : Option FieldType} {mc ms : Nat} {E : rE} {pc : Nat} {lv : rK} {st : List rV} {aw : rD} {cn z : Nat} {o : rO} {i : Nat} (hF : 1 ≤ R.frames ∧ 8 + (nativeFrameWords "java/lang/System" "arraycopy" 5 + 11) ≤ R.locals) (F : FF p s m args meth c cc nL own ini b B L xs dC dI cy) (hO : OT) (hE : eOK sg E) (hlink : Cond.methodLink (oN own) i arraycopyName ∈ TG) (hdg : decode cc pc = .ok (.invokestatic i, 3)) (h : acopy E pc lv st aw cn z = some o) : Sem p l e R s m args below meth c Q sg b B cy dC dI nL cc own ret mc ms o (pc, lv, st, aw, cn, z) := by
  obtain ⟨hx, hb, hml, ho, hts, hsf, hini⟩ := F
  obtain ⟨n, dp, sp, n', k, j, r, q, w, rfl, hn, hdp, hsp, hq, hw, q14, w14, hq', hw', hn31, hc8, rfl⟩ := acopy_inv h
  have en := (nd_ok hE hn).2
  have ed : ri sg dp = nI 0 := (nd_ok hE hdp).2
  have es : ri sg sp = nI 0 := (nd_ok hE hsp).2
  obtain ⟨-, -, -, -, -, -, -, -, w1, w2, w3, -⟩ := hO
  intro kk aw' H locs ls hr hP hH hS hl
  have hqa := rep_get hr hq
  have hwa := rep_get hr hw
  have hc1 := at_arr hP hqa (by omega)
  have hc0 := at_arr hP hwa (by omega)
  rw [q14] at hc1
  rw [w14] at hc0
  have key : W p l e R s m args below meth c H locs cn z Q (F0 m pc ls (.int (nI n') :: .int (nI 0) :: .ref (B + k) :: .int (nI 0) :: .ref (B + j) :: r.map (rv sg b B))) := by
    intro T hT X
    obtain ⟨-, k0, hk0, cm0, hkk0⟩ := isA hsf.1 (t := 14) (by decide) (by decide) w.2.length (fun a => aV sg b B 14 (w.2.getD a rd))
    obtain ⟨-, k1, hk1, cm1, hkk1⟩ := isA hsf.1 (t := 14) (by decide) (by decide) q.2.length (fun a => aV sg b B 14 (q.2.getD a rd))
    have z0 : (nI 0).toNatClampNeg = 0 := nI_clamp (by decide)
    have cn31 : (nI n').toNatClampNeg = n' := nI_clamp (by omega)
    obtain ⟨vm', X', step⟩ := X.arraycopy hx ho (hts _ hlink) (hts _ w1) (hts _ w2) (hts _ w3) (src := B + j) (dst := B + k) (srcPos := nI 0) (destPos := nI 0) (n := nI n') (by rw [hT]; exact hc0) (by rw [hT]; exact hc1)
      (fun _ h => by cases h) (fun _ h => by cases h) (fun h => by cases h) (fun h => by cases h) hk0 hk1 hkk0 hkk1 (by simp [tyA, refKind]) (nI_pos (by decide)) (nI_pos (by decide)) (nI_pos (by omega))
      (by rw [nn0 (by decide), nn0 hn31, arrV_size]; omega)
      (by rw [nn0 (by decide), nn0 hn31, arrV_size]; omega)
      (fun vm₁ _ a ha => by
        rw [cn31] at ha
        have e : (arrV (cy 14) w.2.length (fun a => aV sg b B 14 (w.2.getD a rd))).slots.getD ((nI 0).toNatClampNeg + a) .null = .int (rI sg (w.2.getD a rd)) := by
          rw [z0, Nat.zero_add, Array.getD_eq_getD_getElem?, arrV_read _ _ (by omega)]
          rfl
        refine ⟨?_, ?_⟩
        · rw [e]
          rfl
        · rw [e]
          exact trivial)
      (g := F0 m pc ls (.int (nI n') :: .int (nI 0) :: .ref (B + k) :: .int (nI 0) :: .ref (B + j) :: r.map (rv sg b B))) rfl (by rw [hml]; exact hl.1) (rest := r.map (rv sg b B)) rfl (by rw [hb]; exact hdg) hF.1 (by rw [csum_eq]; show 2 * 0 + _ + _ ≤ _; have := hF.2; omega)
    have hcell : copied (arrV (cy 14) w.2.length (fun a => aV sg b B 14 (w.2.getD a rd))) (arrV (cy 14) q.2.length (fun a => aV sg b B 14 (q.2.getD a rd))) (nI 0) (nI 0) (nI n') = arrV (cy 14) w.2.length (fun a => aV sg b B 14 (w.2.getD a rd)) := by
      have e1 := va_copied (fun z => Value.int z) (cy 14) (cy 14) (fun a => rI sg (w.2.getD a rd)) (fun a => rI sg (q.2.getD a rd)) (n0 := w.2.length) (n1 := q.2.length) (sp := 0) (dp := 0) (n := n') (by omega)
      show (arrV (cy 14) q.2.length (fun a => aV sg b B 14 (q.2.getD a rd))).storeRun (nI 0).toNatClampNeg ((arrV (cy 14) w.2.length (fun a => aV sg b B 14 (w.2.getD a rd))).stretch (nI 0).toNatClampNeg (nI n').toNatClampNeg) = _
      rw [z0, cn31]
      refine Eq.trans e1 ?_
      rw [show q.2.length = w.2.length by omega]
      refine arr_cong _ _ (fun a ha => ?_)
      show Value.int (va_cpy _ _ 0 0 n' a) = Value.int _
      unfold va_cpy
      rw [if_pos ⟨Nat.zero_le _, by omega⟩]
      simp
    rw [hcell] at X' step
    have hlB : B + k < H.size := (Array.getElem?_eq_some_iff.mp hc1).1
    have hheap : ((T.setVm vm').setCell (B + k) (arrV (cy 14) w.2.length (fun a => aV sg b B 14 (w.2.getD a rd)))).heap = H.setIfInBounds (B + k) (arrV (cy 14) w.2.length (fun a => aV sg b B 14 (w.2.getD a rd))) := by rw [← hT]; rfl
    have oq : ∀ a : Nat, a ≠ B + k → (H.setIfInBounds (B + k) (arrV (cy 14) w.2.length (fun a => aV sg b B 14 (w.2.getD a rd))))[a]? = H[a]? := fun a ha => by simp [Array.getElem?_setIfInBounds, Ne.symm ha]
    obtain ⟨p1, p2, p3⟩ := fin_st (i := 0) (q' := (14, w.2)) (H1 := H.setIfInBounds (B + k) (arrV (cy 14) w.2.length (fun a => aV sg b B 14 (w.2.getD a rd)))) hP hH hS hqa (by
      rw [rce_arr (q := (14, w.2)) (show 13 ≤ 14 by decide)]
      show (H.setIfInBounds (B + k) _)[B + k]? = some (vp_cell _ _)
      rw [rA_cell]
      simp [Array.getElem?_setIfInBounds, hlB]) (by simp) oq
    have hk := fun hS' => kk (aw'.set k (14, w.2)) _ _ ls (wset_rep hr hqa _) p1 p2 hS' hl _ hheap X'
    obtain ⟨t, a1, b1⟩ := hk ⟨p3.1, p3.2.1, fun a ha => by
      rcases List.mem_append.mp ha with h | h
      · exact hS.2.2 a h
      · obtain ⟨z, -, hz⟩ := List.mem_map.mp h
        rw [← hz]
        exact Nat.le_add_right B k⟩
    exact ⟨t, step t a1, b1⟩
  have e1 : Value.int (ri sg n) = .int (nI n') := by rw [en]
  show W p l e R s m args below meth c H locs cn z Q (F0 m pc ls (.int (ri sg n) :: .int (ri sg dp) :: .ref (B + k) :: .int (ri sg sp) :: .ref (B + j) :: r.map (rv sg b B)))
  rw [en, ed, es]
  exact key
theorem cut_ok : ∀ (n : Nat) (st acc As r : List rV), cut n st acc = some (As, r) → ∃ t : List rV, t.length = n ∧ st = t ++ r ∧ As = t.reverse ++ acc := by
  intro n
  induction n with
  | zero =>
    intro st acc As r h
    cases h
    exact ⟨[], rfl, rfl, rfl⟩
  | succ n ih =>
    intro st acc As r h
    cases st with
    | nil => cases h
    | cons v t =>
      obtain ⟨u, h1, h2, h3⟩ := ih t (v :: acc) As r h
      refine ⟨v :: u, by rw [List.length_cons, h1], by rw [h2]; rfl, ?_⟩
      rw [h3, List.reverse_cons, List.append_assoc]
      rfl
theorem cut_ok0 {n : Nat} {st As r : List rV} (h : cut n st [] = some (As, r)) : As.length = n ∧ st = As.reverse ++ r := by
  obtain ⟨t, h1, h2, h3⟩ := cut_ok n st [] As r h
  rw [List.append_nil] at h3
  subst h3
  exact ⟨by rw [List.length_reverse]; exact h1, by rw [List.reverse_reverse]; exact h2⟩
theorem s_call {p : Program} {l : Launch} {e : Env} {R : Room} {s : State} {m : MethodId} {args : Array Value} {below : List Frame} {meth : Method} {c : Code} {Q : State → Prop} {sg : Nat → Int32} {b B : Nat} {L : List Nat} {xs : Nat → Int32} {dC : Nat → ClassId} {dI : Nat → Nat → Nat} {cy : Nat → ClassId} {cc : ByteArray} {nL own : Nat} {ini : Bool} {ret : Option FieldType} {mc ms : Nat} {E : rE} {pc : Nat} {lv : rK} {st : List rV} {aw : rD} {cn z : Nat} {o : rO} {i kind : Nat} (hF : 1 ≤ R.frames ∧ 8 + (nativeFrameWords "java/lang/System" "arraycopy" 5 + 11) ≤ R.locals ∧ 20 ≤ R.locals) (F : FF p s m args meth c cc nL own ini b B L xs dC dI cy) (hO : OT) (hE : eOK sg E) (hd0 : kind = 0 → decode cc pc = .ok (.invokevirtual i, 3)) (hd1 : kind = 1 → decode cc pc = .ok (.invokestatic i, 3)) (hd2 : kind = 2 → decode cc pc = .ok (.invokespecial i, 3)) (h : h_call i kind tT own ret ini mc ms L E pc lv st aw cn z = some o) : Sem p l e R s m args below meth c Q sg b B cy dC dI nL cc own ret mc ms o (pc, lv, st, aw, cn, z) := by
  unfold h_call acall at h
  split at h
  · next k mi np rc hk =>
    split at h
    · -- virtual
      cases hb : Nat.beq kind 0 with
      | false => rw [hb] at h; cases h
      | true =>
        rw [hb, cond_true] at h
        split at h
        · next As j r hcut =>
          split at h
          · next q hq =>
            cases hc : Nat.beq q.1 rc with
            | false => rw [hc] at h; cases h
            | true =>
              rw [hc, cond_true] at h
              cases h8 : Nat.ble (csum r) 8 with
              | false => rw [h8] at h; cases h
              | true =>
                rw [h8, cond_true] at h
                cases h
                obtain ⟨c1, c2⟩ := cut_ok0 hcut
                exact ⟨Nat.le_of_ble_eq_true h8, i, 0, np, rc, hk, Or.inl ⟨rfl, j, q, As, rfl, c2, c1, hq, Nat.eq_of_beq_eq_true hc, hd0 (Nat.eq_of_beq_eq_true hb)⟩⟩
          · cases h
        · cases h
    · -- static
      cases hb : Nat.beq kind 1 with
      | false => rw [hb] at h; cases h
      | true =>
        rw [hb, cond_true] at h
        split at h
        · next As r hcut =>
          cases h8 : Nat.ble (csum r) 8 with
          | false => rw [h8] at h; cases h
          | true =>
            rw [h8, cond_true] at h
            cases h
            obtain ⟨c1, c2⟩ := cut_ok0 hcut
            exact ⟨Nat.le_of_ble_eq_true h8, i, 1, np, rc, hk, Or.inr (Or.inl ⟨rfl, c2, c1, hd1 (Nat.eq_of_beq_eq_true hb)⟩)⟩
        · cases h
    · -- Object's
      cases hb : Nat.beq kind 2 with
      | false => rw [hb] at h; cases h
      | true =>
        rw [hb, cond_true] at h
        split at h
        · next a r =>
          cases h8 : Nat.ble (csum r) 8 with
          | false => rw [h8] at h; cases h
          | true =>
            rw [h8, cond_true] at h
            cases h
            have g8 := Nat.le_of_ble_eq_true h8
            obtain ⟨hx, hb0, hml, ho, hts, hsf, hini⟩ := F
            have hl4 := hO.2.2.2.2.1 own i mi np rc (kf_mem hk)
            obtain ⟨-, -, -, -, -, -, o1, o2, -⟩ := hO
            intro kk aw' H locs ls hr hP hH hS hl
            refine W.objInit (a := ra b B a) (rest := r.map (rv sg b B)) hx hb0 ho (hts _ hl4) (hts _ o1) (hts _ o2) rfl (by rw [hml]; exact hl.1) rfl (hd2 (Nat.eq_of_beq_eq_true hb)) hF.1 (by rw [csum_eq]; show 2 * 0 + _ + _ ≤ _; have := hF.2.2; omega) ?_
            exact kk aw' H locs ls hr hP hH hS hl
        · cases h
    · -- a copy
      cases hb : Nat.beq kind 1 with
      | false => rw [hb] at h; cases h
      | true =>
        rw [hb, cond_true] at h
        exact s_acopy ⟨hF.1, hF.2.1⟩ F hO hE (hO.2.2.2.2.2.1 own i mi np rc (kf_mem hk)) (hd1 (Nat.eq_of_beq_eq_true hb)) h
    · -- a constructor
      next k0 k1 k4 k5 =>
      cases hb : Nat.beq kind 2 with
      | false => rw [hb] at h; cases h
      | true =>
        rw [hb, cond_true] at h
        split at h
        · next As j r hcut =>
          cases h8 : Nat.ble (csum r) 8 with
          | false => rw [h8] at h; cases h
          | true =>
            rw [h8, cond_true] at h
            cases h
            obtain ⟨c1, c2⟩ := cut_ok0 hcut
            exact ⟨Nat.le_of_ble_eq_true h8, i, k, np, rc, hk, Or.inr (Or.inr ⟨k0, k1, k4, k5, j, As, rfl, c2, c1, hd2 (Nat.eq_of_beq_eq_true hb)⟩)⟩
        · cases h
  · cases h
end
