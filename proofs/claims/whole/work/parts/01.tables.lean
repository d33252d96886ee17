-- ===== PART A: goes FIRST, ahead of the names: the tables' words, and 'selects' of the private methods out of them =====
/-- a private method of a class that the tables say can be made, by its rows of tables_1 -/
def lw_okq (q : MethodName × Nat) : Prop := (q.1.cls ≠ "java/lang/invoke/MethodHandle" ∧ q.1.cls ≠ "java/lang/invoke/VarHandle") ∧ Cond.instantiable q.1.cls q.2 ∈ tables_1 ∧ Cond.privateMethod q.1 ∈ tables_1 ∧ Cond.instanceMethod q.1 ∈ tables_1
theorem lw_p0 : lw_okq (⟨"CoinsWarden", "refuse", "(I)I"⟩, 17) := ⟨⟨by decide +kernel, by decide +kernel⟩, List.mem_of_getElem? (i := 23) (by decide +kernel), List.mem_of_getElem? (i := 489) (by decide +kernel), List.mem_of_getElem? (i := 490) (by decide +kernel)⟩
theorem lw_p1 : lw_okq (⟨"CoinsWarden", "allow", "(I)I"⟩, 17) := ⟨⟨by decide +kernel, by decide +kernel⟩, List.mem_of_getElem? (i := 23) (by decide +kernel), List.mem_of_getElem? (i := 497) (by decide +kernel), List.mem_of_getElem? (i := 498) (by decide +kernel)⟩
theorem lw_p2 : lw_okq (⟨"CoinsWarden", "carFromTape", "(I)Z"⟩, 17) := ⟨⟨by decide +kernel, by decide +kernel⟩, List.mem_of_getElem? (i := 23) (by decide +kernel), List.mem_of_getElem? (i := 541) (by decide +kernel), List.mem_of_getElem? (i := 542) (by decide +kernel)⟩
theorem lw_p3 : lw_okq (⟨"CoinsWarden", "readText", "([LCoinsWarden$Text;IZ)I"⟩, 17) := ⟨⟨by decide +kernel, by decide +kernel⟩, List.mem_of_getElem? (i := 23) (by decide +kernel), List.mem_of_getElem? (i := 553) (by decide +kernel), List.mem_of_getElem? (i := 554) (by decide +kernel)⟩
theorem lw_p4 : lw_okq (⟨"CoinsWarden$Reading", "readClause", "(I)Z"⟩, 13) := ⟨⟨by decide +kernel, by decide +kernel⟩, List.mem_of_getElem? (i := 142) (by decide +kernel), List.mem_of_getElem? (i := 576) (by decide +kernel), List.mem_of_getElem? (i := 577) (by decide +kernel)⟩
theorem lw_p5 : lw_okq (⟨"CoinsWarden$Tape", "isPartOf", "(Ljava/lang/String;II)Z"⟩, 6) := ⟨⟨by decide +kernel, by decide +kernel⟩, List.mem_of_getElem? (i := 111) (by decide +kernel), List.mem_of_getElem? (i := 634) (by decide +kernel), List.mem_of_getElem? (i := 635) (by decide +kernel)⟩
theorem lw_p6 : lw_okq (⟨"CoinsWarden$Reading", "wrong", "()Z"⟩, 13) := ⟨⟨by decide +kernel, by decide +kernel⟩, List.mem_of_getElem? (i := 142) (by decide +kernel), List.mem_of_getElem? (i := 638) (by decide +kernel), List.mem_of_getElem? (i := 639) (by decide +kernel)⟩
theorem lw_p7 : lw_okq (⟨"CoinsWarden$Reading", "readSum", "()Z"⟩, 13) := ⟨⟨by decide +kernel, by decide +kernel⟩, List.mem_of_getElem? (i := 142) (by decide +kernel), List.mem_of_getElem? (i := 643) (by decide +kernel), List.mem_of_getElem? (i := 644) (by decide +kernel)⟩
theorem lw_p8 : lw_okq (⟨"CoinsWarden$Reading", "readTerm", "()Z"⟩, 13) := ⟨⟨by decide +kernel, by decide +kernel⟩, List.mem_of_getElem? (i := 142) (by decide +kernel), List.mem_of_getElem? (i := 647) (by decide +kernel), List.mem_of_getElem? (i := 648) (by decide +kernel)⟩
theorem lw_p9 : lw_okq (⟨"CoinsWarden$Reading", "readPart", "()Z"⟩, 13) := ⟨⟨by decide +kernel, by decide +kernel⟩, List.mem_of_getElem? (i := 142) (by decide +kernel), List.mem_of_getElem? (i := 651) (by decide +kernel), List.mem_of_getElem? (i := 652) (by decide +kernel)⟩
theorem lw_p10 : lw_okq (⟨"CoinsWarden$Reading", "readBracketed", "(II)Z"⟩, 13) := ⟨⟨by decide +kernel, by decide +kernel⟩, List.mem_of_getElem? (i := 142) (by decide +kernel), List.mem_of_getElem? (i := 659) (by decide +kernel), List.mem_of_getElem? (i := 660) (by decide +kernel)⟩
theorem lw_p11 : lw_okq (⟨"CoinsWarden$Reading", "readTest", "()Z"⟩, 13) := ⟨⟨by decide +kernel, by decide +kernel⟩, List.mem_of_getElem? (i := 142) (by decide +kernel), List.mem_of_getElem? (i := 663) (by decide +kernel), List.mem_of_getElem? (i := 664) (by decide +kernel)⟩
theorem lw_p12 : lw_okq (⟨"CoinsWarden$Reading", "readBoth", "()Z"⟩, 13) := ⟨⟨by decide +kernel, by decide +kernel⟩, List.mem_of_getElem? (i := 142) (by decide +kernel), List.mem_of_getElem? (i := 667) (by decide +kernel), List.mem_of_getElem? (i := 668) (by decide +kernel)⟩
theorem lw_p13 : lw_okq (⟨"CoinsWarden$Reading", "readPlain", "()Z"⟩, 13) := ⟨⟨by decide +kernel, by decide +kernel⟩, List.mem_of_getElem? (i := 142) (by decide +kernel), List.mem_of_getElem? (i := 671) (by decide +kernel), List.mem_of_getElem? (i := 672) (by decide +kernel)⟩
theorem lw_p14 : lw_okq (⟨"CoinsWarden$Reading", "readComparison", "()Z"⟩, 13) := ⟨⟨by decide +kernel, by decide +kernel⟩, List.mem_of_getElem? (i := 142) (by decide +kernel), List.mem_of_getElem? (i := 681) (by decide +kernel), List.mem_of_getElem? (i := 682) (by decide +kernel)⟩
theorem lw_p15 : lw_okq (⟨"CoinsWarden$Reading", "signAmong", "(III)I"⟩, 13) := ⟨⟨by decide +kernel, by decide +kernel⟩, List.mem_of_getElem? (i := 142) (by decide +kernel), List.mem_of_getElem? (i := 685) (by decide +kernel), List.mem_of_getElem? (i := 686) (by decide +kernel)⟩
def lw_privs_1 : List (MethodName × Nat) := [(⟨"CoinsWarden", "refuse", "(I)I"⟩, 17), (⟨"CoinsWarden", "allow", "(I)I"⟩, 17), (⟨"CoinsWarden", "carFromTape", "(I)Z"⟩, 17), (⟨"CoinsWarden", "readText", "([LCoinsWarden$Text;IZ)I"⟩, 17), (⟨"CoinsWarden$Reading", "readClause", "(I)Z"⟩, 13), (⟨"CoinsWarden$Tape", "isPartOf", "(Ljava/lang/String;II)Z"⟩, 6), (⟨"CoinsWarden$Reading", "wrong", "()Z"⟩, 13), (⟨"CoinsWarden$Reading", "readSum", "()Z"⟩, 13), (⟨"CoinsWarden$Reading", "readTerm", "()Z"⟩, 13), (⟨"CoinsWarden$Reading", "readPart", "()Z"⟩, 13), (⟨"CoinsWarden$Reading", "readBracketed", "(II)Z"⟩, 13), (⟨"CoinsWarden$Reading", "readTest", "()Z"⟩, 13), (⟨"CoinsWarden$Reading", "readBoth", "()Z"⟩, 13), (⟨"CoinsWarden$Reading", "readPlain", "()Z"⟩, 13), (⟨"CoinsWarden$Reading", "readComparison", "()Z"⟩, 13), (⟨"CoinsWarden$Reading", "signAmong", "(III)I"⟩, 13)]
theorem lw_r1 : ∀ q ∈ lw_privs_1, lw_okq q := List.forall_mem_cons.mpr ⟨lw_p0, List.forall_mem_cons.mpr ⟨lw_p1, List.forall_mem_cons.mpr ⟨lw_p2, List.forall_mem_cons.mpr ⟨lw_p3, List.forall_mem_cons.mpr ⟨lw_p4, List.forall_mem_cons.mpr ⟨lw_p5, List.forall_mem_cons.mpr ⟨lw_p6, List.forall_mem_cons.mpr ⟨lw_p7, List.forall_mem_cons.mpr ⟨lw_p8, List.forall_mem_cons.mpr ⟨lw_p9, List.forall_mem_cons.mpr ⟨lw_p10, List.forall_mem_cons.mpr ⟨lw_p11, List.forall_mem_cons.mpr ⟨lw_p12, List.forall_mem_cons.mpr ⟨lw_p13, List.forall_mem_cons.mpr ⟨lw_p14, List.forall_mem_cons.mpr ⟨lw_p15, fun _ h => absurd h List.not_mem_nil⟩⟩⟩⟩⟩⟩⟩⟩⟩⟩⟩⟩⟩⟩⟩⟩
theorem lw_p16 : lw_okq (⟨"CoinsWarden$Reading", "add", "(II)I"⟩, 13) := ⟨⟨by decide +kernel, by decide +kernel⟩, List.mem_of_getElem? (i := 142) (by decide +kernel), List.mem_of_getElem? (i := 689) (by decide +kernel), List.mem_of_getElem? (i := 690) (by decide +kernel)⟩
theorem lw_p17 : lw_okq (⟨"CoinsWarden$Warden", "putWords", "(IIII)V"⟩, 5) := ⟨⟨by decide +kernel, by decide +kernel⟩, List.mem_of_getElem? (i := 197) (by decide +kernel), List.mem_of_getElem? (i := 779) (by decide +kernel), List.mem_of_getElem? (i := 780) (by decide +kernel)⟩
theorem lw_p18 : lw_okq (⟨"CoinsWarden$Reckoner", "reckon", "(LCoinsWarden$Text;II)J"⟩, 5) := ⟨⟨by decide +kernel, by decide +kernel⟩, List.mem_of_getElem? (i := 203) (by decide +kernel), List.mem_of_getElem? (i := 787) (by decide +kernel), List.mem_of_getElem? (i := 788) (by decide +kernel)⟩
theorem lw_p19 : lw_okq (⟨"CoinsWarden$Reckoner", "push", "(II)V"⟩, 5) := ⟨⟨by decide +kernel, by decide +kernel⟩, List.mem_of_getElem? (i := 203) (by decide +kernel), List.mem_of_getElem? (i := 791) (by decide +kernel), List.mem_of_getElem? (i := 792) (by decide +kernel)⟩
theorem lw_p20 : lw_okq (⟨"CoinsWarden$Reckoner", "join", "(I)V"⟩, 5) := ⟨⟨by decide +kernel, by decide +kernel⟩, List.mem_of_getElem? (i := 203) (by decide +kernel), List.mem_of_getElem? (i := 795) (by decide +kernel), List.mem_of_getElem? (i := 796) (by decide +kernel)⟩
theorem lw_p21 : lw_okq (⟨"CoinsWarden", "lookAt", "(I)V"⟩, 17) := ⟨⟨by decide +kernel, by decide +kernel⟩, List.mem_of_getElem? (i := 23) (by decide +kernel), List.mem_of_getElem? (i := 855) (by decide +kernel), List.mem_of_getElem? (i := 856) (by decide +kernel)⟩
theorem lw_p22 : lw_okq (⟨"CoinsWarden", "lookFromSlotZero", "()V"⟩, 17) := ⟨⟨by decide +kernel, by decide +kernel⟩, List.mem_of_getElem? (i := 23) (by decide +kernel), List.mem_of_getElem? (i := 859) (by decide +kernel), List.mem_of_getElem? (i := 860) (by decide +kernel)⟩
theorem lw_p23 : lw_okq (⟨"CoinsWarden$Plans", "reckonBehind", "(I)V"⟩, 8) := ⟨⟨by decide +kernel, by decide +kernel⟩, List.mem_of_getElem? (i := 331) (by decide +kernel), List.mem_of_getElem? (i := 908) (by decide +kernel), List.mem_of_getElem? (i := 909) (by decide +kernel)⟩
theorem lw_p24 : lw_okq (⟨"CoinsWarden$Plans", "learn", "(I)V"⟩, 8) := ⟨⟨by decide +kernel, by decide +kernel⟩, List.mem_of_getElem? (i := 331) (by decide +kernel), List.mem_of_getElem? (i := 913) (by decide +kernel), List.mem_of_getElem? (i := 914) (by decide +kernel)⟩
theorem lw_p25 : lw_okq (⟨"CoinsWarden$Plans", "choose", "(III)J"⟩, 8) := ⟨⟨by decide +kernel, by decide +kernel⟩, List.mem_of_getElem? (i := 331) (by decide +kernel), List.mem_of_getElem? (i := 922) (by decide +kernel), List.mem_of_getElem? (i := 923) (by decide +kernel)⟩
theorem lw_p26 : lw_okq (⟨"CoinsWarden$Plans", "meanBehind", "(III)J"⟩, 8) := ⟨⟨by decide +kernel, by decide +kernel⟩, List.mem_of_getElem? (i := 331) (by decide +kernel), List.mem_of_getElem? (i := 930) (by decide +kernel), List.mem_of_getElem? (i := 931) (by decide +kernel)⟩
theorem lw_p27 : lw_okq (⟨"CoinsWarden$Costs", "chooseAhead", "(II)V"⟩, 9) := ⟨⟨by decide +kernel, by decide +kernel⟩, List.mem_of_getElem? (i := 295) (by decide +kernel), List.mem_of_getElem? (i := 952) (by decide +kernel), List.mem_of_getElem? (i := 953) (by decide +kernel)⟩
theorem lw_p28 : lw_okq (⟨"CoinsWarden$Costs", "walk", "(LCoinsWarden$Text;II)J"⟩, 9) := ⟨⟨by decide +kernel, by decide +kernel⟩, List.mem_of_getElem? (i := 295) (by decide +kernel), List.mem_of_getElem? (i := 987) (by decide +kernel), List.mem_of_getElem? (i := 988) (by decide +kernel)⟩
theorem lw_p29 : lw_okq (⟨"CoinsWarden$Game", "reckonValue", "(LCoinsWarden$State;)V"⟩, 3) := ⟨⟨by decide +kernel, by decide +kernel⟩, List.mem_of_getElem? (i := 408) (by decide +kernel), List.mem_of_getElem? (i := 1049) (by decide +kernel), List.mem_of_getElem? (i := 1050) (by decide +kernel)⟩
theorem lw_p30 : lw_okq (⟨"CoinsWarden$Game", "reduce", "()V"⟩, 3) := ⟨⟨by decide +kernel, by decide +kernel⟩, List.mem_of_getElem? (i := 408) (by decide +kernel), List.mem_of_getElem? (i := 1053) (by decide +kernel), List.mem_of_getElem? (i := 1054) (by decide +kernel)⟩
theorem lw_p31 : lw_okq (⟨"CoinsWarden", "reckonTakings", "(III)V"⟩, 17) := ⟨⟨by decide +kernel, by decide +kernel⟩, List.mem_of_getElem? (i := 23) (by decide +kernel), List.mem_of_getElem? (i := 1065) (by decide +kernel), List.mem_of_getElem? (i := 1066) (by decide +kernel)⟩
def lw_privs_2 : List (MethodName × Nat) := [(⟨"CoinsWarden$Reading", "add", "(II)I"⟩, 13), (⟨"CoinsWarden$Warden", "putWords", "(IIII)V"⟩, 5), (⟨"CoinsWarden$Reckoner", "reckon", "(LCoinsWarden$Text;II)J"⟩, 5), (⟨"CoinsWarden$Reckoner", "push", "(II)V"⟩, 5), (⟨"CoinsWarden$Reckoner", "join", "(I)V"⟩, 5), (⟨"CoinsWarden", "lookAt", "(I)V"⟩, 17), (⟨"CoinsWarden", "lookFromSlotZero", "()V"⟩, 17), (⟨"CoinsWarden$Plans", "reckonBehind", "(I)V"⟩, 8), (⟨"CoinsWarden$Plans", "learn", "(I)V"⟩, 8), (⟨"CoinsWarden$Plans", "choose", "(III)J"⟩, 8), (⟨"CoinsWarden$Plans", "meanBehind", "(III)J"⟩, 8), (⟨"CoinsWarden$Costs", "chooseAhead", "(II)V"⟩, 9), (⟨"CoinsWarden$Costs", "walk", "(LCoinsWarden$Text;II)J"⟩, 9), (⟨"CoinsWarden$Game", "reckonValue", "(LCoinsWarden$State;)V"⟩, 3), (⟨"CoinsWarden$Game", "reduce", "()V"⟩, 3), (⟨"CoinsWarden", "reckonTakings", "(III)V"⟩, 17)]
theorem lw_r2 : ∀ q ∈ lw_privs_2, lw_okq q := List.forall_mem_cons.mpr ⟨lw_p16, List.forall_mem_cons.mpr ⟨lw_p17, List.forall_mem_cons.mpr ⟨lw_p18, List.forall_mem_cons.mpr ⟨lw_p19, List.forall_mem_cons.mpr ⟨lw_p20, List.forall_mem_cons.mpr ⟨lw_p21, List.forall_mem_cons.mpr ⟨lw_p22, List.forall_mem_cons.mpr ⟨lw_p23, List.forall_mem_cons.mpr ⟨lw_p24, List.forall_mem_cons.mpr ⟨lw_p25, List.forall_mem_cons.mpr ⟨lw_p26, List.forall_mem_cons.mpr ⟨lw_p27, List.forall_mem_cons.mpr ⟨lw_p28, List.forall_mem_cons.mpr ⟨lw_p29, List.forall_mem_cons.mpr ⟨lw_p30, List.forall_mem_cons.mpr ⟨lw_p31, fun _ h => absurd h List.not_mem_nil⟩⟩⟩⟩⟩⟩⟩⟩⟩⟩⟩⟩⟩⟩⟩⟩
theorem lw_p32 : lw_okq (⟨"CoinsWarden", "reckonMost", "()V"⟩, 17) := ⟨⟨by decide +kernel, by decide +kernel⟩, List.mem_of_getElem? (i := 23) (by decide +kernel), List.mem_of_getElem? (i := 1071) (by decide +kernel), List.mem_of_getElem? (i := 1072) (by decide +kernel)⟩
theorem lw_p33 : lw_okq (⟨"CoinsWarden", "slipParts", "(II)J"⟩, 17) := ⟨⟨by decide +kernel, by decide +kernel⟩, List.mem_of_getElem? (i := 23) (by decide +kernel), List.mem_of_getElem? (i := 1087) (by decide +kernel), List.mem_of_getElem? (i := 1088) (by decide +kernel)⟩
theorem lw_p34 : lw_okq (⟨"CoinsWarden$Day", "begin", "(LCoinsWarden$State;)V"⟩, 11) := ⟨⟨by decide +kernel, by decide +kernel⟩, List.mem_of_getElem? (i := 362) (by decide +kernel), List.mem_of_getElem? (i := 1108) (by decide +kernel), List.mem_of_getElem? (i := 1109) (by decide +kernel)⟩
theorem lw_p35 : lw_okq (⟨"CoinsWarden$Day", "stand", "(LCoinsWarden$Text;II)V"⟩, 11) := ⟨⟨by decide +kernel, by decide +kernel⟩, List.mem_of_getElem? (i := 362) (by decide +kernel), List.mem_of_getElem? (i := 1121) (by decide +kernel), List.mem_of_getElem? (i := 1122) (by decide +kernel)⟩
theorem lw_p36 : lw_okq (⟨"CoinsWardenModel", "tell", "(I)I"⟩, 60) := ⟨⟨by decide +kernel, by decide +kernel⟩, List.mem_of_getElem? (i := 1156) (by decide +kernel), List.mem_of_getElem? (i := 1361) (by decide +kernel), List.mem_of_getElem? (i := 1362) (by decide +kernel)⟩
theorem lw_p37 : lw_okq (⟨"CoinsWardenModel", "car1", "(IIII)I"⟩, 60) := ⟨⟨by decide +kernel, by decide +kernel⟩, List.mem_of_getElem? (i := 1156) (by decide +kernel), List.mem_of_getElem? (i := 1373) (by decide +kernel), List.mem_of_getElem? (i := 1374) (by decide +kernel)⟩
theorem lw_p38 : lw_okq (⟨"CoinsWardenModel", "isCar", "(I)Z"⟩, 60) := ⟨⟨by decide +kernel, by decide +kernel⟩, List.mem_of_getElem? (i := 1156) (by decide +kernel), List.mem_of_getElem? (i := 1389) (by decide +kernel), List.mem_of_getElem? (i := 1390) (by decide +kernel)⟩
theorem lw_p39 : lw_okq (⟨"CoinsWardenModel", "change", "(II)I"⟩, 60) := ⟨⟨by decide +kernel, by decide +kernel⟩, List.mem_of_getElem? (i := 1156) (by decide +kernel), List.mem_of_getElem? (i := 1393) (by decide +kernel), List.mem_of_getElem? (i := 1394) (by decide +kernel)⟩
theorem lw_p40 : lw_okq (⟨"CoinsWardenModel", "ofCar", "(II)I"⟩, 60) := ⟨⟨by decide +kernel, by decide +kernel⟩, List.mem_of_getElem? (i := 1156) (by decide +kernel), List.mem_of_getElem? (i := 1402) (by decide +kernel), List.mem_of_getElem? (i := 1403) (by decide +kernel)⟩
theorem lw_p41 : lw_okq (⟨"CoinsWardenModel", "four", "(I)V"⟩, 60) := ⟨⟨by decide +kernel, by decide +kernel⟩, List.mem_of_getElem? (i := 1156) (by decide +kernel), List.mem_of_getElem? (i := 1428) (by decide +kernel), List.mem_of_getElem? (i := 1429) (by decide +kernel)⟩
theorem lw_p42 : lw_okq (⟨"CoinsWardenModel", "text1", "(ZII)I"⟩, 60) := ⟨⟨by decide +kernel, by decide +kernel⟩, List.mem_of_getElem? (i := 1156) (by decide +kernel), List.mem_of_getElem? (i := 1444) (by decide +kernel), List.mem_of_getElem? (i := 1445) (by decide +kernel)⟩
theorem lw_p43 : lw_okq (⟨"CoinsWardenModel", "readText", "(ZI)Z"⟩, 60) := ⟨⟨by decide +kernel, by decide +kernel⟩, List.mem_of_getElem? (i := 1156) (by decide +kernel), List.mem_of_getElem? (i := 1448) (by decide +kernel), List.mem_of_getElem? (i := 1449) (by decide +kernel)⟩
theorem lw_p44 : lw_okq (⟨"CoinsWardenModel", "begin", "()V"⟩, 60) := ⟨⟨by decide +kernel, by decide +kernel⟩, List.mem_of_getElem? (i := 1156) (by decide +kernel), List.mem_of_getElem? (i := 1452) (by decide +kernel), List.mem_of_getElem? (i := 1453) (by decide +kernel)⟩
theorem lw_p45 : lw_okq (⟨"CoinsWardenModel", "next", "()V"⟩, 60) := ⟨⟨by decide +kernel, by decide +kernel⟩, List.mem_of_getElem? (i := 1156) (by decide +kernel), List.mem_of_getElem? (i := 1456) (by decide +kernel), List.mem_of_getElem? (i := 1457) (by decide +kernel)⟩
theorem lw_p46 : lw_okq (⟨"CoinsWardenModel", "readClause", "()V"⟩, 60) := ⟨⟨by decide +kernel, by decide +kernel⟩, List.mem_of_getElem? (i := 1156) (by decide +kernel), List.mem_of_getElem? (i := 1472) (by decide +kernel), List.mem_of_getElem? (i := 1473) (by decide +kernel)⟩
theorem lw_p47 : lw_okq (⟨"CoinsWardenModel", "headAt", "()I"⟩, 60) := ⟨⟨by decide +kernel, by decide +kernel⟩, List.mem_of_getElem? (i := 1156) (by decide +kernel), List.mem_of_getElem? (i := 1476) (by decide +kernel), List.mem_of_getElem? (i := 1477) (by decide +kernel)⟩
def lw_privs_3 : List (MethodName × Nat) := [(⟨"CoinsWarden", "reckonMost", "()V"⟩, 17), (⟨"CoinsWarden", "slipParts", "(II)J"⟩, 17), (⟨"CoinsWarden$Day", "begin", "(LCoinsWarden$State;)V"⟩, 11), (⟨"CoinsWarden$Day", "stand", "(LCoinsWarden$Text;II)V"⟩, 11), (⟨"CoinsWardenModel", "tell", "(I)I"⟩, 60), (⟨"CoinsWardenModel", "car1", "(IIII)I"⟩, 60), (⟨"CoinsWardenModel", "isCar", "(I)Z"⟩, 60), (⟨"CoinsWardenModel", "change", "(II)I"⟩, 60), (⟨"CoinsWardenModel", "ofCar", "(II)I"⟩, 60), (⟨"CoinsWardenModel", "four", "(I)V"⟩, 60), (⟨"CoinsWardenModel", "text1", "(ZII)I"⟩, 60), (⟨"CoinsWardenModel", "readText", "(ZI)Z"⟩, 60), (⟨"CoinsWardenModel", "begin", "()V"⟩, 60), (⟨"CoinsWardenModel", "next", "()V"⟩, 60), (⟨"CoinsWardenModel", "readClause", "()V"⟩, 60), (⟨"CoinsWardenModel", "headAt", "()I"⟩, 60)]
theorem lw_r3 : ∀ q ∈ lw_privs_3, lw_okq q := List.forall_mem_cons.mpr ⟨lw_p32, List.forall_mem_cons.mpr ⟨lw_p33, List.forall_mem_cons.mpr ⟨lw_p34, List.forall_mem_cons.mpr ⟨lw_p35, List.forall_mem_cons.mpr ⟨lw_p36, List.forall_mem_cons.mpr ⟨lw_p37, List.forall_mem_cons.mpr ⟨lw_p38, List.forall_mem_cons.mpr ⟨lw_p39, List.forall_mem_cons.mpr ⟨lw_p40, List.forall_mem_cons.mpr ⟨lw_p41, List.forall_mem_cons.mpr ⟨lw_p42, List.forall_mem_cons.mpr ⟨lw_p43, List.forall_mem_cons.mpr ⟨lw_p44, List.forall_mem_cons.mpr ⟨lw_p45, List.forall_mem_cons.mpr ⟨lw_p46, List.forall_mem_cons.mpr ⟨lw_p47, fun _ h => absurd h List.not_mem_nil⟩⟩⟩⟩⟩⟩⟩⟩⟩⟩⟩⟩⟩⟩⟩⟩
theorem lw_p48 : lw_okq (⟨"CoinsWardenModel", "isWord", "(J)Z"⟩, 60) := ⟨⟨by decide +kernel, by decide +kernel⟩, List.mem_of_getElem? (i := 1156) (by decide +kernel), List.mem_of_getElem? (i := 1481) (by decide +kernel), List.mem_of_getElem? (i := 1482) (by decide +kernel)⟩
theorem lw_p49 : lw_okq (⟨"CoinsWardenModel", "must", "(Z)V"⟩, 60) := ⟨⟨by decide +kernel, by decide +kernel⟩, List.mem_of_getElem? (i := 1156) (by decide +kernel), List.mem_of_getElem? (i := 1488) (by decide +kernel), List.mem_of_getElem? (i := 1489) (by decide +kernel)⟩
theorem lw_p50 : lw_okq (⟨"CoinsWardenModel", "readExpression", "(Z)V"⟩, 60) := ⟨⟨by decide +kernel, by decide +kernel⟩, List.mem_of_getElem? (i := 1156) (by decide +kernel), List.mem_of_getElem? (i := 1492) (by decide +kernel), List.mem_of_getElem? (i := 1493) (by decide +kernel)⟩
theorem lw_p51 : lw_okq (⟨"CoinsWardenModel", "readPlain", "()I"⟩, 60) := ⟨⟨by decide +kernel, by decide +kernel⟩, List.mem_of_getElem? (i := 1156) (by decide +kernel), List.mem_of_getElem? (i := 1496) (by decide +kernel), List.mem_of_getElem? (i := 1497) (by decide +kernel)⟩
theorem lw_p52 : lw_okq (⟨"CoinsWardenModel", "push", "(II)V"⟩, 60) := ⟨⟨by decide +kernel, by decide +kernel⟩, List.mem_of_getElem? (i := 1156) (by decide +kernel), List.mem_of_getElem? (i := 1501) (by decide +kernel), List.mem_of_getElem? (i := 1502) (by decide +kernel)⟩
theorem lw_p53 : lw_okq (⟨"CoinsWardenModel", "isSign", "(I)Z"⟩, 60) := ⟨⟨by decide +kernel, by decide +kernel⟩, List.mem_of_getElem? (i := 1156) (by decide +kernel), List.mem_of_getElem? (i := 1505) (by decide +kernel), List.mem_of_getElem? (i := 1506) (by decide +kernel)⟩
theorem lw_p54 : lw_okq (⟨"CoinsWardenModel", "openBracket", "(I)V"⟩, 60) := ⟨⟨by decide +kernel, by decide +kernel⟩, List.mem_of_getElem? (i := 1156) (by decide +kernel), List.mem_of_getElem? (i := 1509) (by decide +kernel), List.mem_of_getElem? (i := 1510) (by decide +kernel)⟩
theorem lw_p55 : lw_okq (⟨"CoinsWardenModel", "readPart", "()I"⟩, 60) := ⟨⟨by decide +kernel, by decide +kernel⟩, List.mem_of_getElem? (i := 1156) (by decide +kernel), List.mem_of_getElem? (i := 1513) (by decide +kernel), List.mem_of_getElem? (i := 1514) (by decide +kernel)⟩
theorem lw_p56 : lw_okq (⟨"CoinsWardenModel", "orderPartAt", "()I"⟩, 60) := ⟨⟨by decide +kernel, by decide +kernel⟩, List.mem_of_getElem? (i := 1156) (by decide +kernel), List.mem_of_getElem? (i := 1517) (by decide +kernel), List.mem_of_getElem? (i := 1518) (by decide +kernel)⟩
theorem lw_p57 : lw_okq (⟨"CoinsWardenModel", "partAt", "()I"⟩, 60) := ⟨⟨by decide +kernel, by decide +kernel⟩, List.mem_of_getElem? (i := 1156) (by decide +kernel), List.mem_of_getElem? (i := 1521) (by decide +kernel), List.mem_of_getElem? (i := 1522) (by decide +kernel)⟩
theorem lw_p58 : lw_okq (⟨"CoinsWardenModel", "leaf", "(ZII)V"⟩, 60) := ⟨⟨by decide +kernel, by decide +kernel⟩, List.mem_of_getElem? (i := 1156) (by decide +kernel), List.mem_of_getElem? (i := 1526) (by decide +kernel), List.mem_of_getElem? (i := 1527) (by decide +kernel)⟩
theorem lw_p59 : lw_okq (⟨"CoinsWardenModel", "emit", "(II)V"⟩, 60) := ⟨⟨by decide +kernel, by decide +kernel⟩, List.mem_of_getElem? (i := 1156) (by decide +kernel), List.mem_of_getElem? (i := 1530) (by decide +kernel), List.mem_of_getElem? (i := 1531) (by decide +kernel)⟩
theorem lw_p60 : lw_okq (⟨"CoinsWardenModel", "behindSum", "(Z)I"⟩, 60) := ⟨⟨by decide +kernel, by decide +kernel⟩, List.mem_of_getElem? (i := 1156) (by decide +kernel), List.mem_of_getElem? (i := 1534) (by decide +kernel), List.mem_of_getElem? (i := 1535) (by decide +kernel)⟩
theorem lw_p61 : lw_okq (⟨"CoinsWardenModel", "settle", "(I)V"⟩, 60) := ⟨⟨by decide +kernel, by decide +kernel⟩, List.mem_of_getElem? (i := 1156) (by decide +kernel), List.mem_of_getElem? (i := 1541) (by decide +kernel), List.mem_of_getElem? (i := 1542) (by decide +kernel)⟩
theorem lw_p62 : lw_okq (⟨"CoinsWardenModel", "inner", "()I"⟩, 60) := ⟨⟨by decide +kernel, by decide +kernel⟩, List.mem_of_getElem? (i := 1156) (by decide +kernel), List.mem_of_getElem? (i := 1545) (by decide +kernel), List.mem_of_getElem? (i := 1546) (by decide +kernel)⟩
theorem lw_p63 : lw_okq (⟨"CoinsWardenModel", "isCompared", "()Z"⟩, 60) := ⟨⟨by decide +kernel, by decide +kernel⟩, List.mem_of_getElem? (i := 1156) (by decide +kernel), List.mem_of_getElem? (i := 1549) (by decide +kernel), List.mem_of_getElem? (i := 1550) (by decide +kernel)⟩
def lw_privs_4 : List (MethodName × Nat) := [(⟨"CoinsWardenModel", "isWord", "(J)Z"⟩, 60), (⟨"CoinsWardenModel", "must", "(Z)V"⟩, 60), (⟨"CoinsWardenModel", "readExpression", "(Z)V"⟩, 60), (⟨"CoinsWardenModel", "readPlain", "()I"⟩, 60), (⟨"CoinsWardenModel", "push", "(II)V"⟩, 60), (⟨"CoinsWardenModel", "isSign", "(I)Z"⟩, 60), (⟨"CoinsWardenModel", "openBracket", "(I)V"⟩, 60), (⟨"CoinsWardenModel", "readPart", "()I"⟩, 60), (⟨"CoinsWardenModel", "orderPartAt", "()I"⟩, 60), (⟨"CoinsWardenModel", "partAt", "()I"⟩, 60), (⟨"CoinsWardenModel", "leaf", "(ZII)V"⟩, 60), (⟨"CoinsWardenModel", "emit", "(II)V"⟩, 60), (⟨"CoinsWardenModel", "behindSum", "(Z)I"⟩, 60), (⟨"CoinsWardenModel", "settle", "(I)V"⟩, 60), (⟨"CoinsWardenModel", "inner", "()I"⟩, 60), (⟨"CoinsWardenModel", "isCompared", "()Z"⟩, 60)]
theorem lw_r4 : ∀ q ∈ lw_privs_4, lw_okq q := List.forall_mem_cons.mpr ⟨lw_p48, List.forall_mem_cons.mpr ⟨lw_p49, List.forall_mem_cons.mpr ⟨lw_p50, List.forall_mem_cons.mpr ⟨lw_p51, List.forall_mem_cons.mpr ⟨lw_p52, List.forall_mem_cons.mpr ⟨lw_p53, List.forall_mem_cons.mpr ⟨lw_p54, List.forall_mem_cons.mpr ⟨lw_p55, List.forall_mem_cons.mpr ⟨lw_p56, List.forall_mem_cons.mpr ⟨lw_p57, List.forall_mem_cons.mpr ⟨lw_p58, List.forall_mem_cons.mpr ⟨lw_p59, List.forall_mem_cons.mpr ⟨lw_p60, List.forall_mem_cons.mpr ⟨lw_p61, List.forall_mem_cons.mpr ⟨lw_p62, List.forall_mem_cons.mpr ⟨lw_p63, fun _ h => absurd h List.not_mem_nil⟩⟩⟩⟩⟩⟩⟩⟩⟩⟩⟩⟩⟩⟩⟩⟩
theorem lw_p64 : lw_okq (⟨"CoinsWardenModel", "behindTest", "()I"⟩, 60) := ⟨⟨by decide +kernel, by decide +kernel⟩, List.mem_of_getElem? (i := 1156) (by decide +kernel), List.mem_of_getElem? (i := 1557) (by decide +kernel), List.mem_of_getElem? (i := 1558) (by decide +kernel)⟩
theorem lw_p65 : lw_okq (⟨"CoinsWardenModel", "isLaw", "(I)Z"⟩, 60) := ⟨⟨by decide +kernel, by decide +kernel⟩, List.mem_of_getElem? (i := 1156) (by decide +kernel), List.mem_of_getElem? (i := 1572) (by decide +kernel), List.mem_of_getElem? (i := 1573) (by decide +kernel)⟩
theorem lw_p66 : lw_okq (⟨"CoinsWardenModel", "askNow", "()V"⟩, 60) := ⟨⟨by decide +kernel, by decide +kernel⟩, List.mem_of_getElem? (i := 1156) (by decide +kernel), List.mem_of_getElem? (i := 1581) (by decide +kernel), List.mem_of_getElem? (i := 1582) (by decide +kernel)⟩
theorem lw_p67 : lw_okq (⟨"CoinsWardenModel", "term", "(I)I"⟩, 60) := ⟨⟨by decide +kernel, by decide +kernel⟩, List.mem_of_getElem? (i := 1156) (by decide +kernel), List.mem_of_getElem? (i := 1585) (by decide +kernel), List.mem_of_getElem? (i := 1586) (by decide +kernel)⟩
theorem lw_p68 : lw_okq (⟨"CoinsWardenModel", "comesOf", "(II)I"⟩, 60) := ⟨⟨by decide +kernel, by decide +kernel⟩, List.mem_of_getElem? (i := 1156) (by decide +kernel), List.mem_of_getElem? (i := 1589) (by decide +kernel), List.mem_of_getElem? (i := 1590) (by decide +kernel)⟩
theorem lw_p69 : lw_okq (⟨"CoinsWardenModel", "setLaw", "(IIII)V"⟩, 60) := ⟨⟨by decide +kernel, by decide +kernel⟩, List.mem_of_getElem? (i := 1156) (by decide +kernel), List.mem_of_getElem? (i := 1593) (by decide +kernel), List.mem_of_getElem? (i := 1594) (by decide +kernel)⟩
theorem lw_p70 : lw_okq (⟨"CoinsWardenModel", "tells", "(IIJ)J"⟩, 60) := ⟨⟨by decide +kernel, by decide +kernel⟩, List.mem_of_getElem? (i := 1156) (by decide +kernel), List.mem_of_getElem? (i := 1598) (by decide +kernel), List.mem_of_getElem? (i := 1599) (by decide +kernel)⟩
theorem lw_p71 : lw_okq (⟨"CoinsWardenModel", "isSo", "(I)Z"⟩, 60) := ⟨⟨by decide +kernel, by decide +kernel⟩, List.mem_of_getElem? (i := 1156) (by decide +kernel), List.mem_of_getElem? (i := 1602) (by decide +kernel), List.mem_of_getElem? (i := 1603) (by decide +kernel)⟩
theorem lw_p72 : lw_okq (⟨"CoinsWardenModel", "reckonAll", "(II)V"⟩, 60) := ⟨⟨by decide +kernel, by decide +kernel⟩, List.mem_of_getElem? (i := 1156) (by decide +kernel), List.mem_of_getElem? (i := 1606) (by decide +kernel), List.mem_of_getElem? (i := 1607) (by decide +kernel)⟩
theorem lw_p73 : lw_okq (⟨"CoinsWardenModel", "reckon", "(IJJ)J"⟩, 60) := ⟨⟨by decide +kernel, by decide +kernel⟩, List.mem_of_getElem? (i := 1156) (by decide +kernel), List.mem_of_getElem? (i := 1610) (by decide +kernel), List.mem_of_getElem? (i := 1611) (by decide +kernel)⟩
theorem lw_p74 : lw_okq (⟨"CoinsWardenModel", "finesOf", "(IIII)I"⟩, 60) := ⟨⟨by decide +kernel, by decide +kernel⟩, List.mem_of_getElem? (i := 1156) (by decide +kernel), List.mem_of_getElem? (i := 1619) (by decide +kernel), List.mem_of_getElem? (i := 1620) (by decide +kernel)⟩
theorem lw_p75 : lw_okq (⟨"CoinsWardenModel", "isSpared", "(III)Z"⟩, 60) := ⟨⟨by decide +kernel, by decide +kernel⟩, List.mem_of_getElem? (i := 1156) (by decide +kernel), List.mem_of_getElem? (i := 1623) (by decide +kernel), List.mem_of_getElem? (i := 1624) (by decide +kernel)⟩
theorem lw_p76 : lw_okq (⟨"CoinsWardenModel", "layComes", "()V"⟩, 60) := ⟨⟨by decide +kernel, by decide +kernel⟩, List.mem_of_getElem? (i := 1156) (by decide +kernel), List.mem_of_getElem? (i := 1631) (by decide +kernel), List.mem_of_getElem? (i := 1632) (by decide +kernel)⟩
theorem lw_p77 : lw_okq (⟨"CoinsWardenModel", "layAll", "(I)V"⟩, 60) := ⟨⟨by decide +kernel, by decide +kernel⟩, List.mem_of_getElem? (i := 1156) (by decide +kernel), List.mem_of_getElem? (i := 1643) (by decide +kernel), List.mem_of_getElem? (i := 1644) (by decide +kernel)⟩
theorem lw_p78 : lw_okq (⟨"CoinsWardenModel", "layCar", "(II)V"⟩, 60) := ⟨⟨by decide +kernel, by decide +kernel⟩, List.mem_of_getElem? (i := 1156) (by decide +kernel), List.mem_of_getElem? (i := 1647) (by decide +kernel), List.mem_of_getElem? (i := 1648) (by decide +kernel)⟩
theorem lw_p79 : lw_okq (⟨"CoinsWardenModel", "costOf", "(II)J"⟩, 60) := ⟨⟨by decide +kernel, by decide +kernel⟩, List.mem_of_getElem? (i := 1156) (by decide +kernel), List.mem_of_getElem? (i := 1651) (by decide +kernel), List.mem_of_getElem? (i := 1652) (by decide +kernel)⟩
def lw_privs_5 : List (MethodName × Nat) := [(⟨"CoinsWardenModel", "behindTest", "()I"⟩, 60), (⟨"CoinsWardenModel", "isLaw", "(I)Z"⟩, 60), (⟨"CoinsWardenModel", "askNow", "()V"⟩, 60), (⟨"CoinsWardenModel", "term", "(I)I"⟩, 60), (⟨"CoinsWardenModel", "comesOf", "(II)I"⟩, 60), (⟨"CoinsWardenModel", "setLaw", "(IIII)V"⟩, 60), (⟨"CoinsWardenModel", "tells", "(IIJ)J"⟩, 60), (⟨"CoinsWardenModel", "isSo", "(I)Z"⟩, 60), (⟨"CoinsWardenModel", "reckonAll", "(II)V"⟩, 60), (⟨"CoinsWardenModel", "reckon", "(IJJ)J"⟩, 60), (⟨"CoinsWardenModel", "finesOf", "(IIII)I"⟩, 60), (⟨"CoinsWardenModel", "isSpared", "(III)Z"⟩, 60), (⟨"CoinsWardenModel", "layComes", "()V"⟩, 60), (⟨"CoinsWardenModel", "layAll", "(I)V"⟩, 60), (⟨"CoinsWardenModel", "layCar", "(II)V"⟩, 60), (⟨"CoinsWardenModel", "costOf", "(II)J"⟩, 60)]
theorem lw_r5 : ∀ q ∈ lw_privs_5, lw_okq q := List.forall_mem_cons.mpr ⟨lw_p64, List.forall_mem_cons.mpr ⟨lw_p65, List.forall_mem_cons.mpr ⟨lw_p66, List.forall_mem_cons.mpr ⟨lw_p67, List.forall_mem_cons.mpr ⟨lw_p68, List.forall_mem_cons.mpr ⟨lw_p69, List.forall_mem_cons.mpr ⟨lw_p70, List.forall_mem_cons.mpr ⟨lw_p71, List.forall_mem_cons.mpr ⟨lw_p72, List.forall_mem_cons.mpr ⟨lw_p73, List.forall_mem_cons.mpr ⟨lw_p74, List.forall_mem_cons.mpr ⟨lw_p75, List.forall_mem_cons.mpr ⟨lw_p76, List.forall_mem_cons.mpr ⟨lw_p77, List.forall_mem_cons.mpr ⟨lw_p78, List.forall_mem_cons.mpr ⟨lw_p79, fun _ h => absurd h List.not_mem_nil⟩⟩⟩⟩⟩⟩⟩⟩⟩⟩⟩⟩⟩⟩⟩⟩
theorem lw_p80 : lw_okq (⟨"CoinsWardenModel", "paidBy", "(II)I"⟩, 60) := ⟨⟨by decide +kernel, by decide +kernel⟩, List.mem_of_getElem? (i := 1156) (by decide +kernel), List.mem_of_getElem? (i := 1655) (by decide +kernel), List.mem_of_getElem? (i := 1656) (by decide +kernel)⟩
theorem lw_p81 : lw_okq (⟨"CoinsWardenModel", "findAtFirst", "(I)V"⟩, 60) := ⟨⟨by decide +kernel, by decide +kernel⟩, List.mem_of_getElem? (i := 1156) (by decide +kernel), List.mem_of_getElem? (i := 1666) (by decide +kernel), List.mem_of_getElem? (i := 1667) (by decide +kernel)⟩
theorem lw_p82 : lw_okq (⟨"CoinsWardenModel", "findDown", "(I)V"⟩, 60) := ⟨⟨by decide +kernel, by decide +kernel⟩, List.mem_of_getElem? (i := 1156) (by decide +kernel), List.mem_of_getElem? (i := 1675) (by decide +kernel), List.mem_of_getElem? (i := 1676) (by decide +kernel)⟩
theorem lw_p83 : lw_okq (⟨"CoinsWardenModel", "price", "(III)I"⟩, 60) := ⟨⟨by decide +kernel, by decide +kernel⟩, List.mem_of_getElem? (i := 1156) (by decide +kernel), List.mem_of_getElem? (i := 1679) (by decide +kernel), List.mem_of_getElem? (i := 1680) (by decide +kernel)⟩
theorem lw_p84 : lw_okq (⟨"CoinsWardenModel", "runCost", "(IZ)J"⟩, 60) := ⟨⟨by decide +kernel, by decide +kernel⟩, List.mem_of_getElem? (i := 1156) (by decide +kernel), List.mem_of_getElem? (i := 1687) (by decide +kernel), List.mem_of_getElem? (i := 1688) (by decide +kernel)⟩
theorem lw_p85 : lw_okq (⟨"CoinsWardenModel", "findRun", "(IZ)V"⟩, 60) := ⟨⟨by decide +kernel, by decide +kernel⟩, List.mem_of_getElem? (i := 1156) (by decide +kernel), List.mem_of_getElem? (i := 1691) (by decide +kernel), List.mem_of_getElem? (i := 1692) (by decide +kernel)⟩
theorem lw_p86 : lw_okq (⟨"CoinsWardenModel", "ifHeComes", "(IIIIJZ)J"⟩, 60) := ⟨⟨by decide +kernel, by decide +kernel⟩, List.mem_of_getElem? (i := 1156) (by decide +kernel), List.mem_of_getElem? (i := 1701) (by decide +kernel), List.mem_of_getElem? (i := 1702) (by decide +kernel)⟩
theorem lw_p87 : lw_okq (⟨"CoinsWardenModel", "isHabit", "(I)Z"⟩, 60) := ⟨⟨by decide +kernel, by decide +kernel⟩, List.mem_of_getElem? (i := 1156) (by decide +kernel), List.mem_of_getElem? (i := 1713) (by decide +kernel), List.mem_of_getElem? (i := 1714) (by decide +kernel)⟩
theorem lw_p88 : lw_okq (⟨"CoinsWardenModel", "habitCost", "(II)J"⟩, 60) := ⟨⟨by decide +kernel, by decide +kernel⟩, List.mem_of_getElem? (i := 1156) (by decide +kernel), List.mem_of_getElem? (i := 1717) (by decide +kernel), List.mem_of_getElem? (i := 1718) (by decide +kernel)⟩
theorem lw_p89 : lw_okq (⟨"CoinsWardenModel", "thrownBy", "(IIIII)I"⟩, 60) := ⟨⟨by decide +kernel, by decide +kernel⟩, List.mem_of_getElem? (i := 1156) (by decide +kernel), List.mem_of_getElem? (i := 1721) (by decide +kernel), List.mem_of_getElem? (i := 1722) (by decide +kernel)⟩
theorem lw_p90 : lw_okq (⟨"CoinsWardenModel", "findValue", "()V"⟩, 60) := ⟨⟨by decide +kernel, by decide +kernel⟩, List.mem_of_getElem? (i := 1156) (by decide +kernel), List.mem_of_getElem? (i := 1756) (by decide +kernel), List.mem_of_getElem? (i := 1757) (by decide +kernel)⟩
theorem lw_p91 : lw_okq (⟨"CoinsWardenModel", "loss", "(I)I"⟩, 60) := ⟨⟨by decide +kernel, by decide +kernel⟩, List.mem_of_getElem? (i := 1156) (by decide +kernel), List.mem_of_getElem? (i := 1760) (by decide +kernel), List.mem_of_getElem? (i := 1761) (by decide +kernel)⟩
theorem lw_p92 : lw_okq (⟨"CoinsWardenModel", "valueBy", "(I)V"⟩, 60) := ⟨⟨by decide +kernel, by decide +kernel⟩, List.mem_of_getElem? (i := 1156) (by decide +kernel), List.mem_of_getElem? (i := 1764) (by decide +kernel), List.mem_of_getElem? (i := 1765) (by decide +kernel)⟩
theorem lw_p93 : lw_okq (⟨"CoinsWardenModel", "wide", "(I)I"⟩, 60) := ⟨⟨by decide +kernel, by decide +kernel⟩, List.mem_of_getElem? (i := 1156) (by decide +kernel), List.mem_of_getElem? (i := 1768) (by decide +kernel), List.mem_of_getElem? (i := 1769) (by decide +kernel)⟩
theorem lw_p94 : lw_okq (⟨"CoinsWardenModel", "shorten", "(JJ)V"⟩, 60) := ⟨⟨by decide +kernel, by decide +kernel⟩, List.mem_of_getElem? (i := 1156) (by decide +kernel), List.mem_of_getElem? (i := 1772) (by decide +kernel), List.mem_of_getElem? (i := 1773) (by decide +kernel)⟩
theorem lw_p95 : lw_okq (⟨"CoinsWardenModel", "townOf", "(I)J"⟩, 60) := ⟨⟨by decide +kernel, by decide +kernel⟩, List.mem_of_getElem? (i := 1156) (by decide +kernel), List.mem_of_getElem? (i := 1783) (by decide +kernel), List.mem_of_getElem? (i := 1784) (by decide +kernel)⟩
def lw_privs_6 : List (MethodName × Nat) := [(⟨"CoinsWardenModel", "paidBy", "(II)I"⟩, 60), (⟨"CoinsWardenModel", "findAtFirst", "(I)V"⟩, 60), (⟨"CoinsWardenModel", "findDown", "(I)V"⟩, 60), (⟨"CoinsWardenModel", "price", "(III)I"⟩, 60), (⟨"CoinsWardenModel", "runCost", "(IZ)J"⟩, 60), (⟨"CoinsWardenModel", "findRun", "(IZ)V"⟩, 60), (⟨"CoinsWardenModel", "ifHeComes", "(IIIIJZ)J"⟩, 60), (⟨"CoinsWardenModel", "isHabit", "(I)Z"⟩, 60), (⟨"CoinsWardenModel", "habitCost", "(II)J"⟩, 60), (⟨"CoinsWardenModel", "thrownBy", "(IIIII)I"⟩, 60), (⟨"CoinsWardenModel", "findValue", "()V"⟩, 60), (⟨"CoinsWardenModel", "loss", "(I)I"⟩, 60), (⟨"CoinsWardenModel", "valueBy", "(I)V"⟩, 60), (⟨"CoinsWardenModel", "wide", "(I)I"⟩, 60), (⟨"CoinsWardenModel", "shorten", "(JJ)V"⟩, 60), (⟨"CoinsWardenModel", "townOf", "(I)J"⟩, 60)]
theorem lw_r6 : ∀ q ∈ lw_privs_6, lw_okq q := List.forall_mem_cons.mpr ⟨lw_p80, List.forall_mem_cons.mpr ⟨lw_p81, List.forall_mem_cons.mpr ⟨lw_p82, List.forall_mem_cons.mpr ⟨lw_p83, List.forall_mem_cons.mpr ⟨lw_p84, List.forall_mem_cons.mpr ⟨lw_p85, List.forall_mem_cons.mpr ⟨lw_p86, List.forall_mem_cons.mpr ⟨lw_p87, List.forall_mem_cons.mpr ⟨lw_p88, List.forall_mem_cons.mpr ⟨lw_p89, List.forall_mem_cons.mpr ⟨lw_p90, List.forall_mem_cons.mpr ⟨lw_p91, List.forall_mem_cons.mpr ⟨lw_p92, List.forall_mem_cons.mpr ⟨lw_p93, List.forall_mem_cons.mpr ⟨lw_p94, List.forall_mem_cons.mpr ⟨lw_p95, fun _ h => absurd h List.not_mem_nil⟩⟩⟩⟩⟩⟩⟩⟩⟩⟩⟩⟩⟩⟩⟩⟩
theorem lw_p96 : lw_okq (⟨"CoinsWardenModel", "slipOf", "(I)I"⟩, 60) := ⟨⟨by decide +kernel, by decide +kernel⟩, List.mem_of_getElem? (i := 1156) (by decide +kernel), List.mem_of_getElem? (i := 1793) (by decide +kernel), List.mem_of_getElem? (i := 1794) (by decide +kernel)⟩
theorem lw_p97 : lw_okq (⟨"CoinsWardenModel", "fitsBy", "(I)J"⟩, 60) := ⟨⟨by decide +kernel, by decide +kernel⟩, List.mem_of_getElem? (i := 1156) (by decide +kernel), List.mem_of_getElem? (i := 1805) (by decide +kernel), List.mem_of_getElem? (i := 1806) (by decide +kernel)⟩
theorem lw_p98 : lw_okq (⟨"CoinsWardenModel", "draw", "(I)I"⟩, 60) := ⟨⟨by decide +kernel, by decide +kernel⟩, List.mem_of_getElem? (i := 1156) (by decide +kernel), List.mem_of_getElem? (i := 1821) (by decide +kernel), List.mem_of_getElem? (i := 1822) (by decide +kernel)⟩
theorem lw_p99 : lw_okq (⟨"CoinsWardenModel", "throwDay", "(IIII)V"⟩, 60) := ⟨⟨by decide +kernel, by decide +kernel⟩, List.mem_of_getElem? (i := 1156) (by decide +kernel), List.mem_of_getElem? (i := 1828) (by decide +kernel), List.mem_of_getElem? (i := 1829) (by decide +kernel)⟩
theorem lw_p100 : lw_okq (⟨"CoinsWardenModel", "comeDay", "(IIIZ)V"⟩, 60) := ⟨⟨by decide +kernel, by decide +kernel⟩, List.mem_of_getElem? (i := 1156) (by decide +kernel), List.mem_of_getElem? (i := 1832) (by decide +kernel), List.mem_of_getElem? (i := 1833) (by decide +kernel)⟩
def lw_privs_7 : List (MethodName × Nat) := [(⟨"CoinsWardenModel", "slipOf", "(I)I"⟩, 60), (⟨"CoinsWardenModel", "fitsBy", "(I)J"⟩, 60), (⟨"CoinsWardenModel", "draw", "(I)I"⟩, 60), (⟨"CoinsWardenModel", "throwDay", "(IIII)V"⟩, 60), (⟨"CoinsWardenModel", "comeDay", "(IIIZ)V"⟩, 60)]
theorem lw_r7 : ∀ q ∈ lw_privs_7, lw_okq q := List.forall_mem_cons.mpr ⟨lw_p96, List.forall_mem_cons.mpr ⟨lw_p97, List.forall_mem_cons.mpr ⟨lw_p98, List.forall_mem_cons.mpr ⟨lw_p99, List.forall_mem_cons.mpr ⟨lw_p100, fun _ h => absurd h List.not_mem_nil⟩⟩⟩⟩⟩
def lw_privs : List (MethodName × Nat) := lw_privs_1 ++ (lw_privs_2 ++ (lw_privs_3 ++ (lw_privs_4 ++ (lw_privs_5 ++ (lw_privs_6 ++ (lw_privs_7))))))
def lw_tbl : List Cond := k2_sels lw_privs ++ tables_1
theorem lw_privs_ok : ∀ q ∈ lw_privs, lw_okq q := by
  show ∀ q ∈ lw_privs_1 ++ (lw_privs_2 ++ (lw_privs_3 ++ (lw_privs_4 ++ (lw_privs_5 ++ (lw_privs_6 ++ (lw_privs_7)))))), lw_okq q
  exact List.forall_mem_append.mpr ⟨lw_r1, List.forall_mem_append.mpr ⟨lw_r2, List.forall_mem_append.mpr ⟨lw_r3, List.forall_mem_append.mpr ⟨lw_r4, List.forall_mem_append.mpr ⟨lw_r5, List.forall_mem_append.mpr ⟨lw_r6, lw_r7⟩⟩⟩⟩⟩⟩

-- ===== the words that keep =====
def tblG : List Cond := lw_tbl.filter goodWord
theorem tg_in {w : Cond} (h : w ∈ tables_1) (hg : goodWord w = true) : w ∈ tblG := List.mem_filter.mpr ⟨List.mem_append_right _ h, hg⟩
theorem tg_at (i : Nat) {w : Cond} (h : tables_1[i]? = some w) (hg : goodWord w = true) : w ∈ tblG := tg_in (List.mem_of_getElem? h) hg
theorem tg_sel (i : Nat) {q : MethodName × Nat} (h : lw_privs[i]? = some q) : Cond.selects q.1.cls q.1 q.1 ∈ tblG := List.mem_filter.mpr ⟨List.mem_append_left _ (List.mem_map.mpr ⟨q, List.mem_of_getElem? h, rfl⟩), rfl⟩
theorem tg_good : ∀ w ∈ tblG, goodWord w = true := fun w h => (List.mem_filter.mp h).2
theorem tg_low : ∀ w ∈ tblG, w ∈ lw_tbl := fun w h => (List.mem_filter.mp h).1
theorem tg_list (ws : List Cond) (ps : List Nat) (hp : ws = ps.filterMap (fun i => tables_1[i]?)) (h : ws.all goodWord = true) : ∀ w ∈ ws, w ∈ tblG := by
  intro w hw
  have h1 := List.all_eq_true.mp h w hw
  rw [hp] at hw
  obtain ⟨i, -, hi⟩ := List.mem_filterMap.mp hw
  exact tg_at i hi h1
-- ===== the classes =====
def tc_0 : u_T := fun k => match k with
  | 0 => ("CoinsWarden$Costs", "warden", "LCoinsWarden$Warden;", true)
  | 1 => ("CoinsWarden$Costs", "stay", "LCoinsWarden$Stay;", true)
  | 2 => ("CoinsWarden$Costs", "reckoner", "LCoinsWarden$Reckoner;", true)
  | 3 => ("CoinsWarden$Costs", "toldFrom", "[J", true)
  | 4 => ("CoinsWarden$Costs", "askedFrom", "[J", true)
  | 5 => ("CoinsWarden$Costs", "leastFrom", "[J", true)
  | 6 => ("CoinsWarden$Costs", "bestCoins", "[I", true)
  | 7 => ("CoinsWarden$Costs", "here", "[J", true)
  | _ => ("CoinsWarden$Costs", "next", "[J", true)
def ty_0 : Nat → FieldType := fun k => match k with
  | 0 => .object "CoinsWarden$Warden"
  | 1 => .object "CoinsWarden$Stay"
  | 2 => .object "CoinsWarden$Reckoner"
  | 3 => .array (.long)
  | 4 => .array (.long)
  | 5 => .array (.long)
  | 6 => .array (.int)
  | 7 => .array (.long)
  | _ => .array (.long)
theorem nm_0 : ∀ a, a < 9 → ∀ b, b < 9 → a ≠ b → (tc_0 a).2.1 ≠ (tc_0 b).2.1 := by decide +kernel
theorem tk_0 : ∀ k, k < 9 → parseFieldDescriptor (tc_0 k).2.2.1 = some (ty_0 k) := by decide +kernel
set_option maxRecDepth 20000 in
theorem li_0 : ∀ w ∈ u_ws "CoinsWarden$Costs" tc_0 9, w ∈ tblG := tg_list _ [311, 313, 315, 317, 319, 321, 323, 325, 327] (by decide +kernel) (by decide +kernel)
def tc_1 : u_T := fun k => match k with
  | 0 => ("CoinsWarden$Day", "warden", "LCoinsWarden$Warden;", true)
  | 1 => ("CoinsWarden$Day", "costs", "LCoinsWarden$Costs;", true)
  | 2 => ("CoinsWarden$Day", "stay", "LCoinsWarden$Stay;", true)
  | 3 => ("CoinsWarden$Day", "drawnYet", "Z", false)
  | 4 => ("CoinsWarden$Day", "cars", "I", false)
  | 5 => ("CoinsWarden$Day", "came", "[I", true)
  | 6 => ("CoinsWarden$Day", "spent", "[I", true)
  | 7 => ("CoinsWarden$Day", "fined", "[I", true)
  | 8 => ("CoinsWarden$Day", "thrown", "[I", true)
  | 9 => ("CoinsWarden$Day", "atFirst", "[I", true)
  | _ => ("CoinsWarden$Day", "left", "[I", true)
def ty_1 : Nat → FieldType := fun k => match k with
  | 0 => .object "CoinsWarden$Warden"
  | 1 => .object "CoinsWarden$Costs"
  | 2 => .object "CoinsWarden$Stay"
  | 3 => .boolean
  | 4 => .int
  | 5 => .array (.int)
  | 6 => .array (.int)
  | 7 => .array (.int)
  | 8 => .array (.int)
  | 9 => .array (.int)
  | _ => .array (.int)
theorem nm_1 : ∀ a, a < 11 → ∀ b, b < 11 → a ≠ b → (tc_1 a).2.1 ≠ (tc_1 b).2.1 := by decide +kernel
theorem tk_1 : ∀ k, k < 11 → parseFieldDescriptor (tc_1 k).2.2.1 = some (ty_1 k) := by decide +kernel
set_option maxRecDepth 20000 in
theorem li_1 : ∀ w ∈ u_ws "CoinsWarden$Day" tc_1 11, w ∈ tblG := tg_list _ [384, 386, 388, 390, 392, 394, 396, 398, 400, 402, 404] (by decide +kernel) (by decide +kernel)
def tc_2 : u_T := fun k => match k with
  | 0 => ("CoinsWarden$Game", "upper", "J", false)
  | 1 => ("CoinsWarden$Game", "lower", "J", false)
  | _ => ("CoinsWarden$Game", "stoodAt", "[Z", true)
def ty_2 : Nat → FieldType := fun k => match k with
  | 0 => .long
  | 1 => .long
  | _ => .array (.boolean)
theorem nm_2 : ∀ a, a < 3 → ∀ b, b < 3 → a ≠ b → (tc_2 a).2.1 ≠ (tc_2 b).2.1 := by decide +kernel
theorem tk_2 : ∀ k, k < 3 → parseFieldDescriptor (tc_2 k).2.2.1 = some (ty_2 k) := by decide +kernel
set_option maxRecDepth 20000 in
theorem li_2 : ∀ w ∈ u_ws "CoinsWarden$Game" tc_2 3, w ∈ tblG := tg_list _ [418, 420, 422] (by decide +kernel) (by decide +kernel)
def tc_3 : u_T := fun k => match k with
  | 0 => ("CoinsWarden$Plans", "warden", "LCoinsWarden$Warden;", true)
  | 1 => ("CoinsWarden$Plans", "stay", "LCoinsWarden$Stay;", true)
  | 2 => ("CoinsWarden$Plans", "comes", "[I", true)
  | 3 => ("CoinsWarden$Plans", "fines", "[I", true)
  | 4 => ("CoinsWarden$Plans", "here", "[J", true)
  | 5 => ("CoinsWarden$Plans", "behind", "[J", true)
  | 6 => ("CoinsWarden$Plans", "warned", "Z", false)
  | _ => ("CoinsWarden$Plans", "bestCoins", "I", false)
def ty_3 : Nat → FieldType := fun k => match k with
  | 0 => .object "CoinsWarden$Warden"
  | 1 => .object "CoinsWarden$Stay"
  | 2 => .array (.int)
  | 3 => .array (.int)
  | 4 => .array (.long)
  | 5 => .array (.long)
  | 6 => .boolean
  | _ => .int
theorem nm_3 : ∀ a, a < 8 → ∀ b, b < 8 → a ≠ b → (tc_3 a).2.1 ≠ (tc_3 b).2.1 := by decide +kernel
theorem tk_3 : ∀ k, k < 8 → parseFieldDescriptor (tc_3 k).2.2.1 = some (ty_3 k) := by decide +kernel
set_option maxRecDepth 20000 in
theorem li_3 : ∀ w ∈ u_ws "CoinsWarden$Plans" tc_3 8, w ∈ tblG := tg_list _ [344, 346, 348, 350, 352, 354, 356, 358] (by decide +kernel) (by decide +kernel)
def tc_4 : u_T := fun k => match k with
  | 0 => ("CoinsWarden$Reading", "tape", "LCoinsWarden$Tape;", true)
  | 1 => ("CoinsWarden$Reading", "ofLaw", "Z", false)
  | 2 => ("CoinsWarden$Reading", "parts", "I", false)
  | 3 => ("CoinsWarden$Reading", "brackets", "I", false)
  | 4 => ("CoinsWarden$Reading", "wrongAt", "I", false)
  | 5 => ("CoinsWarden$Reading", "clauses", "I", false)
  | 6 => ("CoinsWarden$Reading", "verbs", "[I", true)
  | 7 => ("CoinsWarden$Reading", "sumFrom", "[I", true)
  | 8 => ("CoinsWarden$Reading", "testFrom", "[I", true)
  | 9 => ("CoinsWarden$Reading", "upTo", "[I", true)
  | 10 => ("CoinsWarden$Reading", "size", "I", false)
  | 11 => ("CoinsWarden$Reading", "steps", "[I", true)
  | _ => ("CoinsWarden$Reading", "with", "[I", true)
def ty_4 : Nat → FieldType := fun k => match k with
  | 0 => .object "CoinsWarden$Tape"
  | 1 => .boolean
  | 2 => .int
  | 3 => .int
  | 4 => .int
  | 5 => .int
  | 6 => .array (.int)
  | 7 => .array (.int)
  | 8 => .array (.int)
  | 9 => .array (.int)
  | 10 => .int
  | 11 => .array (.int)
  | _ => .array (.int)
theorem nm_4 : ∀ a, a < 13 → ∀ b, b < 13 → a ≠ b → (tc_4 a).2.1 ≠ (tc_4 b).2.1 := by decide +kernel
theorem tk_4 : ∀ k, k < 13 → parseFieldDescriptor (tc_4 k).2.2.1 = some (ty_4 k) := by decide +kernel
set_option maxRecDepth 20000 in
theorem li_4 : ∀ w ∈ u_ws "CoinsWarden$Reading" tc_4 13, w ∈ tblG := tg_list _ [169, 171, 173, 175, 177, 179, 181, 183, 185, 187, 189, 191, 193] (by decide +kernel) (by decide +kernel)
def tc_5 : u_T := fun k => match k with
  | 0 => ("CoinsWarden$Reckoner", "words", "[I", true)
  | 1 => ("CoinsWarden$Reckoner", "stack", "[J", true)
  | 2 => ("CoinsWarden$Reckoner", "depth", "I", false)
  | 3 => ("CoinsWarden$Reckoner", "broken", "Z", false)
  | _ => ("CoinsWarden$Reckoner", "told", "J", false)
def ty_5 : Nat → FieldType := fun k => match k with
  | 0 => .array (.int)
  | 1 => .array (.long)
  | 2 => .int
  | 3 => .boolean
  | _ => .long
theorem nm_5 : ∀ a, a < 5 → ∀ b, b < 5 → a ≠ b → (tc_5 a).2.1 ≠ (tc_5 b).2.1 := by decide +kernel
theorem tk_5 : ∀ k, k < 5 → parseFieldDescriptor (tc_5 k).2.2.1 = some (ty_5 k) := by decide +kernel
set_option maxRecDepth 20000 in
theorem li_5 : ∀ w ∈ u_ws "CoinsWarden$Reckoner" tc_5 5, w ∈ tblG := tg_list _ [215, 217, 219, 221, 223] (by decide +kernel) (by decide +kernel)
def tc_6 : u_T := fun k => match k with
  | 0 => ("CoinsWarden$State", "cars", "I", false)
  | 1 => ("CoinsWarden$State", "facts", "[I", true)
  | 2 => ("CoinsWarden$State", "asked", "[I", true)
  | 3 => ("CoinsWarden$State", "lawCount", "I", false)
  | 4 => ("CoinsWarden$State", "lawTexts", "[LCoinsWarden$Text;", true)
  | 5 => ("CoinsWarden$State", "inForce", "I", false)
  | 6 => ("CoinsWarden$State", "habitCount", "I", false)
  | 7 => ("CoinsWarden$State", "habitTexts", "[LCoinsWarden$Text;", true)
  | 8 => ("CoinsWarden$State", "places", "I", false)
  | 9 => ("CoinsWarden$State", "losses", "[I", true)
  | 10 => ("CoinsWarden$State", "catches", "[I", true)
  | 11 => ("CoinsWarden$State", "slips", "I", false)
  | 12 => ("CoinsWarden$State", "slipSlots", "[I", true)
  | _ => ("CoinsWarden$State", "slipCame", "[I", true)
def ty_6 : Nat → FieldType := fun k => match k with
  | 0 => .int
  | 1 => .array (.int)
  | 2 => .array (.int)
  | 3 => .int
  | 4 => .array (.object "CoinsWarden$Text")
  | 5 => .int
  | 6 => .int
  | 7 => .array (.object "CoinsWarden$Text")
  | 8 => .int
  | 9 => .array (.int)
  | 10 => .array (.int)
  | 11 => .int
  | 12 => .array (.int)
  | _ => .array (.int)
theorem nm_6 : ∀ a, a < 14 → ∀ b, b < 14 → a ≠ b → (tc_6 a).2.1 ≠ (tc_6 b).2.1 := by decide +kernel
theorem tk_6 : ∀ k, k < 14 → parseFieldDescriptor (tc_6 k).2.2.1 = some (ty_6 k) := by decide +kernel
set_option maxRecDepth 20000 in
theorem li_6 : ∀ w ∈ u_ws "CoinsWarden$State" tc_6 14, w ∈ tblG := tg_list _ [79, 81, 83, 85, 87, 89, 91, 93, 95, 97, 99, 101, 103, 105] (by decide +kernel) (by decide +kernel)
def tc_7 : u_T := fun k => match k with
  | 0 => ("CoinsWarden$Stay", "number", "I", false)
  | 1 => ("CoinsWarden$Stay", "from", "I", false)
  | 2 => ("CoinsWarden$Stay", "till", "I", false)
  | 3 => ("CoinsWarden$Stay", "seat", "Z", false)
  | 4 => ("CoinsWarden$Stay", "flights", "I", false)
  | 5 => ("CoinsWarden$Stay", "coin", "I", false)
  | 6 => ("CoinsWarden$Stay", "per", "I", false)
  | _ => ("CoinsWarden$Stay", "fine", "I", false)
def ty_7 : Nat → FieldType := fun k => match k with
  | 0 => .int
  | 1 => .int
  | 2 => .int
  | 3 => .boolean
  | 4 => .int
  | 5 => .int
  | 6 => .int
  | _ => .int
theorem nm_7 : ∀ a, a < 8 → ∀ b, b < 8 → a ≠ b → (tc_7 a).2.1 ≠ (tc_7 b).2.1 := by decide +kernel
theorem tk_7 : ∀ k, k < 8 → parseFieldDescriptor (tc_7 k).2.2.1 = some (ty_7 k) := by decide +kernel
set_option maxRecDepth 20000 in
theorem li_7 : ∀ w ∈ u_ws "CoinsWarden$Stay" tc_7 8, w ∈ tblG := tg_list _ [277, 279, 281, 283, 285, 287, 289, 291] (by decide +kernel) (by decide +kernel)
def tc_8 : u_T := fun k => match k with
  | 0 => ("CoinsWarden$Tape", "bytes", "[I", true)
  | 1 => ("CoinsWarden$Tape", "length", "I", false)
  | 2 => ("CoinsWarden$Tape", "start", "I", false)
  | 3 => ("CoinsWarden$Tape", "stop", "I", false)
  | 4 => ("CoinsWarden$Tape", "kind", "I", false)
  | _ => ("CoinsWarden$Tape", "number", "I", false)
def ty_8 : Nat → FieldType := fun k => match k with
  | 0 => .array (.int)
  | 1 => .int
  | 2 => .int
  | 3 => .int
  | 4 => .int
  | _ => .int
theorem nm_8 : ∀ a, a < 6 → ∀ b, b < 6 → a ≠ b → (tc_8 a).2.1 ≠ (tc_8 b).2.1 := by decide +kernel
theorem tk_8 : ∀ k, k < 6 → parseFieldDescriptor (tc_8 k).2.2.1 = some (ty_8 k) := by decide +kernel
set_option maxRecDepth 20000 in
theorem li_8 : ∀ w ∈ u_ws "CoinsWarden$Tape" tc_8 6, w ∈ tblG := tg_list _ [127, 129, 131, 133, 135, 137] (by decide +kernel) (by decide +kernel)
def tc_9 : u_T := fun k => match k with
  | 0 => ("CoinsWarden$Text", "clauses", "I", true)
  | 1 => ("CoinsWarden$Text", "verbs", "[I", true)
  | 2 => ("CoinsWarden$Text", "sumFrom", "[I", true)
  | 3 => ("CoinsWarden$Text", "testFrom", "[I", true)
  | 4 => ("CoinsWarden$Text", "upTo", "[I", true)
  | 5 => ("CoinsWarden$Text", "steps", "[I", true)
  | _ => ("CoinsWarden$Text", "with", "[I", true)
def ty_9 : Nat → FieldType := fun k => match k with
  | 0 => .int
  | 1 => .array (.int)
  | 2 => .array (.int)
  | 3 => .array (.int)
  | 4 => .array (.int)
  | 5 => .array (.int)
  | _ => .array (.int)
theorem nm_9 : ∀ a, a < 7 → ∀ b, b < 7 → a ≠ b → (tc_9 a).2.1 ≠ (tc_9 b).2.1 := by decide +kernel
theorem tk_9 : ∀ k, k < 7 → parseFieldDescriptor (tc_9 k).2.2.1 = some (ty_9 k) := by decide +kernel
set_option maxRecDepth 20000 in
theorem li_9 : ∀ w ∈ u_ws "CoinsWarden$Text" tc_9 7, w ∈ tblG := tg_list _ [730, 732, 734, 736, 738, 740, 742] (by decide +kernel) (by decide +kernel)
def tc_10 : u_T := fun k => match k with
  | 0 => ("CoinsWarden$Warden", "reckoner", "LCoinsWarden$Reckoner;", true)
  | 1 => ("CoinsWarden$Warden", "law", "LCoinsWarden$Text;", false)
  | 2 => ("CoinsWarden$Warden", "must", "[I", true)
  | 3 => ("CoinsWarden$Warden", "comes", "[I", true)
  | _ => ("CoinsWarden$Warden", "parts", "[J", true)
def ty_10 : Nat → FieldType := fun k => match k with
  | 0 => .object "CoinsWarden$Reckoner"
  | 1 => .object "CoinsWarden$Text"
  | 2 => .array (.int)
  | 3 => .array (.int)
  | _ => .array (.long)
theorem nm_10 : ∀ a, a < 5 → ∀ b, b < 5 → a ≠ b → (tc_10 a).2.1 ≠ (tc_10 b).2.1 := by decide +kernel
theorem tk_10 : ∀ k, k < 5 → parseFieldDescriptor (tc_10 k).2.2.1 = some (ty_10 k) := by decide +kernel
set_option maxRecDepth 20000 in
theorem li_10 : ∀ w ∈ u_ws "CoinsWarden$Warden" tc_10 5, w ∈ tblG := tg_list _ [233, 235, 237, 239, 241] (by decide +kernel) (by decide +kernel)
def tc_11 : u_T := fun k => match k with
  | 0 => ("CoinsWarden", "now", "LCoinsWarden$State;", true)
  | 1 => ("CoinsWarden", "images", "[LCoinsWarden$State;", true)
  | 2 => ("CoinsWarden", "imageKept", "[Z", true)
  | 3 => ("CoinsWarden", "tape", "LCoinsWarden$Tape;", true)
  | 4 => ("CoinsWarden", "reading", "LCoinsWarden$Reading;", true)
  | 5 => ("CoinsWarden", "warden", "LCoinsWarden$Warden;", true)
  | 6 => ("CoinsWarden", "stay", "LCoinsWarden$Stay;", true)
  | 7 => ("CoinsWarden", "costs", "LCoinsWarden$Costs;", true)
  | 8 => ("CoinsWarden", "plans", "LCoinsWarden$Plans;", true)
  | 9 => ("CoinsWarden", "latestDay", "LCoinsWarden$Day;", true)
  | 10 => ("CoinsWarden", "chances", "LCoinsWarden$Game;", true)
  | 11 => ("CoinsWarden", "takings", "[J", true)
  | 12 => ("CoinsWarden", "mostTaken", "[J", true)
  | 13 => ("CoinsWarden", "refused", "[I", true)
  | 14 => ("CoinsWarden", "latestRefusal", "I", false)
  | 15 => ("CoinsWarden", "latestFault", "I", false)
  | _ => ("CoinsWarden", "latestTar", "I", false)
def ty_11 : Nat → FieldType := fun k => match k with
  | 0 => .object "CoinsWarden$State"
  | 1 => .array (.object "CoinsWarden$State")
  | 2 => .array (.boolean)
  | 3 => .object "CoinsWarden$Tape"
  | 4 => .object "CoinsWarden$Reading"
  | 5 => .object "CoinsWarden$Warden"
  | 6 => .object "CoinsWarden$Stay"
  | 7 => .object "CoinsWarden$Costs"
  | 8 => .object "CoinsWarden$Plans"
  | 9 => .object "CoinsWarden$Day"
  | 10 => .object "CoinsWarden$Game"
  | 11 => .array (.long)
  | 12 => .array (.long)
  | 13 => .array (.int)
  | 14 => .int
  | 15 => .int
  | _ => .int
theorem nm_11 : ∀ a, a < 17 → ∀ b, b < 17 → a ≠ b → (tc_11 a).2.1 ≠ (tc_11 b).2.1 := by decide +kernel
theorem tk_11 : ∀ k, k < 17 → parseFieldDescriptor (tc_11 k).2.2.1 = some (ty_11 k) := by decide +kernel
set_option maxRecDepth 20000 in
theorem li_11 : ∀ w ∈ u_ws "CoinsWarden" tc_11 17, w ∈ tblG := tg_list _ [444, 446, 448, 450, 452, 454, 456, 458, 460, 462, 464, 466, 468, 470, 472, 474, 476] (by decide +kernel) (by decide +kernel)
def tc_12 : u_T := fun k => match k with
  | 0 => ("CoinsWardenModel", "thrown", "I", false)
  | 1 => ("CoinsWardenModel", "status", "I", false)
  | 2 => ("CoinsWardenModel", "refusals", "[I", true)
  | 3 => ("CoinsWardenModel", "row", "[I", true)
  | 4 => ("CoinsWardenModel", "images", "[I", true)
  | 5 => ("CoinsWardenModel", "isKept", "[Z", true)
  | 6 => ("CoinsWardenModel", "tar", "I", false)
  | 7 => ("CoinsWardenModel", "tape", "[I", true)
  | 8 => ("CoinsWardenModel", "taped", "I", false)
  | 9 => ("CoinsWardenModel", "from", "I", false)
  | 10 => ("CoinsWardenModel", "to", "I", false)
  | 11 => ("CoinsWardenModel", "sort", "I", false)
  | 12 => ("CoinsWardenModel", "worth", "J", false)
  | 13 => ("CoinsWardenModel", "fault", "I", false)
  | 14 => ("CoinsWardenModel", "bad", "Z", false)
  | 15 => ("CoinsWardenModel", "ordered", "Z", false)
  | 16 => ("CoinsWardenModel", "nClauses", "I", false)
  | 17 => ("CoinsWardenModel", "nClause", "[I", true)
  | 18 => ("CoinsWardenModel", "nCode", "I", false)
  | 19 => ("CoinsWardenModel", "nOp", "[I", true)
  | 20 => ("CoinsWardenModel", "nArg", "[I", true)
  | 21 => ("CoinsWardenModel", "nLeaves", "I", false)
  | 22 => ("CoinsWardenModel", "pile", "[I", true)
  | 23 => ("CoinsWardenModel", "pileAt", "[I", true)
  | 24 => ("CoinsWardenModel", "piled", "I", false)
  | 25 => ("CoinsWardenModel", "opened", "I", false)
  | 26 => ("CoinsWardenModel", "words", "[J", true)
  | 27 => ("CoinsWardenModel", "orderWords", "[J", true)
  | 28 => ("CoinsWardenModel", "law", "I", false)
  | 29 => ("CoinsWardenModel", "set", "[J", true)
  | 30 => ("CoinsWardenModel", "now", "[J", true)
  | 31 => ("CoinsWardenModel", "rest", "[J", true)
  | 32 => ("CoinsWardenModel", "broken", "Z", false)
  | 33 => ("CoinsWardenModel", "value", "J", false)
  | 34 => ("CoinsWardenModel", "sum", "J", false)
  | 35 => ("CoinsWardenModel", "asked", "I", false)
  | 36 => ("CoinsWardenModel", "wardens", "I", false)
  | 37 => ("CoinsWardenModel", "comes", "[I", true)
  | 38 => ("CoinsWardenModel", "parts", "[J", true)
  | 39 => ("CoinsWardenModel", "fined", "[I", true)
  | 40 => ("CoinsWardenModel", "spared", "[Z", true)
  | 41 => ("CoinsWardenModel", "meanFine", "[J", true)
  | 42 => ("CoinsWardenModel", "leastAtFirst", "J", false)
  | 43 => ("CoinsWardenModel", "bestAtFirst", "I", false)
  | 44 => ("CoinsWardenModel", "alikeAtFirst", "I", false)
  | 45 => ("CoinsWardenModel", "downs", "[J", true)
  | 46 => ("CoinsWardenModel", "downCoins", "[I", true)
  | 47 => ("CoinsWardenModel", "runs", "[J", true)
  | 48 => ("CoinsWardenModel", "runCoins", "[I", true)
  | 49 => ("CoinsWardenModel", "states", "[J", true)
  | 50 => ("CoinsWardenModel", "next1", "[J", true)
  | 51 => ("CoinsWardenModel", "upper", "J", false)
  | 52 => ("CoinsWardenModel", "lower", "J", false)
  | 53 => ("CoinsWardenModel", "state", "J", false)
  | 54 => ("CoinsWardenModel", "drawn", "[I", true)
  | 55 => ("CoinsWardenModel", "drawnSlots", "[I", true)
  | 56 => ("CoinsWardenModel", "lefts", "[I", true)
  | 57 => ("CoinsWardenModel", "nDrawn", "I", false)
  | 58 => ("CoinsWardenModel", "isDay", "Z", false)
  | _ => ("CoinsWardenModel", "firsts", "[I", true)
def ty_12 : Nat → FieldType := fun k => match k with
  | 0 => .int
  | 1 => .int
  | 2 => .array (.int)
  | 3 => .array (.int)
  | 4 => .array (.int)
  | 5 => .array (.boolean)
  | 6 => .int
  | 7 => .array (.int)
  | 8 => .int
  | 9 => .int
  | 10 => .int
  | 11 => .int
  | 12 => .long
  | 13 => .int
  | 14 => .boolean
  | 15 => .boolean
  | 16 => .int
  | 17 => .array (.int)
  | 18 => .int
  | 19 => .array (.int)
  | 20 => .array (.int)
  | 21 => .int
  | 22 => .array (.int)
  | 23 => .array (.int)
  | 24 => .int
  | 25 => .int
  | 26 => .array (.long)
  | 27 => .array (.long)
  | 28 => .int
  | 29 => .array (.long)
  | 30 => .array (.long)
  | 31 => .array (.long)
  | 32 => .boolean
  | 33 => .long
  | 34 => .long
  | 35 => .int
  | 36 => .int
  | 37 => .array (.int)
  | 38 => .array (.long)
  | 39 => .array (.int)
  | 40 => .array (.boolean)
  | 41 => .array (.long)
  | 42 => .long
  | 43 => .int
  | 44 => .int
  | 45 => .array (.long)
  | 46 => .array (.int)
  | 47 => .array (.long)
  | 48 => .array (.int)
  | 49 => .array (.long)
  | 50 => .array (.long)
  | 51 => .long
  | 52 => .long
  | 53 => .long
  | 54 => .array (.int)
  | 55 => .array (.int)
  | 56 => .array (.int)
  | 57 => .int
  | 58 => .boolean
  | _ => .array (.int)
theorem nm_12 : ∀ a, a < 60 → ∀ b, b < 60 → a ≠ b → (tc_12 a).2.1 ≠ (tc_12 b).2.1 := by decide +kernel
theorem tk_12 : ∀ k, k < 60 → parseFieldDescriptor (tc_12 k).2.2.1 = some (ty_12 k) := by decide +kernel
set_option maxRecDepth 20000 in
theorem li_12 : ∀ w ∈ u_ws "CoinsWardenModel" tc_12 60, w ∈ tblG := tg_list _ [1232, 1234, 1236, 1238, 1240, 1242, 1244, 1246, 1248, 1250, 1252, 1254, 1256, 1258, 1260, 1262, 1264, 1266, 1268, 1270, 1272, 1274, 1276, 1278, 1280, 1282, 1284, 1286, 1288, 1290, 1292, 1294, 1296, 1298, 1300, 1302, 1304, 1306, 1308, 1310, 1312, 1314, 1316, 1318, 1320, 1322, 1324, 1326, 1328, 1330, 1332, 1334, 1336, 1338, 1340, 1342, 1344, 1346, 1348, 1350] (by decide +kernel) (by decide +kernel)
def classes : List vw_C := [("CoinsWarden$Costs", tc_0, 9), ("CoinsWarden$Day", tc_1, 11), ("CoinsWarden$Game", tc_2, 3), ("CoinsWarden$Plans", tc_3, 8), ("CoinsWarden$Reading", tc_4, 13), ("CoinsWarden$Reckoner", tc_5, 5), ("CoinsWarden$State", tc_6, 14), ("CoinsWarden$Stay", tc_7, 8), ("CoinsWarden$Tape", tc_8, 6), ("CoinsWarden$Text", tc_9, 7), ("CoinsWarden$Warden", tc_10, 5), ("CoinsWarden", tc_11, 17), ("CoinsWardenModel", tc_12, 60)]
/-- what holds of each class of the list -/
def okC (r : vw_C) : Prop := (∀ w ∈ u_ws r.1 r.2.1 r.2.2, w ∈ tblG) ∧ (∀ a, a < r.2.2 → ∀ b, b < r.2.2 → a ≠ b → (r.2.1 a).2.1 ≠ (r.2.1 b).2.1) ∧ ∃ ty : Nat → FieldType, ∀ k, k < r.2.2 → parseFieldDescriptor (r.2.1 k).2.2.1 = some (ty k)
theorem cl_all : ∀ r ∈ classes, okC r := List.forall_mem_cons.mpr ⟨⟨li_0, nm_0, _, tk_0⟩, List.forall_mem_cons.mpr ⟨⟨li_1, nm_1, _, tk_1⟩, List.forall_mem_cons.mpr ⟨⟨li_2, nm_2, _, tk_2⟩, List.forall_mem_cons.mpr ⟨⟨li_3, nm_3, _, tk_3⟩, List.forall_mem_cons.mpr ⟨⟨li_4, nm_4, _, tk_4⟩, List.forall_mem_cons.mpr ⟨⟨li_5, nm_5, _, tk_5⟩, List.forall_mem_cons.mpr ⟨⟨li_6, nm_6, _, tk_6⟩, List.forall_mem_cons.mpr ⟨⟨li_7, nm_7, _, tk_7⟩, List.forall_mem_cons.mpr ⟨⟨li_8, nm_8, _, tk_8⟩, List.forall_mem_cons.mpr ⟨⟨li_9, nm_9, _, tk_9⟩, List.forall_mem_cons.mpr ⟨⟨li_10, nm_10, _, tk_10⟩, List.forall_mem_cons.mpr ⟨⟨li_11, nm_11, _, tk_11⟩, List.forall_mem_cons.mpr ⟨⟨li_12, nm_12, _, tk_12⟩, fun _ h => absurd h List.not_mem_nil⟩⟩⟩⟩⟩⟩⟩⟩⟩⟩⟩⟩⟩
theorem cl_ok {ci : Nat} {r : vw_C} (h : classes[ci]? = some r) : okC r := cl_all r (List.mem_of_getElem? h)
