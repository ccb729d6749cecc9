-- ===== PART A: goes FIRST, ahead of the names: the tables' words, and 'selects' of the private methods out of them =====
/-- a private method of a class that the tables say can be made, by its rows of tables_1 -/
def lw_okq (q : MethodName × Nat) : Prop := (q.1.cls ≠ "java/lang/invoke/MethodHandle" ∧ q.1.cls ≠ "java/lang/invoke/VarHandle") ∧ Cond.instantiable q.1.cls q.2 ∈ tables_1 ∧ Cond.privateMethod q.1 ∈ tables_1 ∧ Cond.instanceMethod q.1 ∈ tables_1
theorem lw_p0 : lw_okq (⟨"ColdPlunge", "putBytes", "(I)V"⟩, 14) := ⟨⟨by decide +kernel, by decide +kernel⟩, List.mem_of_getElem? (i := 24) (by decide +kernel), List.mem_of_getElem? (i := 371) (by decide +kernel), List.mem_of_getElem? (i := 372) (by decide +kernel)⟩
theorem lw_p1 : lw_okq (⟨"ColdPlunge", "refuse", "(I)I"⟩, 14) := ⟨⟨by decide +kernel, by decide +kernel⟩, List.mem_of_getElem? (i := 24) (by decide +kernel), List.mem_of_getElem? (i := 379) (by decide +kernel), List.mem_of_getElem? (i := 380) (by decide +kernel)⟩
theorem lw_p2 : lw_okq (⟨"ColdPlunge$Tokens", "takeLetters", "()V"⟩, 5) := ⟨⟨by decide +kernel, by decide +kernel⟩, List.mem_of_getElem? (i := 144) (by decide +kernel), List.mem_of_getElem? (i := 405) (by decide +kernel), List.mem_of_getElem? (i := 406) (by decide +kernel)⟩
theorem lw_p3 : lw_okq (⟨"ColdPlunge$Tokens", "takeDigits", "()V"⟩, 5) := ⟨⟨by decide +kernel, by decide +kernel⟩, List.mem_of_getElem? (i := 144) (by decide +kernel), List.mem_of_getElem? (i := 412) (by decide +kernel), List.mem_of_getElem? (i := 413) (by decide +kernel)⟩
theorem lw_p4 : lw_okq (⟨"ColdPlunge$Reade\x72", "readLine", "()Z"⟩, 7) := ⟨⟨by decide +kernel, by decide +kernel⟩, List.mem_of_getElem? (i := 138) (by decide +kernel), List.mem_of_getElem? (i := 416) (by decide +kernel), List.mem_of_getElem? (i := 417) (by decide +kernel)⟩
theorem lw_p5 : lw_okq (⟨"ColdPlunge$Reade\x72", "meet", "(I)Z"⟩, 7) := ⟨⟨by decide +kernel, by decide +kernel⟩, List.mem_of_getElem? (i := 138) (by decide +kernel), List.mem_of_getElem? (i := 482) (by decide +kernel), List.mem_of_getElem? (i := 483) (by decide +kernel)⟩
theorem lw_p6 : lw_okq (⟨"ColdPlunge$Reade\x72", "readHead", "()Z"⟩, 7) := ⟨⟨by decide +kernel, by decide +kernel⟩, List.mem_of_getElem? (i := 138) (by decide +kernel), List.mem_of_getElem? (i := 488) (by decide +kernel), List.mem_of_getElem? (i := 489) (by decide +kernel)⟩
theorem lw_p7 : lw_okq (⟨"ColdPlunge$Reade\x72", "takeWord", "(Ljava/lang/String;)Z"⟩, 7) := ⟨⟨by decide +kernel, by decide +kernel⟩, List.mem_of_getElem? (i := 138) (by decide +kernel), List.mem_of_getElem? (i := 494) (by decide +kernel), List.mem_of_getElem? (i := 495) (by decide +kernel)⟩
theorem lw_p8 : lw_okq (⟨"ColdPlunge$Reade\x72", "takeWhole", "(II)Z"⟩, 7) := ⟨⟨by decide +kernel, by decide +kernel⟩, List.mem_of_getElem? (i := 138) (by decide +kernel), List.mem_of_getElem? (i := 498) (by decide +kernel), List.mem_of_getElem? (i := 499) (by decide +kernel)⟩
theorem lw_p9 : lw_okq (⟨"ColdPlunge$Reade\x72", "readBathe\x72", "()Z"⟩, 7) := ⟨⟨by decide +kernel, by decide +kernel⟩, List.mem_of_getElem? (i := 138) (by decide +kernel), List.mem_of_getElem? (i := 510) (by decide +kernel), List.mem_of_getElem? (i := 511) (by decide +kernel)⟩
theorem lw_p10 : lw_okq (⟨"ColdPlunge$Reade\x72", "numberOfName", "()I"⟩, 7) := ⟨⟨by decide +kernel, by decide +kernel⟩, List.mem_of_getElem? (i := 138) (by decide +kernel), List.mem_of_getElem? (i := 514) (by decide +kernel), List.mem_of_getElem? (i := 515) (by decide +kernel)⟩
theorem lw_p11 : lw_okq (⟨"ColdPlunge$Reade\x72", "takeKind", "(I)Z"⟩, 7) := ⟨⟨by decide +kernel, by decide +kernel⟩, List.mem_of_getElem? (i := 138) (by decide +kernel), List.mem_of_getElem? (i := 523) (by decide +kernel), List.mem_of_getElem? (i := 524) (by decide +kernel)⟩
theorem lw_p12 : lw_okq (⟨"ColdPlunge$Reade\x72", "readFelt", "()Z"⟩, 7) := ⟨⟨by decide +kernel, by decide +kernel⟩, List.mem_of_getElem? (i := 138) (by decide +kernel), List.mem_of_getElem? (i := 532) (by decide +kernel), List.mem_of_getElem? (i := 533) (by decide +kernel)⟩
theorem lw_p13 : lw_okq (⟨"ColdPlunge$Reade\x72", "takeBathe\x72", "(I)Z"⟩, 7) := ⟨⟨by decide +kernel, by decide +kernel⟩, List.mem_of_getElem? (i := 138) (by decide +kernel), List.mem_of_getElem? (i := 540) (by decide +kernel), List.mem_of_getElem? (i := 541) (by decide +kernel)⟩
theorem lw_p14 : lw_okq (⟨"ColdPlunge$Reade\x72", "readTie", "()Z"⟩, 7) := ⟨⟨by decide +kernel, by decide +kernel⟩, List.mem_of_getElem? (i := 138) (by decide +kernel), List.mem_of_getElem? (i := 544) (by decide +kernel), List.mem_of_getElem? (i := 545) (by decide +kernel)⟩
theorem lw_p15 : lw_okq (⟨"ColdPlunge$Reade\x72", "pairedWith", "(I)I"⟩, 7) := ⟨⟨by decide +kernel, by decide +kernel⟩, List.mem_of_getElem? (i := 138) (by decide +kernel), List.mem_of_getElem? (i := 550) (by decide +kernel), List.mem_of_getElem? (i := 551) (by decide +kernel)⟩
def lw_privs_1 : List (MethodName × Nat) := [(⟨"ColdPlunge", "putBytes", "(I)V"⟩, 14), (⟨"ColdPlunge", "refuse", "(I)I"⟩, 14), (⟨"ColdPlunge$Tokens", "takeLetters", "()V"⟩, 5), (⟨"ColdPlunge$Tokens", "takeDigits", "()V"⟩, 5), (⟨"ColdPlunge$Reade\x72", "readLine", "()Z"⟩, 7), (⟨"ColdPlunge$Reade\x72", "meet", "(I)Z"⟩, 7), (⟨"ColdPlunge$Reade\x72", "readHead", "()Z"⟩, 7), (⟨"ColdPlunge$Reade\x72", "takeWord", "(Ljava/lang/String;)Z"⟩, 7), (⟨"ColdPlunge$Reade\x72", "takeWhole", "(II)Z"⟩, 7), (⟨"ColdPlunge$Reade\x72", "readBathe\x72", "()Z"⟩, 7), (⟨"ColdPlunge$Reade\x72", "numberOfName", "()I"⟩, 7), (⟨"ColdPlunge$Reade\x72", "takeKind", "(I)Z"⟩, 7), (⟨"ColdPlunge$Reade\x72", "readFelt", "()Z"⟩, 7), (⟨"ColdPlunge$Reade\x72", "takeBathe\x72", "(I)Z"⟩, 7), (⟨"ColdPlunge$Reade\x72", "readTie", "()Z"⟩, 7), (⟨"ColdPlunge$Reade\x72", "pairedWith", "(I)I"⟩, 7)]
theorem lw_r1 : ∀ q ∈ lw_privs_1, lw_okq q := List.forall_mem_cons.mpr ⟨lw_p0, List.forall_mem_cons.mpr ⟨lw_p1, List.forall_mem_cons.mpr ⟨lw_p2, List.forall_mem_cons.mpr ⟨lw_p3, List.forall_mem_cons.mpr ⟨lw_p4, List.forall_mem_cons.mpr ⟨lw_p5, List.forall_mem_cons.mpr ⟨lw_p6, List.forall_mem_cons.mpr ⟨lw_p7, List.forall_mem_cons.mpr ⟨lw_p8, List.forall_mem_cons.mpr ⟨lw_p9, List.forall_mem_cons.mpr ⟨lw_p10, List.forall_mem_cons.mpr ⟨lw_p11, List.forall_mem_cons.mpr ⟨lw_p12, List.forall_mem_cons.mpr ⟨lw_p13, List.forall_mem_cons.mpr ⟨lw_p14, List.forall_mem_cons.mpr ⟨lw_p15, fun _ h => absurd h List.not_mem_nil⟩⟩⟩⟩⟩⟩⟩⟩⟩⟩⟩⟩⟩⟩⟩⟩
theorem lw_p16 : lw_okq (⟨"ColdPlunge$Reade\x72", "keepUnsure", "(II)V"⟩, 7) := ⟨⟨by decide +kernel, by decide +kernel⟩, List.mem_of_getElem? (i := 138) (by decide +kernel), List.mem_of_getElem? (i := 567) (by decide +kernel), List.mem_of_getElem? (i := 568) (by decide +kernel)⟩
theorem lw_p17 : lw_okq (⟨"ColdPlunge$Reade\x72", "goesOn", "()Z"⟩, 7) := ⟨⟨by decide +kernel, by decide +kernel⟩, List.mem_of_getElem? (i := 138) (by decide +kernel), List.mem_of_getElem? (i := 571) (by decide +kernel), List.mem_of_getElem? (i := 572) (by decide +kernel)⟩
theorem lw_p18 : lw_okq (⟨"ColdPlunge$Bath", "measure", "()V"⟩, 8) := ⟨⟨by decide +kernel, by decide +kernel⟩, List.mem_of_getElem? (i := 191) (by decide +kernel), List.mem_of_getElem? (i := 579) (by decide +kernel), List.mem_of_getElem? (i := 580) (by decide +kernel)⟩
theorem lw_p19 : lw_okq (⟨"ColdPlunge$Bath", "sortTies", "(I)V"⟩, 8) := ⟨⟨by decide +kernel, by decide +kernel⟩, List.mem_of_getElem? (i := 191) (by decide +kernel), List.mem_of_getElem? (i := 583) (by decide +kernel), List.mem_of_getElem? (i := 584) (by decide +kernel)⟩
theorem lw_p20 : lw_okq (⟨"ColdPlunge$Bath", "warmthOfJoining", "(II)I"⟩, 8) := ⟨⟨by decide +kernel, by decide +kernel⟩, List.mem_of_getElem? (i := 191) (by decide +kernel), List.mem_of_getElem? (i := 596) (by decide +kernel), List.mem_of_getElem? (i := 597) (by decide +kernel)⟩
theorem lw_p21 : lw_okq (⟨"ColdPlunge", "isBathe\x72", "(I)Z"⟩, 14) := ⟨⟨by decide +kernel, by decide +kernel⟩, List.mem_of_getElem? (i := 24) (by decide +kernel), List.mem_of_getElem? (i := 626) (by decide +kernel), List.mem_of_getElem? (i := 627) (by decide +kernel)⟩
theorem lw_p22 : lw_okq (⟨"ColdPlunge", "areTwo", "(II)Z"⟩, 14) := ⟨⟨by decide +kernel, by decide +kernel⟩, List.mem_of_getElem? (i := 24) (by decide +kernel), List.mem_of_getElem? (i := 648) (by decide +kernel), List.mem_of_getElem? (i := 649) (by decide +kernel)⟩
theorem lw_p23 : lw_okq (⟨"ColdPlunge", "isTold", "()Z"⟩, 14) := ⟨⟨by decide +kernel, by decide +kernel⟩, List.mem_of_getElem? (i := 24) (by decide +kernel), List.mem_of_getElem? (i := 657) (by decide +kernel), List.mem_of_getElem? (i := 658) (by decide +kernel)⟩
theorem lw_p24 : lw_okq (⟨"ColdPlunge", "isCompany", "(I)Z"⟩, 14) := ⟨⟨by decide +kernel, by decide +kernel⟩, List.mem_of_getElem? (i := 24) (by decide +kernel), List.mem_of_getElem? (i := 665) (by decide +kernel), List.mem_of_getElem? (i := 666) (by decide +kernel)⟩
theorem lw_p25 : lw_okq (⟨"ColdPlunge", "isNumbe\x72", "(II)Z"⟩, 14) := ⟨⟨by decide +kernel, by decide +kernel⟩, List.mem_of_getElem? (i := 24) (by decide +kernel), List.mem_of_getElem? (i := 673) (by decide +kernel), List.mem_of_getElem? (i := 674) (by decide +kernel)⟩
theorem lw_p26 : lw_okq (⟨"ColdPlunge", "isMany", "(I)Z"⟩, 14) := ⟨⟨by decide +kernel, by decide +kernel⟩, List.mem_of_getElem? (i := 24) (by decide +kernel), List.mem_of_getElem? (i := 764) (by decide +kernel), List.mem_of_getElem? (i := 765) (by decide +kernel)⟩
theorem lw_p27 : lw_okq (⟨"ColdPlunge$Companies", "stepsTo", "(LColdPlunge$Bath;I)J"⟩, 0) := ⟨⟨by decide +kernel, by decide +kernel⟩, List.mem_of_getElem? (i := 277) (by decide +kernel), List.mem_of_getElem? (i := 806) (by decide +kernel), List.mem_of_getElem? (i := 807) (by decide +kernel)⟩
theorem lw_p28 : lw_okq (⟨"ColdPlunge$Companies", "nextCome\x72", "(JII)I"⟩, 0) := ⟨⟨by decide +kernel, by decide +kernel⟩, List.mem_of_getElem? (i := 277) (by decide +kernel), List.mem_of_getElem? (i := 810) (by decide +kernel), List.mem_of_getElem? (i := 811) (by decide +kernel)⟩
theorem lw_p29 : lw_okq (⟨"ColdPlunge$Introductions", "isEnough", "(LColdPlunge$Bath;III)Z"⟩, 2) := ⟨⟨by decide +kernel, by decide +kernel⟩, List.mem_of_getElem? (i := 294) (by decide +kernel), List.mem_of_getElem? (i := 897) (by decide +kernel), List.mem_of_getElem? (i := 898) (by decide +kernel)⟩
theorem lw_p30 : lw_okq (⟨"ColdPlunge$Introductions", "canBeIntroduced", "(LColdPlunge$Bath;II)Z"⟩, 2) := ⟨⟨by decide +kernel, by decide +kernel⟩, List.mem_of_getElem? (i := 294) (by decide +kernel), List.mem_of_getElem? (i := 902) (by decide +kernel), List.mem_of_getElem? (i := 903) (by decide +kernel)⟩
theorem lw_p31 : lw_okq (⟨"ColdPlunge$Introductions", "isEnoughWith", "(LColdPlunge$Bath;IIII)Z"⟩, 2) := ⟨⟨by decide +kernel, by decide +kernel⟩, List.mem_of_getElem? (i := 294) (by decide +kernel), List.mem_of_getElem? (i := 906) (by decide +kernel), List.mem_of_getElem? (i := 907) (by decide +kernel)⟩
def lw_privs_2 : List (MethodName × Nat) := [(⟨"ColdPlunge$Reade\x72", "keepUnsure", "(II)V"⟩, 7), (⟨"ColdPlunge$Reade\x72", "goesOn", "()Z"⟩, 7), (⟨"ColdPlunge$Bath", "measure", "()V"⟩, 8), (⟨"ColdPlunge$Bath", "sortTies", "(I)V"⟩, 8), (⟨"ColdPlunge$Bath", "warmthOfJoining", "(II)I"⟩, 8), (⟨"ColdPlunge", "isBathe\x72", "(I)Z"⟩, 14), (⟨"ColdPlunge", "areTwo", "(II)Z"⟩, 14), (⟨"ColdPlunge", "isTold", "()Z"⟩, 14), (⟨"ColdPlunge", "isCompany", "(I)Z"⟩, 14), (⟨"ColdPlunge", "isNumbe\x72", "(II)Z"⟩, 14), (⟨"ColdPlunge", "isMany", "(I)Z"⟩, 14), (⟨"ColdPlunge$Companies", "stepsTo", "(LColdPlunge$Bath;I)J"⟩, 0), (⟨"ColdPlunge$Companies", "nextCome\x72", "(JII)I"⟩, 0), (⟨"ColdPlunge$Introductions", "isEnough", "(LColdPlunge$Bath;III)Z"⟩, 2), (⟨"ColdPlunge$Introductions", "canBeIntroduced", "(LColdPlunge$Bath;II)Z"⟩, 2), (⟨"ColdPlunge$Introductions", "isEnoughWith", "(LColdPlunge$Bath;IIII)Z"⟩, 2)]
theorem lw_r2 : ∀ q ∈ lw_privs_2, lw_okq q := List.forall_mem_cons.mpr ⟨lw_p16, List.forall_mem_cons.mpr ⟨lw_p17, List.forall_mem_cons.mpr ⟨lw_p18, List.forall_mem_cons.mpr ⟨lw_p19, List.forall_mem_cons.mpr ⟨lw_p20, List.forall_mem_cons.mpr ⟨lw_p21, List.forall_mem_cons.mpr ⟨lw_p22, List.forall_mem_cons.mpr ⟨lw_p23, List.forall_mem_cons.mpr ⟨lw_p24, List.forall_mem_cons.mpr ⟨lw_p25, List.forall_mem_cons.mpr ⟨lw_p26, List.forall_mem_cons.mpr ⟨lw_p27, List.forall_mem_cons.mpr ⟨lw_p28, List.forall_mem_cons.mpr ⟨lw_p29, List.forall_mem_cons.mpr ⟨lw_p30, List.forall_mem_cons.mpr ⟨lw_p31, fun _ h => absurd h List.not_mem_nil⟩⟩⟩⟩⟩⟩⟩⟩⟩⟩⟩⟩⟩⟩⟩⟩
theorem lw_p32 : lw_okq (⟨"ColdPlunge$Introductions", "toggle", "(II)V"⟩, 2) := ⟨⟨by decide +kernel, by decide +kernel⟩, List.mem_of_getElem? (i := 294) (by decide +kernel), List.mem_of_getElem? (i := 910) (by decide +kernel), List.mem_of_getElem? (i := 911) (by decide +kernel)⟩
theorem lw_p33 : lw_okq (⟨"ColdPlunge", "isLonging", "(I)Z"⟩, 14) := ⟨⟨by decide +kernel, by decide +kernel⟩, List.mem_of_getElem? (i := 24) (by decide +kernel), List.mem_of_getElem? (i := 1051) (by decide +kernel), List.mem_of_getElem? (i := 1052) (by decide +kernel)⟩
theorem lw_p34 : lw_okq (⟨"ColdPlunge", "areMornings", "(II)Z"⟩, 14) := ⟨⟨by decide +kernel, by decide +kernel⟩, List.mem_of_getElem? (i := 24) (by decide +kernel), List.mem_of_getElem? (i := 1116) (by decide +kernel), List.mem_of_getElem? (i := 1117) (by decide +kernel)⟩
theorem lw_p35 : lw_okq (⟨"ColdPlunge$Visitors", "drawCompany", "(LColdPlunge$Told;)I"⟩, 1) := ⟨⟨by decide +kernel, by decide +kernel⟩, List.mem_of_getElem? (i := 314) (by decide +kernel), List.mem_of_getElem? (i := 1125) (by decide +kernel), List.mem_of_getElem? (i := 1126) (by decide +kernel)⟩
theorem lw_p36 : lw_okq (⟨"ColdPlunge", "turn", "(II)I"⟩, 14) := ⟨⟨by decide +kernel, by decide +kernel⟩, List.mem_of_getElem? (i := 24) (by decide +kernel), List.mem_of_getElem? (i := 1144) (by decide +kernel), List.mem_of_getElem? (i := 1145) (by decide +kernel)⟩
theorem lw_p37 : lw_okq (⟨"ColdPlunge", "pairsIn", "([I)I"⟩, 14) := ⟨⟨by decide +kernel, by decide +kernel⟩, List.mem_of_getElem? (i := 24) (by decide +kernel), List.mem_of_getElem? (i := 1196) (by decide +kernel), List.mem_of_getElem? (i := 1197) (by decide +kernel)⟩
theorem lw_p38 : lw_okq (⟨"java/lang/Throwable", "fillInStackTrace", "(I)Ljava/lang/Throwable;"⟩, 6) := ⟨⟨by decide +kernel, by decide +kernel⟩, List.mem_of_getElem? (i := 1252) (by decide +kernel), List.mem_of_getElem? (i := 1250) (by decide +kernel), List.mem_of_getElem? (i := 1251) (by decide +kernel)⟩
theorem lw_p39 : lw_okq (⟨"ColdPlungeModel", "good", "()V"⟩, 41) := ⟨⟨by decide +kernel, by decide +kernel⟩, List.mem_of_getElem? (i := 1281) (by decide +kernel), List.mem_of_getElem? (i := 1423) (by decide +kernel), List.mem_of_getElem? (i := 1424) (by decide +kernel)⟩
theorem lw_p40 : lw_okq (⟨"ColdPlungeModel", "no", "(I)I"⟩, 41) := ⟨⟨by decide +kernel, by decide +kernel⟩, List.mem_of_getElem? (i := 1281) (by decide +kernel), List.mem_of_getElem? (i := 1430) (by decide +kernel), List.mem_of_getElem? (i := 1431) (by decide +kernel)⟩
theorem lw_p41 : lw_okq (⟨"ColdPlungeModel", "next", "()V"⟩, 41) := ⟨⟨by decide +kernel, by decide +kernel⟩, List.mem_of_getElem? (i := 1281) (by decide +kernel), List.mem_of_getElem? (i := 1434) (by decide +kernel), List.mem_of_getElem? (i := 1435) (by decide +kernel)⟩
theorem lw_p42 : lw_okq (⟨"ColdPlungeModel", "see", "(I)I"⟩, 41) := ⟨⟨by decide +kernel, by decide +kernel⟩, List.mem_of_getElem? (i := 1281) (by decide +kernel), List.mem_of_getElem? (i := 1438) (by decide +kernel), List.mem_of_getElem? (i := 1439) (by decide +kernel)⟩
theorem lw_p43 : lw_okq (⟨"ColdPlungeModel", "readLine", "()V"⟩, 41) := ⟨⟨by decide +kernel, by decide +kernel⟩, List.mem_of_getElem? (i := 1281) (by decide +kernel), List.mem_of_getElem? (i := 1448) (by decide +kernel), List.mem_of_getElem? (i := 1449) (by decide +kernel)⟩
theorem lw_p44 : lw_okq (⟨"ColdPlungeModel", "isWord", "(Ljava/lang/String;)Z"⟩, 41) := ⟨⟨by decide +kernel, by decide +kernel⟩, List.mem_of_getElem? (i := 1281) (by decide +kernel), List.mem_of_getElem? (i := 1453) (by decide +kernel), List.mem_of_getElem? (i := 1454) (by decide +kernel)⟩
theorem lw_p45 : lw_okq (⟨"ColdPlungeModel", "plungeLine", "()V"⟩, 41) := ⟨⟨by decide +kernel, by decide +kernel⟩, List.mem_of_getElem? (i := 1281) (by decide +kernel), List.mem_of_getElem? (i := 1459) (by decide +kernel), List.mem_of_getElem? (i := 1460) (by decide +kernel)⟩
theorem lw_p46 : lw_okq (⟨"ColdPlungeModel", "wrong", "(II)V"⟩, 41) := ⟨⟨by decide +kernel, by decide +kernel⟩, List.mem_of_getElem? (i := 1281) (by decide +kernel), List.mem_of_getElem? (i := 1463) (by decide +kernel), List.mem_of_getElem? (i := 1464) (by decide +kernel)⟩
theorem lw_p47 : lw_okq (⟨"ColdPlungeModel", "afte\x72", "(Ljava/lang/String;II)I"⟩, 41) := ⟨⟨by decide +kernel, by decide +kernel⟩, List.mem_of_getElem? (i := 1281) (by decide +kernel), List.mem_of_getElem? (i := 1468) (by decide +kernel), List.mem_of_getElem? (i := 1469) (by decide +kernel)⟩
def lw_privs_3 : List (MethodName × Nat) := [(⟨"ColdPlunge$Introductions", "toggle", "(II)V"⟩, 2), (⟨"ColdPlunge", "isLonging", "(I)Z"⟩, 14), (⟨"ColdPlunge", "areMornings", "(II)Z"⟩, 14), (⟨"ColdPlunge$Visitors", "drawCompany", "(LColdPlunge$Told;)I"⟩, 1), (⟨"ColdPlunge", "turn", "(II)I"⟩, 14), (⟨"ColdPlunge", "pairsIn", "([I)I"⟩, 14), (⟨"java/lang/Throwable", "fillInStackTrace", "(I)Ljava/lang/Throwable;"⟩, 6), (⟨"ColdPlungeModel", "good", "()V"⟩, 41), (⟨"ColdPlungeModel", "no", "(I)I"⟩, 41), (⟨"ColdPlungeModel", "next", "()V"⟩, 41), (⟨"ColdPlungeModel", "see", "(I)I"⟩, 41), (⟨"ColdPlungeModel", "readLine", "()V"⟩, 41), (⟨"ColdPlungeModel", "isWord", "(Ljava/lang/String;)Z"⟩, 41), (⟨"ColdPlungeModel", "plungeLine", "()V"⟩, 41), (⟨"ColdPlungeModel", "wrong", "(II)V"⟩, 41), (⟨"ColdPlungeModel", "afte\x72", "(Ljava/lang/String;II)I"⟩, 41)]
theorem lw_r3 : ∀ q ∈ lw_privs_3, lw_okq q := List.forall_mem_cons.mpr ⟨lw_p32, List.forall_mem_cons.mpr ⟨lw_p33, List.forall_mem_cons.mpr ⟨lw_p34, List.forall_mem_cons.mpr ⟨lw_p35, List.forall_mem_cons.mpr ⟨lw_p36, List.forall_mem_cons.mpr ⟨lw_p37, List.forall_mem_cons.mpr ⟨lw_p38, List.forall_mem_cons.mpr ⟨lw_p39, List.forall_mem_cons.mpr ⟨lw_p40, List.forall_mem_cons.mpr ⟨lw_p41, List.forall_mem_cons.mpr ⟨lw_p42, List.forall_mem_cons.mpr ⟨lw_p43, List.forall_mem_cons.mpr ⟨lw_p44, List.forall_mem_cons.mpr ⟨lw_p45, List.forall_mem_cons.mpr ⟨lw_p46, List.forall_mem_cons.mpr ⟨lw_p47, fun _ h => absurd h List.not_mem_nil⟩⟩⟩⟩⟩⟩⟩⟩⟩⟩⟩⟩⟩⟩⟩⟩
theorem lw_p48 : lw_okq (⟨"ColdPlungeModel", "must", "(Ljava/lang/String;)V"⟩, 41) := ⟨⟨by decide +kernel, by decide +kernel⟩, List.mem_of_getElem? (i := 1281) (by decide +kernel), List.mem_of_getElem? (i := 1472) (by decide +kernel), List.mem_of_getElem? (i := 1473) (by decide +kernel)⟩
theorem lw_p49 : lw_okq (⟨"ColdPlungeModel", "takesWord", "(Ljava/lang/String;)Z"⟩, 41) := ⟨⟨by decide +kernel, by decide +kernel⟩, List.mem_of_getElem? (i := 1281) (by decide +kernel), List.mem_of_getElem? (i := 1476) (by decide +kernel), List.mem_of_getElem? (i := 1477) (by decide +kernel)⟩
theorem lw_p50 : lw_okq (⟨"ColdPlungeModel", "numbe\x72", "(II)I"⟩, 41) := ⟨⟨by decide +kernel, by decide +kernel⟩, List.mem_of_getElem? (i := 1281) (by decide +kernel), List.mem_of_getElem? (i := 1480) (by decide +kernel), List.mem_of_getElem? (i := 1481) (by decide +kernel)⟩
theorem lw_p51 : lw_okq (⟨"ColdPlungeModel", "begins", "(Ljava/lang/String;Z)Z"⟩, 41) := ⟨⟨by decide +kernel, by decide +kernel⟩, List.mem_of_getElem? (i := 1281) (by decide +kernel), List.mem_of_getElem? (i := 1488) (by decide +kernel), List.mem_of_getElem? (i := 1489) (by decide +kernel)⟩
theorem lw_p52 : lw_okq (⟨"ColdPlungeModel", "pass", "()V"⟩, 41) := ⟨⟨by decide +kernel, by decide +kernel⟩, List.mem_of_getElem? (i := 1281) (by decide +kernel), List.mem_of_getElem? (i := 1492) (by decide +kernel), List.mem_of_getElem? (i := 1493) (by decide +kernel)⟩
theorem lw_p53 : lw_okq (⟨"ColdPlungeModel", "batherLine", "()V"⟩, 41) := ⟨⟨by decide +kernel, by decide +kernel⟩, List.mem_of_getElem? (i := 1281) (by decide +kernel), List.mem_of_getElem? (i := 1496) (by decide +kernel), List.mem_of_getElem? (i := 1497) (by decide +kernel)⟩
theorem lw_p54 : lw_okq (⟨"ColdPlungeModel", "newName", "(I)V"⟩, 41) := ⟨⟨by decide +kernel, by decide +kernel⟩, List.mem_of_getElem? (i := 1281) (by decide +kernel), List.mem_of_getElem? (i := 1500) (by decide +kernel), List.mem_of_getElem? (i := 1501) (by decide +kernel)⟩
theorem lw_p55 : lw_okq (⟨"ColdPlungeModel", "mustName", "()V"⟩, 41) := ⟨⟨by decide +kernel, by decide +kernel⟩, List.mem_of_getElem? (i := 1281) (by decide +kernel), List.mem_of_getElem? (i := 1504) (by decide +kernel), List.mem_of_getElem? (i := 1505) (by decide +kernel)⟩
theorem lw_p56 : lw_okq (⟨"ColdPlungeModel", "find", "()I"⟩, 41) := ⟨⟨by decide +kernel, by decide +kernel⟩, List.mem_of_getElem? (i := 1281) (by decide +kernel), List.mem_of_getElem? (i := 1512) (by decide +kernel), List.mem_of_getElem? (i := 1513) (by decide +kernel)⟩
theorem lw_p57 : lw_okq (⟨"ColdPlungeModel", "pairLine", "(II)V"⟩, 41) := ⟨⟨by decide +kernel, by decide +kernel⟩, List.mem_of_getElem? (i := 1281) (by decide +kernel), List.mem_of_getElem? (i := 1520) (by decide +kernel), List.mem_of_getElem? (i := 1521) (by decide +kernel)⟩
theorem lw_p58 : lw_okq (⟨"ColdPlungeModel", "batherHere", "()I"⟩, 41) := ⟨⟨by decide +kernel, by decide +kernel⟩, List.mem_of_getElem? (i := 1281) (by decide +kernel), List.mem_of_getElem? (i := 1524) (by decide +kernel), List.mem_of_getElem? (i := 1525) (by decide +kernel)⟩
theorem lw_p59 : lw_okq (⟨"ColdPlungeModel", "tie", "([IIIII)V"⟩, 41) := ⟨⟨by decide +kernel, by decide +kernel⟩, List.mem_of_getElem? (i := 1281) (by decide +kernel), List.mem_of_getElem? (i := 1532) (by decide +kernel), List.mem_of_getElem? (i := 1533) (by decide +kernel)⟩
theorem lw_p60 : lw_okq (⟨"ColdPlungeModel", "feltLine", "()V"⟩, 41) := ⟨⟨by decide +kernel, by decide +kernel⟩, List.mem_of_getElem? (i := 1281) (by decide +kernel), List.mem_of_getElem? (i := 1536) (by decide +kernel), List.mem_of_getElem? (i := 1537) (by decide +kernel)⟩
theorem lw_p61 : lw_okq (⟨"ColdPlungeModel", "asTold", "([I)V"⟩, 41) := ⟨⟨by decide +kernel, by decide +kernel⟩, List.mem_of_getElem? (i := 1281) (by decide +kernel), List.mem_of_getElem? (i := 1543) (by decide +kernel), List.mem_of_getElem? (i := 1544) (by decide +kernel)⟩
theorem lw_p62 : lw_okq (⟨"ColdPlungeModel", "isBathe\x72", "(I)Z"⟩, 41) := ⟨⟨by decide +kernel, by decide +kernel⟩, List.mem_of_getElem? (i := 1281) (by decide +kernel), List.mem_of_getElem? (i := 1559) (by decide +kernel), List.mem_of_getElem? (i := 1560) (by decide +kernel)⟩
theorem lw_p63 : lw_okq (⟨"ColdPlungeModel", "needOf", "(I)I"⟩, 41) := ⟨⟨by decide +kernel, by decide +kernel⟩, List.mem_of_getElem? (i := 1281) (by decide +kernel), List.mem_of_getElem? (i := 1563) (by decide +kernel), List.mem_of_getElem? (i := 1564) (by decide +kernel)⟩
def lw_privs_4 : List (MethodName × Nat) := [(⟨"ColdPlungeModel", "must", "(Ljava/lang/String;)V"⟩, 41), (⟨"ColdPlungeModel", "takesWord", "(Ljava/lang/String;)Z"⟩, 41), (⟨"ColdPlungeModel", "numbe\x72", "(II)I"⟩, 41), (⟨"ColdPlungeModel", "begins", "(Ljava/lang/String;Z)Z"⟩, 41), (⟨"ColdPlungeModel", "pass", "()V"⟩, 41), (⟨"ColdPlungeModel", "batherLine", "()V"⟩, 41), (⟨"ColdPlungeModel", "newName", "(I)V"⟩, 41), (⟨"ColdPlungeModel", "mustName", "()V"⟩, 41), (⟨"ColdPlungeModel", "find", "()I"⟩, 41), (⟨"ColdPlungeModel", "pairLine", "(II)V"⟩, 41), (⟨"ColdPlungeModel", "batherHere", "()I"⟩, 41), (⟨"ColdPlungeModel", "tie", "([IIIII)V"⟩, 41), (⟨"ColdPlungeModel", "feltLine", "()V"⟩, 41), (⟨"ColdPlungeModel", "asTold", "([I)V"⟩, 41), (⟨"ColdPlungeModel", "isBathe\x72", "(I)Z"⟩, 41), (⟨"ColdPlungeModel", "needOf", "(I)I"⟩, 41)]
theorem lw_r4 : ∀ q ∈ lw_privs_4, lw_okq q := List.forall_mem_cons.mpr ⟨lw_p48, List.forall_mem_cons.mpr ⟨lw_p49, List.forall_mem_cons.mpr ⟨lw_p50, List.forall_mem_cons.mpr ⟨lw_p51, List.forall_mem_cons.mpr ⟨lw_p52, List.forall_mem_cons.mpr ⟨lw_p53, List.forall_mem_cons.mpr ⟨lw_p54, List.forall_mem_cons.mpr ⟨lw_p55, List.forall_mem_cons.mpr ⟨lw_p56, List.forall_mem_cons.mpr ⟨lw_p57, List.forall_mem_cons.mpr ⟨lw_p58, List.forall_mem_cons.mpr ⟨lw_p59, List.forall_mem_cons.mpr ⟨lw_p60, List.forall_mem_cons.mpr ⟨lw_p61, List.forall_mem_cons.mpr ⟨lw_p62, List.forall_mem_cons.mpr ⟨lw_p63, fun _ h => absurd h List.not_mem_nil⟩⟩⟩⟩⟩⟩⟩⟩⟩⟩⟩⟩⟩⟩⟩⟩
theorem lw_p64 : lw_okq (⟨"ColdPlungeModel", "knownBy", "([II)I"⟩, 41) := ⟨⟨by decide +kernel, by decide +kernel⟩, List.mem_of_getElem? (i := 1281) (by decide +kernel), List.mem_of_getElem? (i := 1567) (by decide +kernel), List.mem_of_getElem? (i := 1568) (by decide +kernel)⟩
theorem lw_p65 : lw_okq (⟨"ColdPlungeModel", "foesOf", "(I)I"⟩, 41) := ⟨⟨by decide +kernel, by decide +kernel⟩, List.mem_of_getElem? (i := 1281) (by decide +kernel), List.mem_of_getElem? (i := 1574) (by decide +kernel), List.mem_of_getElem? (i := 1575) (by decide +kernel)⟩
theorem lw_p66 : lw_okq (⟨"ColdPlungeModel", "bearersOf", "([II)I"⟩, 41) := ⟨⟨by decide +kernel, by decide +kernel⟩, List.mem_of_getElem? (i := 1281) (by decide +kernel), List.mem_of_getElem? (i := 1578) (by decide +kernel), List.mem_of_getElem? (i := 1579) (by decide +kernel)⟩
theorem lw_p67 : lw_okq (⟨"ColdPlungeModel", "warmthOf", "([II)I"⟩, 41) := ⟨⟨by decide +kernel, by decide +kernel⟩, List.mem_of_getElem? (i := 1281) (by decide +kernel), List.mem_of_getElem? (i := 1582) (by decide +kernel), List.mem_of_getElem? (i := 1583) (by decide +kernel)⟩
theorem lw_p68 : lw_okq (⟨"ColdPlungeModel", "warmthBy", "([III)I"⟩, 41) := ⟨⟨by decide +kernel, by decide +kernel⟩, List.mem_of_getElem? (i := 1281) (by decide +kernel), List.mem_of_getElem? (i := 1586) (by decide +kernel), List.mem_of_getElem? (i := 1587) (by decide +kernel)⟩
theorem lw_p69 : lw_okq (⟨"ColdPlungeModel", "areTwo", "(II)Z"⟩, 41) := ⟨⟨by decide +kernel, by decide +kernel⟩, List.mem_of_getElem? (i := 1281) (by decide +kernel), List.mem_of_getElem? (i := 1594) (by decide +kernel), List.mem_of_getElem? (i := 1595) (by decide +kernel)⟩
theorem lw_p70 : lw_okq (⟨"ColdPlungeModel", "setWhy", "(I)I"⟩, 41) := ⟨⟨by decide +kernel, by decide +kernel⟩, List.mem_of_getElem? (i := 1281) (by decide +kernel), List.mem_of_getElem? (i := 1606) (by decide +kernel), List.mem_of_getElem? (i := 1607) (by decide +kernel)⟩
theorem lw_p71 : lw_okq (⟨"ColdPlungeModel", "all", "()I"⟩, 41) := ⟨⟨by decide +kernel, by decide +kernel⟩, List.mem_of_getElem? (i := 1281) (by decide +kernel), List.mem_of_getElem? (i := 1610) (by decide +kernel), List.mem_of_getElem? (i := 1611) (by decide +kernel)⟩
theorem lw_p72 : lw_okq (⟨"ColdPlungeModel", "why", "(ZZ)I"⟩, 41) := ⟨⟨by decide +kernel, by decide +kernel⟩, List.mem_of_getElem? (i := 1281) (by decide +kernel), List.mem_of_getElem? (i := 1614) (by decide +kernel), List.mem_of_getElem? (i := 1615) (by decide +kernel)⟩
theorem lw_p73 : lw_okq (⟨"ColdPlungeModel", "staysOf", "(I)I"⟩, 41) := ⟨⟨by decide +kernel, by decide +kernel⟩, List.mem_of_getElem? (i := 1281) (by decide +kernel), List.mem_of_getElem? (i := 1630) (by decide +kernel), List.mem_of_getElem? (i := 1631) (by decide +kernel)⟩
theorem lw_p74 : lw_okq (⟨"ColdPlungeModel", "isSnug", "([II)Z"⟩, 41) := ⟨⟨by decide +kernel, by decide +kernel⟩, List.mem_of_getElem? (i := 1281) (by decide +kernel), List.mem_of_getElem? (i := 1634) (by decide +kernel), List.mem_of_getElem? (i := 1635) (by decide +kernel)⟩
theorem lw_p75 : lw_okq (⟨"ColdPlungeModel", "doesBea\x72", "(II)Z"⟩, 41) := ⟨⟨by decide +kernel, by decide +kernel⟩, List.mem_of_getElem? (i := 1281) (by decide +kernel), List.mem_of_getElem? (i := 1646) (by decide +kernel), List.mem_of_getElem? (i := 1647) (by decide +kernel)⟩
theorem lw_p76 : lw_okq (⟨"ColdPlungeModel", "mostOf", "(I)I"⟩, 41) := ⟨⟨by decide +kernel, by decide +kernel⟩, List.mem_of_getElem? (i := 1281) (by decide +kernel), List.mem_of_getElem? (i := 1669) (by decide +kernel), List.mem_of_getElem? (i := 1670) (by decide +kernel)⟩
theorem lw_p77 : lw_okq (⟨"ColdPlungeModel", "extreme", "(II)I"⟩, 41) := ⟨⟨by decide +kernel, by decide +kernel⟩, List.mem_of_getElem? (i := 1281) (by decide +kernel), List.mem_of_getElem? (i := 1681) (by decide +kernel), List.mem_of_getElem? (i := 1682) (by decide +kernel)⟩
theorem lw_p78 : lw_okq (⟨"ColdPlungeModel", "turnedBy", "(IZ)I"⟩, 41) := ⟨⟨by decide +kernel, by decide +kernel⟩, List.mem_of_getElem? (i := 1281) (by decide +kernel), List.mem_of_getElem? (i := 1701) (by decide +kernel), List.mem_of_getElem? (i := 1702) (by decide +kernel)⟩
theorem lw_p79 : lw_okq (⟨"ColdPlungeModel", "changeOf", "(I)I"⟩, 41) := ⟨⟨by decide +kernel, by decide +kernel⟩, List.mem_of_getElem? (i := 1281) (by decide +kernel), List.mem_of_getElem? (i := 1713) (by decide +kernel), List.mem_of_getElem? (i := 1714) (by decide +kernel)⟩
def lw_privs_5 : List (MethodName × Nat) := [(⟨"ColdPlungeModel", "knownBy", "([II)I"⟩, 41), (⟨"ColdPlungeModel", "foesOf", "(I)I"⟩, 41), (⟨"ColdPlungeModel", "bearersOf", "([II)I"⟩, 41), (⟨"ColdPlungeModel", "warmthOf", "([II)I"⟩, 41), (⟨"ColdPlungeModel", "warmthBy", "([III)I"⟩, 41), (⟨"ColdPlungeModel", "areTwo", "(II)Z"⟩, 41), (⟨"ColdPlungeModel", "setWhy", "(I)I"⟩, 41), (⟨"ColdPlungeModel", "all", "()I"⟩, 41), (⟨"ColdPlungeModel", "why", "(ZZ)I"⟩, 41), (⟨"ColdPlungeModel", "staysOf", "(I)I"⟩, 41), (⟨"ColdPlungeModel", "isSnug", "([II)Z"⟩, 41), (⟨"ColdPlungeModel", "doesBea\x72", "(II)Z"⟩, 41), (⟨"ColdPlungeModel", "mostOf", "(I)I"⟩, 41), (⟨"ColdPlungeModel", "extreme", "(II)I"⟩, 41), (⟨"ColdPlungeModel", "turnedBy", "(IZ)I"⟩, 41), (⟨"ColdPlungeModel", "changeOf", "(I)I"⟩, 41)]
theorem lw_r5 : ∀ q ∈ lw_privs_5, lw_okq q := List.forall_mem_cons.mpr ⟨lw_p64, List.forall_mem_cons.mpr ⟨lw_p65, List.forall_mem_cons.mpr ⟨lw_p66, List.forall_mem_cons.mpr ⟨lw_p67, List.forall_mem_cons.mpr ⟨lw_p68, List.forall_mem_cons.mpr ⟨lw_p69, List.forall_mem_cons.mpr ⟨lw_p70, List.forall_mem_cons.mpr ⟨lw_p71, List.forall_mem_cons.mpr ⟨lw_p72, List.forall_mem_cons.mpr ⟨lw_p73, List.forall_mem_cons.mpr ⟨lw_p74, List.forall_mem_cons.mpr ⟨lw_p75, List.forall_mem_cons.mpr ⟨lw_p76, List.forall_mem_cons.mpr ⟨lw_p77, List.forall_mem_cons.mpr ⟨lw_p78, List.forall_mem_cons.mpr ⟨lw_p79, fun _ h => absurd h List.not_mem_nil⟩⟩⟩⟩⟩⟩⟩⟩⟩⟩⟩⟩⟩⟩⟩⟩
theorem lw_p80 : lw_okq (⟨"ColdPlungeModel", "tryOrde\x72", "(III)Z"⟩, 41) := ⟨⟨by decide +kernel, by decide +kernel⟩, List.mem_of_getElem? (i := 1281) (by decide +kernel), List.mem_of_getElem? (i := 1725) (by decide +kernel), List.mem_of_getElem? (i := 1726) (by decide +kernel)⟩
theorem lw_p81 : lw_okq (⟨"ColdPlungeModel", "seekBaths", "()Z"⟩, 41) := ⟨⟨by decide +kernel, by decide +kernel⟩, List.mem_of_getElem? (i := 1281) (by decide +kernel), List.mem_of_getElem? (i := 1737) (by decide +kernel), List.mem_of_getElem? (i := 1738) (by decide +kernel)⟩
theorem lw_p82 : lw_okq (⟨"ColdPlungeModel", "tryBaths", "(II)V"⟩, 41) := ⟨⟨by decide +kernel, by decide +kernel⟩, List.mem_of_getElem? (i := 1281) (by decide +kernel), List.mem_of_getElem? (i := 1742) (by decide +kernel), List.mem_of_getElem? (i := 1743) (by decide +kernel)⟩
theorem lw_p83 : lw_okq (⟨"ColdPlungeModel", "canMeetOn", "([III)Z"⟩, 41) := ⟨⟨by decide +kernel, by decide +kernel⟩, List.mem_of_getElem? (i := 1281) (by decide +kernel), List.mem_of_getElem? (i := 1754) (by decide +kernel), List.mem_of_getElem? (i := 1755) (by decide +kernel)⟩
theorem lw_p84 : lw_okq (⟨"ColdPlungeModel", "fewestOf", "(I)I"⟩, 41) := ⟨⟨by decide +kernel, by decide +kernel⟩, List.mem_of_getElem? (i := 1281) (by decide +kernel), List.mem_of_getElem? (i := 1766) (by decide +kernel), List.mem_of_getElem? (i := 1767) (by decide +kernel)⟩
theorem lw_p85 : lw_okq (⟨"ColdPlungeModel", "tryMeetings", "(IIZ)Z"⟩, 41) := ⟨⟨by decide +kernel, by decide +kernel⟩, List.mem_of_getElem? (i := 1281) (by decide +kernel), List.mem_of_getElem? (i := 1770) (by decide +kernel), List.mem_of_getElem? (i := 1771) (by decide +kernel)⟩
theorem lw_p86 : lw_okq (⟨"ColdPlungeModel", "spread", "(I)I"⟩, 41) := ⟨⟨by decide +kernel, by decide +kernel⟩, List.mem_of_getElem? (i := 1281) (by decide +kernel), List.mem_of_getElem? (i := 1782) (by decide +kernel), List.mem_of_getElem? (i := 1783) (by decide +kernel)⟩
theorem lw_p87 : lw_okq (⟨"ColdPlungeModel", "circleOf", "(I)I"⟩, 41) := ⟨⟨by decide +kernel, by decide +kernel⟩, List.mem_of_getElem? (i := 1281) (by decide +kernel), List.mem_of_getElem? (i := 1790) (by decide +kernel), List.mem_of_getElem? (i := 1791) (by decide +kernel)⟩
theorem lw_p88 : lw_okq (⟨"ColdPlungeModel", "seekSets", "(I)I"⟩, 41) := ⟨⟨by decide +kernel, by decide +kernel⟩, List.mem_of_getElem? (i := 1281) (by decide +kernel), List.mem_of_getElem? (i := 1798) (by decide +kernel), List.mem_of_getElem? (i := 1799) (by decide +kernel)⟩
theorem lw_p89 : lw_okq (⟨"ColdPlungeModel", "wrongFelt", "(II)I"⟩, 41) := ⟨⟨by decide +kernel, by decide +kernel⟩, List.mem_of_getElem? (i := 1281) (by decide +kernel), List.mem_of_getElem? (i := 1802) (by decide +kernel), List.mem_of_getElem? (i := 1803) (by decide +kernel)⟩
theorem lw_p90 : lw_okq (⟨"ColdPlungeModel", "askOf", "()I"⟩, 41) := ⟨⟨by decide +kernel, by decide +kernel⟩, List.mem_of_getElem? (i := 1281) (by decide +kernel), List.mem_of_getElem? (i := 1822) (by decide +kernel), List.mem_of_getElem? (i := 1823) (by decide +kernel)⟩
theorem lw_p91 : lw_okq (⟨"ColdPlungeModel", "leavesOf", "(I)I"⟩, 41) := ⟨⟨by decide +kernel, by decide +kernel⟩, List.mem_of_getElem? (i := 1281) (by decide +kernel), List.mem_of_getElem? (i := 1826) (by decide +kernel), List.mem_of_getElem? (i := 1827) (by decide +kernel)⟩
theorem lw_p92 : lw_okq (⟨"ColdPlungeModel", "isRest", "(I)Z"⟩, 41) := ⟨⟨by decide +kernel, by decide +kernel⟩, List.mem_of_getElem? (i := 1281) (by decide +kernel), List.mem_of_getElem? (i := 1846) (by decide +kernel), List.mem_of_getElem? (i := 1847) (by decide +kernel)⟩
theorem lw_p93 : lw_okq (⟨"ColdPlungeModel", "seekEvens", "(I)I"⟩, 41) := ⟨⟨by decide +kernel, by decide +kernel⟩, List.mem_of_getElem? (i := 1281) (by decide +kernel), List.mem_of_getElem? (i := 1865) (by decide +kernel), List.mem_of_getElem? (i := 1866) (by decide +kernel)⟩
theorem lw_p94 : lw_okq (⟨"ColdPlungeModel", "tryVisits", "(I)V"⟩, 41) := ⟨⟨by decide +kernel, by decide +kernel⟩, List.mem_of_getElem? (i := 1281) (by decide +kernel), List.mem_of_getElem? (i := 1877) (by decide +kernel), List.mem_of_getElem? (i := 1878) (by decide +kernel)⟩
theorem lw_p95 : lw_okq (⟨"ColdPlungeModel", "morningWhy", "(ZII)I"⟩, 41) := ⟨⟨by decide +kernel, by decide +kernel⟩, List.mem_of_getElem? (i := 1281) (by decide +kernel), List.mem_of_getElem? (i := 1896) (by decide +kernel), List.mem_of_getElem? (i := 1897) (by decide +kernel)⟩
def lw_privs_6 : List (MethodName × Nat) := [(⟨"ColdPlungeModel", "tryOrde\x72", "(III)Z"⟩, 41), (⟨"ColdPlungeModel", "seekBaths", "()Z"⟩, 41), (⟨"ColdPlungeModel", "tryBaths", "(II)V"⟩, 41), (⟨"ColdPlungeModel", "canMeetOn", "([III)Z"⟩, 41), (⟨"ColdPlungeModel", "fewestOf", "(I)I"⟩, 41), (⟨"ColdPlungeModel", "tryMeetings", "(IIZ)Z"⟩, 41), (⟨"ColdPlungeModel", "spread", "(I)I"⟩, 41), (⟨"ColdPlungeModel", "circleOf", "(I)I"⟩, 41), (⟨"ColdPlungeModel", "seekSets", "(I)I"⟩, 41), (⟨"ColdPlungeModel", "wrongFelt", "(II)I"⟩, 41), (⟨"ColdPlungeModel", "askOf", "()I"⟩, 41), (⟨"ColdPlungeModel", "leavesOf", "(I)I"⟩, 41), (⟨"ColdPlungeModel", "isRest", "(I)Z"⟩, 41), (⟨"ColdPlungeModel", "seekEvens", "(I)I"⟩, 41), (⟨"ColdPlungeModel", "tryVisits", "(I)V"⟩, 41), (⟨"ColdPlungeModel", "morningWhy", "(ZII)I"⟩, 41)]
theorem lw_r6 : ∀ q ∈ lw_privs_6, lw_okq q := List.forall_mem_cons.mpr ⟨lw_p80, List.forall_mem_cons.mpr ⟨lw_p81, List.forall_mem_cons.mpr ⟨lw_p82, List.forall_mem_cons.mpr ⟨lw_p83, List.forall_mem_cons.mpr ⟨lw_p84, List.forall_mem_cons.mpr ⟨lw_p85, List.forall_mem_cons.mpr ⟨lw_p86, List.forall_mem_cons.mpr ⟨lw_p87, List.forall_mem_cons.mpr ⟨lw_p88, List.forall_mem_cons.mpr ⟨lw_p89, List.forall_mem_cons.mpr ⟨lw_p90, List.forall_mem_cons.mpr ⟨lw_p91, List.forall_mem_cons.mpr ⟨lw_p92, List.forall_mem_cons.mpr ⟨lw_p93, List.forall_mem_cons.mpr ⟨lw_p94, List.forall_mem_cons.mpr ⟨lw_p95, fun _ h => absurd h List.not_mem_nil⟩⟩⟩⟩⟩⟩⟩⟩⟩⟩⟩⟩⟩⟩⟩⟩
theorem lw_p96 : lw_okq (⟨"ColdPlungeModel", "change", "(IZ)I"⟩, 41) := ⟨⟨by decide +kernel, by decide +kernel⟩, List.mem_of_getElem? (i := 1281) (by decide +kernel), List.mem_of_getElem? (i := 1910) (by decide +kernel), List.mem_of_getElem? (i := 1911) (by decide +kernel)⟩
theorem lw_p97 : lw_okq (⟨"ColdPlungeModel", "note", "()V"⟩, 41) := ⟨⟨by decide +kernel, by decide +kernel⟩, List.mem_of_getElem? (i := 1281) (by decide +kernel), List.mem_of_getElem? (i := 1914) (by decide +kernel), List.mem_of_getElem? (i := 1915) (by decide +kernel)⟩
theorem lw_p98 : lw_okq (⟨"ColdPlungeModel", "isNot", "(I)Z"⟩, 41) := ⟨⟨by decide +kernel, by decide +kernel⟩, List.mem_of_getElem? (i := 1281) (by decide +kernel), List.mem_of_getElem? (i := 1926) (by decide +kernel), List.mem_of_getElem? (i := 1927) (by decide +kernel)⟩
theorem lw_p99 : lw_okq (⟨"ColdPlungeModel", "pairs", "()I"⟩, 41) := ⟨⟨by decide +kernel, by decide +kernel⟩, List.mem_of_getElem? (i := 1281) (by decide +kernel), List.mem_of_getElem? (i := 1954) (by decide +kernel), List.mem_of_getElem? (i := 1955) (by decide +kernel)⟩
def lw_privs_7 : List (MethodName × Nat) := [(⟨"ColdPlungeModel", "change", "(IZ)I"⟩, 41), (⟨"ColdPlungeModel", "note", "()V"⟩, 41), (⟨"ColdPlungeModel", "isNot", "(I)Z"⟩, 41), (⟨"ColdPlungeModel", "pairs", "()I"⟩, 41)]
theorem lw_r7 : ∀ q ∈ lw_privs_7, lw_okq q := List.forall_mem_cons.mpr ⟨lw_p96, List.forall_mem_cons.mpr ⟨lw_p97, List.forall_mem_cons.mpr ⟨lw_p98, List.forall_mem_cons.mpr ⟨lw_p99, fun _ h => absurd h List.not_mem_nil⟩⟩⟩⟩
def lw_privs : List (MethodName × Nat) := lw_privs_1 ++ (lw_privs_2 ++ (lw_privs_3 ++ (lw_privs_4 ++ (lw_privs_5 ++ (lw_privs_6 ++ (lw_privs_7))))))
def lw_tbl : List Cond := k2_sels lw_privs ++ tables_1
theorem lw_privs_ok : ∀ q ∈ lw_privs, lw_okq q := by
  show ∀ q ∈ lw_privs_1 ++ (lw_privs_2 ++ (lw_privs_3 ++ (lw_privs_4 ++ (lw_privs_5 ++ (lw_privs_6 ++ (lw_privs_7)))))), lw_okq q
  exact List.forall_mem_append.mpr ⟨lw_r1, List.forall_mem_append.mpr ⟨lw_r2, List.forall_mem_append.mpr ⟨lw_r3, List.forall_mem_append.mpr ⟨lw_r4, List.forall_mem_append.mpr ⟨lw_r5, List.forall_mem_append.mpr ⟨lw_r6, lw_r7⟩⟩⟩⟩⟩⟩
def RX0 : String := "ColdPlunge$Bath"
def TX0 : u_T := fun k => match k with
  | 0 => ("ColdPlunge$Bath", "told", "LColdPlunge$Told;", false)
  | 1 => ("ColdPlunge$Bath", "in", "I", false)
  | 2 => ("ColdPlunge$Bath", "met", "I", false)
  | 3 => ("ColdPlunge$Bath", "passed", "I", false)
  | 4 => ("ColdPlunge$Bath", "knows", "[I", true)
  | 5 => ("ColdPlunge$Bath", "foes", "[I", true)
  | 6 => ("ColdPlunge$Bath", "boundless", "[I", true)
  | _ => ("ColdPlunge$Bath", "needs", "[I", true)
def tyX0 : Nat → FieldType := fun k => match k with
  | 0 => .object "ColdPlunge$Told"
  | 1 => .int
  | 2 => .int
  | 3 => .int
  | 4 => .array .int
  | 5 => .array .int
  | 6 => .array .int
  | _ => .array .int
theorem nmX0 : ∀ a, a < 8 → ∀ b, b < 8 → a ≠ b → (TX0 a).2.1 ≠ (TX0 b).2.1 := by decide +kernel
theorem tyX0_ok : ∀ k, k < 8 → parseFieldDescriptor (TX0 k).2.2.1 = some (tyX0 k) := by decide +kernel
def RX1 : String := "ColdPlunge$Companies"
def TX1 : u_T := fun k => match k with
  | _ => ("", "", "", false)
def tyX1 : Nat → FieldType := fun k => match k with
  | _ => .int
theorem nmX1 : ∀ a, a < 0 → ∀ b, b < 0 → a ≠ b → (TX1 a).2.1 ≠ (TX1 b).2.1 := by decide +kernel
theorem tyX1_ok : ∀ k, k < 0 → parseFieldDescriptor (TX1 k).2.2.1 = some (tyX1 k) := by decide +kernel
def RX2 : String := "ColdPlunge$History"
def TX2 : u_T := fun k => match k with
  | 0 => ("ColdPlunge$History", "keptIn", "[I", true)
  | 1 => ("ColdPlunge$History", "keptMet", "[I", true)
  | 2 => ("ColdPlunge$History", "keptPassed", "[I", true)
  | 3 => ("ColdPlunge$History", "imageIn", "[I", true)
  | 4 => ("ColdPlunge$History", "imageMet", "[I", true)
  | 5 => ("ColdPlunge$History", "imagePassed", "[I", true)
  | 6 => ("ColdPlunge$History", "next", "I", false)
  | 7 => ("ColdPlunge$History", "kept", "I", false)
  | _ => ("ColdPlunge$History", "images", "I", false)
def tyX2 : Nat → FieldType := fun k => match k with
  | 0 => .array .int
  | 1 => .array .int
  | 2 => .array .int
  | 3 => .array .int
  | 4 => .array .int
  | 5 => .array .int
  | 6 => .int
  | 7 => .int
  | _ => .int
theorem nmX2 : ∀ a, a < 9 → ∀ b, b < 9 → a ≠ b → (TX2 a).2.1 ≠ (TX2 b).2.1 := by decide +kernel
theorem tyX2_ok : ∀ k, k < 9 → parseFieldDescriptor (TX2 k).2.2.1 = some (tyX2 k) := by decide +kernel
def RX3 : String := "ColdPlunge$Introductions"
def TX3 : u_T := fun k => match k with
  | 0 => ("ColdPlunge$Introductions", "known", "[I", true)
  | _ => ("ColdPlunge$Introductions", "first", "I", false)
def tyX3 : Nat → FieldType := fun k => match k with
  | 0 => .array .int
  | _ => .int
theorem nmX3 : ∀ a, a < 2 → ∀ b, b < 2 → a ≠ b → (TX3 a).2.1 ≠ (TX3 b).2.1 := by decide +kernel
theorem tyX3_ok : ∀ k, k < 2 → parseFieldDescriptor (TX3 k).2.2.1 = some (tyX3 k) := by decide +kernel
def RX4 : String := "ColdPlunge$Memory"
def TX4 : u_T := fun k => match k with
  | _ => ("", "", "", false)
def tyX4 : Nat → FieldType := fun k => match k with
  | _ => .int
theorem nmX4 : ∀ a, a < 0 → ∀ b, b < 0 → a ≠ b → (TX4 a).2.1 ≠ (TX4 b).2.1 := by decide +kernel
theorem tyX4_ok : ∀ k, k < 0 → parseFieldDescriptor (TX4 k).2.2.1 = some (tyX4 k) := by decide +kernel
def RX5 : String := "ColdPlunge$Partition"
def TX5 : u_T := fun k => match k with
  | _ => ("ColdPlunge$Partition", "rows", "[I", true)
def tyX5 : Nat → FieldType := fun k => match k with
  | _ => .array .int
theorem nmX5 : ∀ a, a < 1 → ∀ b, b < 1 → a ≠ b → (TX5 a).2.1 ≠ (TX5 b).2.1 := by decide +kernel
theorem tyX5_ok : ∀ k, k < 1 → parseFieldDescriptor (TX5 k).2.2.1 = some (tyX5 k) := by decide +kernel
def RX6 : String := "ColdPlunge$Reade\x72"
def TX6 : u_T := fun k => match k with
  | 0 => ("ColdPlunge$Reade\x72", "tokens", "LColdPlunge$Tokens;", true)
  | 1 => ("ColdPlunge$Reade\x72", "told", "LColdPlunge$Told;", false)
  | 2 => ("ColdPlunge$Reade\x72", "headTold", "Z", false)
  | 3 => ("ColdPlunge$Reade\x72", "met", "I", false)
  | 4 => ("ColdPlunge$Reade\x72", "value", "I", false)
  | 5 => ("ColdPlunge$Reade\x72", "found", "I", false)
  | _ => ("ColdPlunge$Reade\x72", "place", "I", false)
def tyX6 : Nat → FieldType := fun k => match k with
  | 0 => .object "ColdPlunge$Tokens"
  | 1 => .object "ColdPlunge$Told"
  | 2 => .boolean
  | 3 => .int
  | 4 => .int
  | 5 => .int
  | _ => .int
theorem nmX6 : ∀ a, a < 7 → ∀ b, b < 7 → a ≠ b → (TX6 a).2.1 ≠ (TX6 b).2.1 := by decide +kernel
theorem tyX6_ok : ∀ k, k < 7 → parseFieldDescriptor (TX6 k).2.2.1 = some (tyX6 k) := by decide +kernel
def RX7 : String := "ColdPlunge$Tokens"
def TX7 : u_T := fun k => match k with
  | 0 => ("ColdPlunge$Tokens", "text", "[B", false)
  | 1 => ("ColdPlunge$Tokens", "end", "I", false)
  | 2 => ("ColdPlunge$Tokens", "afte\x72", "I", false)
  | 3 => ("ColdPlunge$Tokens", "at", "I", false)
  | _ => ("ColdPlunge$Tokens", "sort", "I", false)
def tyX7 : Nat → FieldType := fun k => match k with
  | 0 => .array .byte
  | 1 => .int
  | 2 => .int
  | 3 => .int
  | _ => .int
theorem nmX7 : ∀ a, a < 5 → ∀ b, b < 5 → a ≠ b → (TX7 a).2.1 ≠ (TX7 b).2.1 := by decide +kernel
theorem tyX7_ok : ∀ k, k < 5 → parseFieldDescriptor (TX7 k).2.2.1 = some (tyX7 k) := by decide +kernel
def RX8 : String := "ColdPlunge$Told"
def TX8 : u_T := fun k => match k with
  | 0 => ("ColdPlunge$Told", "warm", "I", false)
  | 1 => ("ColdPlunge$Told", "chill", "I", false)
  | 2 => ("ColdPlunge$Told", "ice", "I", false)
  | 3 => ("ColdPlunge$Told", "visits", "I", false)
  | 4 => ("ColdPlunge$Told", "bathers", "I", false)
  | 5 => ("ColdPlunge$Told", "pairs", "I", false)
  | 6 => ("ColdPlunge$Told", "unsures", "I", false)
  | 7 => ("ColdPlunge$Told", "felts", "I", false)
  | 8 => ("ColdPlunge$Told", "names", "[J", true)
  | 9 => ("ColdPlunge$Told", "kinds", "[I", true)
  | 10 => ("ColdPlunge$Told", "bears", "[I", true)
  | 11 => ("ColdPlunge$Told", "ties", "[I", true)
  | 12 => ("ColdPlunge$Told", "unsureOne", "[I", true)
  | 13 => ("ColdPlunge$Told", "unsureOthe\x72", "[I", true)
  | 14 => ("ColdPlunge$Told", "unsureBy", "[I", true)
  | 15 => ("ColdPlunge$Told", "feltWarmth", "[I", true)
  | _ => ("ColdPlunge$Told", "feltWith", "[I", true)
def tyX8 : Nat → FieldType := fun k => match k with
  | 0 => .int
  | 1 => .int
  | 2 => .int
  | 3 => .int
  | 4 => .int
  | 5 => .int
  | 6 => .int
  | 7 => .int
  | 8 => .array .long
  | 9 => .array .int
  | 10 => .array .int
  | 11 => .array .int
  | 12 => .array .int
  | 13 => .array .int
  | 14 => .array .int
  | 15 => .array .int
  | _ => .array .int
theorem nmX8 : ∀ a, a < 17 → ∀ b, b < 17 → a ≠ b → (TX8 a).2.1 ≠ (TX8 b).2.1 := by decide +kernel
theorem tyX8_ok : ∀ k, k < 17 → parseFieldDescriptor (TX8 k).2.2.1 = some (tyX8 k) := by decide +kernel
def RX9 : String := "ColdPlunge$Visitors"
def TX9 : u_T := fun k => match k with
  | _ => ("ColdPlunge$Visitors", "seed", "I", false)
def tyX9 : Nat → FieldType := fun k => match k with
  | _ => .int
theorem nmX9 : ∀ a, a < 1 → ∀ b, b < 1 → a ≠ b → (TX9 a).2.1 ≠ (TX9 b).2.1 := by decide +kernel
theorem tyX9_ok : ∀ k, k < 1 → parseFieldDescriptor (TX9 k).2.2.1 = some (tyX9 k) := by decide +kernel
def RX10 : String := "ColdPlunge"
def TX10 : u_T := fun k => match k with
  | 0 => ("ColdPlunge", "tape", "[B", true)
  | 1 => ("ColdPlunge", "fed", "I", false)
  | 2 => ("ColdPlunge", "refusal", "I", false)
  | 3 => ("ColdPlunge", "lastFault", "I", false)
  | 4 => ("ColdPlunge", "faultPlace", "I", false)
  | 5 => ("ColdPlunge", "spareText", "LColdPlunge$Told;", false)
  | 6 => ("ColdPlunge", "reade\x72", "LColdPlunge$Reader;", true)
  | 7 => ("ColdPlunge", "bath", "LColdPlunge$Bath;", true)
  | 8 => ("ColdPlunge", "history", "LColdPlunge$History;", true)
  | 9 => ("ColdPlunge", "companies", "LColdPlunge$Companies;", true)
  | 10 => ("ColdPlunge", "partition", "LColdPlunge$Partition;", true)
  | 11 => ("ColdPlunge", "introductions", "LColdPlunge$Introductions;", true)
  | 12 => ("ColdPlunge", "memory", "LColdPlunge$Memory;", true)
  | _ => ("ColdPlunge", "visitors", "LColdPlunge$Visitors;", true)
def tyX10 : Nat → FieldType := fun k => match k with
  | 0 => .array .byte
  | 1 => .int
  | 2 => .int
  | 3 => .int
  | 4 => .int
  | 5 => .object "ColdPlunge$Told"
  | 6 => .object "ColdPlunge$Reade\x72"
  | 7 => .object "ColdPlunge$Bath"
  | 8 => .object "ColdPlunge$History"
  | 9 => .object "ColdPlunge$Companies"
  | 10 => .object "ColdPlunge$Partition"
  | 11 => .object "ColdPlunge$Introductions"
  | 12 => .object "ColdPlunge$Memory"
  | _ => .object "ColdPlunge$Visitors"
theorem nmX10 : ∀ a, a < 14 → ∀ b, b < 14 → a ≠ b → (TX10 a).2.1 ≠ (TX10 b).2.1 := by decide +kernel
theorem tyX10_ok : ∀ k, k < 14 → parseFieldDescriptor (TX10 k).2.2.1 = some (tyX10 k) := by decide +kernel
def RX11 : String := "ColdPlungeModel"
def TX11 : u_T := fun k => match k with
  | 0 => ("ColdPlungeModel", "thrown", "I", false)
  | 1 => ("ColdPlungeModel", "tape", "[I", true)
  | 2 => ("ColdPlungeModel", "taped", "I", false)
  | 3 => ("ColdPlungeModel", "size", "I", false)
  | 4 => ("ColdPlungeModel", "at", "I", false)
  | 5 => ("ColdPlungeModel", "end", "I", false)
  | 6 => ("ColdPlungeModel", "token", "I", false)
  | 7 => ("ColdPlungeModel", "whole", "I", false)
  | 8 => ("ColdPlungeModel", "nameSize", "I", false)
  | 9 => ("ColdPlungeModel", "fault", "I", false)
  | 10 => ("ColdPlungeModel", "place", "I", false)
  | 11 => ("ColdPlungeModel", "trouble", "I", false)
  | 12 => ("ColdPlungeModel", "letters", "[I", true)
  | 13 => ("ColdPlungeModel", "failed", "Z", false)
  | 14 => ("ColdPlungeModel", "hasPlunge", "Z", false)
  | 15 => ("ColdPlungeModel", "\x72", "[I", true)
  | 16 => ("ColdPlungeModel", "fresh", "[I", true)
  | 17 => ("ColdPlungeModel", "st", "[I", true)
  | 18 => ("ColdPlungeModel", "undone", "[I", true)
  | 19 => ("ColdPlungeModel", "kept", "[I", true)
  | 20 => ("ColdPlungeModel", "undos", "I", false)
  | 21 => ("ColdPlungeModel", "images", "I", false)
  | 22 => ("ColdPlungeModel", "minutesGone", "I", false)
  | 23 => ("ColdPlungeModel", "orde\x72", "[I", true)
  | 24 => ("ColdPlungeModel", "bath", "[I", true)
  | 25 => ("ColdPlungeModel", "best", "[I", true)
  | 26 => ("ColdPlungeModel", "members", "[I", true)
  | 27 => ("ColdPlungeModel", "fewestBaths", "I", false)
  | 28 => ("ColdPlungeModel", "trial", "[I", true)
  | 29 => ("ColdPlungeModel", "firstPai\x72", "I", false)
  | 30 => ("ColdPlungeModel", "often", "[I", true)
  | 31 => ("ColdPlungeModel", "setMany", "I", false)
  | 32 => ("ColdPlungeModel", "someOf", "I", false)
  | 33 => ("ColdPlungeModel", "allOf", "I", false)
  | 34 => ("ColdPlungeModel", "firstEven", "I", false)
  | 35 => ("ColdPlungeModel", "allWeight", "J", false)
  | 36 => ("ColdPlungeModel", "bornWeight", "J", false)
  | 37 => ("ColdPlungeModel", "warmthSum", "J", false)
  | 38 => ("ColdPlungeModel", "icyWeight", "J", false)
  | 39 => ("ColdPlungeModel", "stayed", "[I", true)
  | _ => ("ColdPlungeModel", "waited", "I", false)
def tyX11 : Nat → FieldType := fun k => match k with
  | 0 => .int
  | 1 => .array .int
  | 2 => .int
  | 3 => .int
  | 4 => .int
  | 5 => .int
  | 6 => .int
  | 7 => .int
  | 8 => .int
  | 9 => .int
  | 10 => .int
  | 11 => .int
  | 12 => .array .int
  | 13 => .boolean
  | 14 => .boolean
  | 15 => .array .int
  | 16 => .array .int
  | 17 => .array .int
  | 18 => .array .int
  | 19 => .array .int
  | 20 => .int
  | 21 => .int
  | 22 => .int
  | 23 => .array .int
  | 24 => .array .int
  | 25 => .array .int
  | 26 => .array .int
  | 27 => .int
  | 28 => .array .int
  | 29 => .int
  | 30 => .array .int
  | 31 => .int
  | 32 => .int
  | 33 => .int
  | 34 => .int
  | 35 => .long
  | 36 => .long
  | 37 => .long
  | 38 => .long
  | 39 => .array .int
  | _ => .int
theorem nmX11 : ∀ a, a < 41 → ∀ b, b < 41 → a ≠ b → (TX11 a).2.1 ≠ (TX11 b).2.1 := by decide +kernel
theorem tyX11_ok : ∀ k, k < 41 → parseFieldDescriptor (TX11 k).2.2.1 = some (tyX11 k) := by decide +kernel
def RL : String := "ColdPlungeLaw"
abbrev vwCl : List vw_C := [(RX0, TX0, 8), (RX1, TX1, 0), (RX2, TX2, 9), (RX3, TX3, 2), (RX4, TX4, 0), (RX5, TX5, 1), (RX6, TX6, 7), (RX7, TX7, 5), (RX8, TX8, 17), (RX9, TX9, 1), (RX10, TX10, 14), (RX11, TX11, 41)]
def cp_WT : List Cond := lw_tbl.filter goodWord
set_option maxRecDepth 100000 in
theorem cp_in0_a : ∀ w ∈ u_ws RX0 TX0 8, w ∈ lw_tbl := by decide +kernel
theorem cp_in0_b : ∀ w ∈ u_ws RX0 TX0 8, goodWord w = true := by decide +kernel
theorem cp_in0 : ∀ w ∈ u_ws RX0 TX0 8, w ∈ cp_WT := fun w h => List.mem_filter.mpr ⟨cp_in0_a w h, cp_in0_b w h⟩
set_option maxRecDepth 100000 in
theorem cp_in1_a : ∀ w ∈ u_ws RX1 TX1 0, w ∈ lw_tbl := by decide +kernel
theorem cp_in1_b : ∀ w ∈ u_ws RX1 TX1 0, goodWord w = true := by decide +kernel
theorem cp_in1 : ∀ w ∈ u_ws RX1 TX1 0, w ∈ cp_WT := fun w h => List.mem_filter.mpr ⟨cp_in1_a w h, cp_in1_b w h⟩
set_option maxRecDepth 100000 in
theorem cp_in2_a : ∀ w ∈ u_ws RX2 TX2 9, w ∈ lw_tbl := by decide +kernel
theorem cp_in2_b : ∀ w ∈ u_ws RX2 TX2 9, goodWord w = true := by decide +kernel
theorem cp_in2 : ∀ w ∈ u_ws RX2 TX2 9, w ∈ cp_WT := fun w h => List.mem_filter.mpr ⟨cp_in2_a w h, cp_in2_b w h⟩
set_option maxRecDepth 100000 in
theorem cp_in3_a : ∀ w ∈ u_ws RX3 TX3 2, w ∈ lw_tbl := by decide +kernel
theorem cp_in3_b : ∀ w ∈ u_ws RX3 TX3 2, goodWord w = true := by decide +kernel
theorem cp_in3 : ∀ w ∈ u_ws RX3 TX3 2, w ∈ cp_WT := fun w h => List.mem_filter.mpr ⟨cp_in3_a w h, cp_in3_b w h⟩
set_option maxRecDepth 100000 in
theorem cp_in4_a : ∀ w ∈ u_ws RX4 TX4 0, w ∈ lw_tbl := by decide +kernel
theorem cp_in4_b : ∀ w ∈ u_ws RX4 TX4 0, goodWord w = true := by decide +kernel
theorem cp_in4 : ∀ w ∈ u_ws RX4 TX4 0, w ∈ cp_WT := fun w h => List.mem_filter.mpr ⟨cp_in4_a w h, cp_in4_b w h⟩
set_option maxRecDepth 100000 in
theorem cp_in5_a : ∀ w ∈ u_ws RX5 TX5 1, w ∈ lw_tbl := by decide +kernel
theorem cp_in5_b : ∀ w ∈ u_ws RX5 TX5 1, goodWord w = true := by decide +kernel
theorem cp_in5 : ∀ w ∈ u_ws RX5 TX5 1, w ∈ cp_WT := fun w h => List.mem_filter.mpr ⟨cp_in5_a w h, cp_in5_b w h⟩
set_option maxRecDepth 100000 in
theorem cp_in6_a : ∀ w ∈ u_ws RX6 TX6 7, w ∈ lw_tbl := by decide +kernel
theorem cp_in6_b : ∀ w ∈ u_ws RX6 TX6 7, goodWord w = true := by decide +kernel
theorem cp_in6 : ∀ w ∈ u_ws RX6 TX6 7, w ∈ cp_WT := fun w h => List.mem_filter.mpr ⟨cp_in6_a w h, cp_in6_b w h⟩
set_option maxRecDepth 100000 in
theorem cp_in7_a : ∀ w ∈ u_ws RX7 TX7 5, w ∈ lw_tbl := by decide +kernel
theorem cp_in7_b : ∀ w ∈ u_ws RX7 TX7 5, goodWord w = true := by decide +kernel
theorem cp_in7 : ∀ w ∈ u_ws RX7 TX7 5, w ∈ cp_WT := fun w h => List.mem_filter.mpr ⟨cp_in7_a w h, cp_in7_b w h⟩
set_option maxRecDepth 100000 in
theorem cp_in8_a : ∀ w ∈ u_ws RX8 TX8 17, w ∈ lw_tbl := by decide +kernel
theorem cp_in8_b : ∀ w ∈ u_ws RX8 TX8 17, goodWord w = true := by decide +kernel
theorem cp_in8 : ∀ w ∈ u_ws RX8 TX8 17, w ∈ cp_WT := fun w h => List.mem_filter.mpr ⟨cp_in8_a w h, cp_in8_b w h⟩
set_option maxRecDepth 100000 in
theorem cp_in9_a : ∀ w ∈ u_ws RX9 TX9 1, w ∈ lw_tbl := by decide +kernel
theorem cp_in9_b : ∀ w ∈ u_ws RX9 TX9 1, goodWord w = true := by decide +kernel
theorem cp_in9 : ∀ w ∈ u_ws RX9 TX9 1, w ∈ cp_WT := fun w h => List.mem_filter.mpr ⟨cp_in9_a w h, cp_in9_b w h⟩
set_option maxRecDepth 100000 in
theorem cp_in10_a : ∀ w ∈ u_ws RX10 TX10 14, w ∈ lw_tbl := by decide +kernel
theorem cp_in10_b : ∀ w ∈ u_ws RX10 TX10 14, goodWord w = true := by decide +kernel
theorem cp_in10 : ∀ w ∈ u_ws RX10 TX10 14, w ∈ cp_WT := fun w h => List.mem_filter.mpr ⟨cp_in10_a w h, cp_in10_b w h⟩
set_option maxRecDepth 100000 in
theorem cp_in11_a : ∀ w ∈ u_ws RX11 TX11 41, w ∈ lw_tbl := by decide +kernel
theorem cp_in11_b : ∀ w ∈ u_ws RX11 TX11 41, goodWord w = true := by decide +kernel
theorem cp_in11 : ∀ w ∈ u_ws RX11 TX11 41, w ∈ cp_WT := fun w h => List.mem_filter.mpr ⟨cp_in11_a w h, cp_in11_b w h⟩
def cp_ty (c k : Nat) : FieldType := match c with
  | 0 => tyX0 k
  | 1 => tyX1 k
  | 2 => tyX2 k
  | 3 => tyX3 k
  | 4 => tyX4 k
  | 5 => tyX5 k
  | 6 => tyX6 k
  | 7 => tyX7 k
  | 8 => tyX8 k
  | 9 => tyX9 k
  | 10 => tyX10 k
  | _ => tyX11 k
